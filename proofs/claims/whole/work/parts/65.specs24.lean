def cpyI (I : vI) (p q i j m : Nat) : vI := fun a b => if a = q ∧ j ≤ b ∧ b < j + m then I p (i + (b - j)) else I a b
theorem cpX {X : vI} {k i o j : Int32} {p q a b c : Nat} (hk : k.toInt = (p : Int)) (ho : o.toInt = (q : Int)) (hi : i.toInt = (a : Int)) (hj : j.toInt = (b : Int)) : (∀ r, r ≠ 36 → r ≠ 37 → cp2F X (cp1F X k i c) o j c r = X r) ∧ ∀ y, cp2F X (cp1F X k i c) o j c 36 y = if 32 * q + b ≤ y ∧ y < 32 * q + b + c then X 36 (32 * p + a + (y - (32 * q + b))) else X 36 y := by
  have e1 : (32 * o.toInt) + j.toInt = ((32 * q + b : Nat) : Int) := by omega
  refine ⟨fun r h1 h2 => ?_, fun y => ?_⟩
  · unfold cp2F cp1F
    rw [cpF_r h1, cpF_r h2]
  · unfold cp2F
    rw [e1, cpF_c]
    by_cases z : 32 * q + b ≤ y ∧ y < 32 * q + b + c
    · rw [if_pos z, if_pos z]
      have e := cpF_c (I := X) (d := 37) (q := 0) (g := fun x => X 36 (((32 * k.toInt) + i.toInt) + (x : Int)).toNat) (b := y - (32 * q + b)) c
      refine Eq.trans e ?_
      rw [if_pos (by omega)]
      show X 36 _ = _
      congr 1
      omega
    · rw [if_neg z, if_neg z]
      unfold cp1F
      rw [cpF_o (by decide)]
