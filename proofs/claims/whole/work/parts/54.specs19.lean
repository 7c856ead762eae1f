theorem MB_w {x y : Int32} {w : Nat → Int32} {m r : Nat} (h : MB x w m) (hr : (w m).toInt = (r : Int)) (e : ∀ i : Nat, i < 16 → bt y i = (bt x i || decide (i = r))) : MB y w (m + 1) := fun i hi => by
  rw [e i hi, h i hi, exE_s, hr]
  congr 1
  by_cases q : i = r
  · subst q; simp
  · have : ¬ (r : Int) = (i : Int) := by omega
    simp [q, this]
theorem ahe_e {X : vI} {q fn m : Nat} : (∃ y, y < m ∧ aheadP X ((32 * q + fn : Nat) : Int) (m : Int) y) ↔ exE (fun y => X 36 (32 * q + fn + y)) (X 36 (32 * q + fn + m)).toInt m = true := by
  rw [exE_i]
  have e1 : ∀ y : Nat, (((32 * q + fn : Nat) : Int) + (y : Int)).toNat = 32 * q + fn + y := fun y => by omega
  unfold aheadP
  simp only [e1]
theorem leads_2 {n : Nat} {sh : vS} {I : vI} {R : vR} {X : vI} {r j : Nat} {s : Int} (h : RD n sh I R X r j) (h0 : 0 ≤ leadsF X r s) : leadsF X r s ≤ 9 := by
  obtain ⟨-, -, -, -, -, -, -, h1, h2, -⟩ := h
  unfold leadsF at h0 ⊢
  (repeat' split) <;> omega
