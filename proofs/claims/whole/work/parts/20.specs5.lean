theorem pvF_s {I : vI} {q : Int} {N g x : Nat} {s c a : Int} : pvF I q N (g + 1) x s c a = pIf (¬ (0 ≤ (I 36 (q + (x : Int)).toNat).toInt ∧ (I 36 (q + (x : Int)).toNat).toInt < (I 27 1).toInt) ∨ (∃ y, y < x ∧ aheadP I q (x : Int) y) ∨ leadsF I (I 36 (q + (x : Int)).toNat).toInt.toNat s < 0) (-1 - (x : Int))
      (pvF I q N g (x + 1) (leadsF I (I 36 (q + (x : Int)).toNat).toInt.toNat s)
        (c + if c < (I 27 12).toInt ∧ (I 38 c.toNat).toInt = leadsF I (I 36 (q + (x : Int)).toNat).toInt.toNat s then 1 else 0) (a + (I 30 (I 36 (q + (x : Int)).toNat).toInt.toNat).toInt)) := rfl
theorem pvF_0 {I : vI} {w : Int32} {q : Int} {N : Nat} : ∀ (g x : Nat) (s c a : Int), pvF (up2 I 27 0 w) q N g x s c a = pvF I q N g x s c a
  | 0, x, s, c, a => rfl
  | g + 1, x, s, c, a => by
    rw [pvF_s, pvF_s, pvF_0 g]
    rfl
/-- an answer of 64 bits, its number, and the memory behind it -/
def qz (s : vI × Int) (I' : vI) (r : Option Value) : Prop := ∃ v : Int64, s = (I', v.toInt) ∧ r = some (.long v)
