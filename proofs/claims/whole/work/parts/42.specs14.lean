theorem maxLT {x y z : Int64} {a b : Int} (e : z = if x < y then y else x) (hx : x.toInt = a) (hy : y.toInt = b) : z.toInt = max a b := by
  subst e hx hy
  split <;> rename_i h <;> rw [tl_lt] at h <;> omega
theorem absLT {x z : Int64} {a : Int} (e : z = if 0 < x then x else -x) (hx : x.toInt = a) (h : -9223372036854775808 < a) : z.toInt = if a < 0 then -a else a := by
  subst e hx
  have h2 := fb_rngL x
  have h0 : (0 : Int64).toInt = 0 := rfl
  have h3 : (-x).toInt = -x.toInt := by rw [Int64.toInt_neg]; exact fb_bmodL (by omega) (by omega)
  split <;> rename_i q <;> rw [tl_lt, h0] at q
  · rw [if_neg (by omega)]
  · rw [h3]; split <;> omega
theorem kdC {n : Nat} {sh : vS} {I : vI} {R : vR} {X : vI} {a j : Nat} (hK : KD n sh I R X a j) : ((X 52 a).toInt = 0 ∧ (sh j).1 = 1) ∨ ((X 52 a).toInt = 1 ∧ (sh j).1 = 5) ∨ ((X 52 a).toInt = 2 ∧ (sh j).1 = 4) := by
  obtain ⟨-, -, -, h3, -, -, -, -, h4, -⟩ := hK
  have h5 : (sh j).1 = crC (X 52 a).toInt := by rw [h3]
  unfold crC at h5
  rcases (show (X 52 a).toInt = 0 ∨ (X 52 a).toInt = 1 ∨ (X 52 a).toInt = 2 by omega) with h | h | h <;> rw [h] at h5 <;> simp at h5 <;> omega
