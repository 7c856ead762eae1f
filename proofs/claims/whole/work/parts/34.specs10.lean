/-- an end where numbers of 32 and of 64 bits may have changed -/
def PIL (n : Nat) (sh : vS) (R : vR) (Q : vI → vL → Option Value → Prop) : PT := fun r n' sh' I' L' R' => n = n' ∧ sh = sh' ∧ R = R' ∧ Q I' L' r
theorem wSo {n : Nat} {sh : vS} {R : vR} (hw : WF n sh R) {q : Nat} (h : q < 4) : (19 + 2 * q < n ∧ 20 + 2 * q < n) ∧ (sh (19 + 2 * q)).1 = 9 ∧ sh (20 + 2 * q) = (13, 32) ∧ R (19 + 2 * q) 0 = some (20 + 2 * q) ∧ R 18 q = some (19 + 2 * q) := by
  have h1 := hw.1
  rcases (show q = 0 ∨ q = 1 ∨ q = 2 ∨ q = 3 by omega) with rfl | rfl | rfl | rfl <;>
    exact ⟨⟨by omega, by omega⟩, wS1 hw (by decide) rfl, wS hw (by decide) rfl, wR hw rfl, wR hw rfl⟩
/-- sheet q of the class holds what the reference's does -/
def JSq (I X : vI) (q : Nat) : Prop := ((I (19 + 2 * q) 1).toInt = 1 ∧ 0 ≤ (X 34 q).toInt ∧ (X 34 q).toInt ≤ 32 ∧ I (19 + 2 * q) 2 = X 35 q ∧ I (19 + 2 * q) 3 = X 34 q ∧ ∀ i : Nat, (i : Int) < (X 34 q).toInt → I (20 + 2 * q) i = X 36 (32 * q + i)) ∨ ((I (19 + 2 * q) 1).toInt = 0 ∧ (X 34 q).toInt = -1)
/-- a control's watch -/
def JCw (I : vI) (L : vL) (X : vI) (j c : Nat) : Prop := ((X 49 c).toInt = 0 ∧ (L j 5).toInt = 0) ∨ ((X 49 c).toInt = 1 ∧ I j 2 = X 50 (4 * c) ∧ (L j 3).toInt = (X 50 (4 * c + 1)).toInt - (X 50 (4 * c)).toInt ∧ I j 4 = X 50 (4 * c + 2) ∧ (L j 5).toInt = (X 50 (4 * c + 3)).toInt - (X 50 (4 * c + 2)).toInt)
theorem tdivI {x y z : Int32} {a b : Int} (e : z = x / y) (hx : x.toInt = a) (hy : y.toInt = b) (h0 : 0 ≤ a) (hb : 0 < b) : z.toInt = a / b := by
  subst e hx hy
  have h2 := fb_rng x
  rw [Int32.toInt_div, Int.tdiv_eq_ediv_of_nonneg h0]
  have h3 : 0 ≤ x.toInt / y.toInt := Int.ediv_nonneg h0 (Int.le_of_lt hb)
  have h4 : x.toInt / y.toInt ≤ x.toInt := Int.ediv_le_self _ h0
  exact fb_bmod (by omega) (by omega)
