theorem i8 (a k : Nat) : ((8 * (a : Int)) + (k : Int)).toNat = 8 * a + k := by omega
/-- what a control's object says of the reference's numbers, for omega -/
theorem cdF {n : Nat} {sh : vS} {I : vI} {L : vL} {R : vR} {X : vI} (hC : JC n sh I L R X) (m : Nat) : (m : Int) < (X 27 30).toInt → (I (oj R 16 m) 0).toInt = (X 47 m).toInt ∧ (I (oj R 16 m) 1).toInt = (X 48 m).toInt ∧ ((X 48 m).toInt = 0 ∨ (X 48 m).toInt = 1) ∧ 1 ≤ (X 47 m).toInt ∧ (X 47 m).toInt ≤ (X 27 25).toInt := fun h => by
  have c := hC.2.2.1 m h
  exact ⟨by rw [c.2.2.2.2.1], by rw [c.2.2.2.2.2.1], c.2.2.2.2.2.2.2.2.2, c.2.2.2.2.2.2.2.2.1⟩
theorem kdF {n : Nat} {sh : vS} {I : vI} {R : vR} {X : vI} {a j : Nat} (hK : KD n sh I R X a j) (m : Nat) (hm : m < 8) : (I (j + 3) m).toInt = (X 55 (8 * a + m)).toInt ∧ (0 ≤ (X 55 (8 * a + m)).toInt ∧ (X 55 (8 * a + m)).toInt ≤ 3000) ∧ 0 ≤ (I (j + 2) m).toInt ∧ 0 ≤ (X 53 (8 * a + m)).toInt ∧ ((0 < (I (j + 2) m).toInt ∧ 0 < (X 53 (8 * a + m)).toInt) ∨ ((I (j + 2) m).toInt = 0 ∧ (X 53 (8 * a + m)).toInt = 0)) := by
  obtain ⟨-, -, -, -, -, -, -, -, -, -, h, -⟩ := hK
  obtain ⟨h1, h2, h3, h4, h5, -⟩ := h m hm
  refine ⟨by rw [h1], h2, h3.1, h4.1, ?_⟩
  by_cases q : 0 < (I (j + 2) m).toInt
  · exact Or.inl ⟨q, h5.mp q⟩
  · refine Or.inr ⟨by omega, ?_⟩
    have : ¬ 0 < (X 53 (8 * a + m)).toInt := fun z => q (h5.mpr z)
    omega
theorem koF {n : Nat} {sh : vS} {I : vI} {R : vR} {X : vI} {a j : Nat} (hK : KD n sh I R X a j) (m c : Nat) (hm : m < 8) (hc : c < 8) : ((I (j + 2) m).toInt < (I (j + 2) c).toInt ∧ 0 < (I (j + 2) m).toInt ∧ (X 53 (8 * a + m)).toInt < (X 53 (8 * a + c)).toInt ∧ 0 < (X 53 (8 * a + m)).toInt) ∨ (¬ ((I (j + 2) m).toInt < (I (j + 2) c).toInt ∧ 0 < (I (j + 2) m).toInt) ∧ ¬ ((X 53 (8 * a + m)).toInt < (X 53 (8 * a + c)).toInt ∧ 0 < (X 53 (8 * a + m)).toInt)) := by
  have h1 := kdF hK m hm
  have h2 := kdF hK c hc
  obtain ⟨-, -, -, -, -, -, -, -, -, -, -, h⟩ := hK
  by_cases q : 0 < (X 53 (8 * a + m)).toInt ∧ 0 < (X 53 (8 * a + c)).toInt
  · have h3 := h m c hm hc q.1 q.2
    by_cases z : (I (j + 2) m).toInt < (I (j + 2) c).toInt
    · have := h3.mp z; exact Or.inl (by omega)
    · have : ¬ (X 53 (8 * a + m)).toInt < (X 53 (8 * a + c)).toInt := fun y => z (h3.mpr y)
      exact Or.inr (by omega)
  · exact Or.inr (by omega)
theorem kdS {n : Nat} {sh : vS} {I : vI} {R : vR} {X : vI} {a j : Nat} (hK : KD n sh I R X a j) : (j < n ∧ ((sh j).1 = 1 ∨ (sh j).1 = 5 ∨ (sh j).1 = 4)) ∧ (R j 2 = some (j + 1) ∧ R j 3 = some (j + 2) ∧ R j 5 = some (j + 3)) ∧ (j + 1 < n ∧ j + 2 < n ∧ j + 3 < n) ∧ (sh (j + 1) = (13, 8) ∧ sh (j + 2) = (13, 8) ∧ sh (j + 3) = (13, 8)) := by
  obtain ⟨-, h1, h2, h3, h4, h5, -⟩ := hK
  exact ⟨⟨by omega, by rw [h3]; exact crC_3 _⟩, h5, ⟨by omega, by omega, by omega⟩, h4⟩
