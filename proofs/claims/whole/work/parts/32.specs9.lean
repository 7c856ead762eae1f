theorem nwF_0 {X : vI} {a : Int} : ∀ N : Nat, (∀ k, k < N → ¬ (X 45 k).toInt = a) → nwF X a N = 0
  | 0, _ => rfl
  | N + 1, h => by
    unfold nwF
    rw [if_neg (h N (by omega))]
    exact nwF_0 N (fun k hk => h k (by omega))
theorem cntG_7 (X : vI) {a : Int} : ∀ N : Nat, (∃ k, k < N ∧ (X 45 k).toInt = a) → cntG X a N + 1 ≤ N
  | 0, ⟨k, q, _⟩ => absurd q (Nat.not_lt_zero k)
  | N + 1, ⟨k, q, g⟩ => by
    unfold cntG
    have h1 := cntG_N X a N
    by_cases hk : k = N
    · subst hk
      rw [if_neg (by omega)]; omega
    · have h2 := cntG_7 X N ⟨k, by omega, g⟩
      split <;> omega
