/-- the sum of the lengths of the first m roads of a row -/
def psB (X : vI) (w : Nat → Int32) : Nat → Int
  | 0 => 0
  | m + 1 => psB X w m + (X 30 (w m).toInt.toNat).toInt
theorem psB_c {X : vI} {w w' : Nat → Int32} : ∀ m : Nat, (∀ k, k < m → w k = w' k) → psB X w m = psB X w' m
  | 0, _ => rfl
  | m + 1, h => by
    unfold psB
    rw [psB_c m (fun k hk => h k (by omega)), h m (by omega)]
def BVp (E : vI) (g : Sg) : Prop := 0 ≤ g.2.1 → (1 ≤ g.2.2.1 ∧ g.2.2.1 ≤ 10) ∧ (∀ k : Nat, (k : Int) < g.2.2.1 → 0 ≤ (g.2.2.2.2 k).toInt ∧ (g.2.2.2.2 k).toInt < (E 27 1).toInt) ∧ g.2.1 = psB E g.2.2.2.2 g.2.2.1.toNat
theorem BV_jg {E : vI} {d : Nat} {w : Nat → Int32} {s fo su : Int} {g : Sg} (h : BVp E g) (hd : 1 ≤ d ∧ d ≤ 10) (hw : ∀ k, k < d → 0 ≤ (w k).toInt ∧ (w k).toInt < (E 27 1).toInt) (hs : su = psB E w d) : BVp E (jgF E d w s fo su g) := by
  unfold jgF
  by_cases q1 : fo < (E 27 12).toInt ∨ s ≠ (E 38 ((E 27 12).toInt - 1).toNat).toInt
  · rw [if_pos q1]; exact h
  · rw [if_neg q1]
    by_cases q2 : g.2.1 < 0 ∨ su < g.2.1
    · rw [if_pos q2]
      intro _
      refine ⟨⟨?_, ?_⟩, fun k hk => ?_, ?_⟩
      · show 1 ≤ (d : Int); omega
      · show (d : Int) ≤ 10; omega
      · have hk' : k < d := by have : (k : Int) < (d : Int) := hk; omega
        show 0 ≤ (if k < d then w k else g.2.2.2.2 k).toInt ∧ (if k < d then w k else g.2.2.2.2 k).toInt < _
        rw [if_pos hk']; exact hw k hk'
      · show su = psB E (fun k => if k < d then w k else g.2.2.2.2 k) ((d : Int)).toNat
        rw [Int.toNat_natCast, hs]
        exact psB_c d (fun k hk => (if_pos hk).symm)
    · rw [if_neg q2]
      by_cases q3 : su = g.2.1
      · rw [if_pos q3]; exact h
      · rw [if_neg q3]; exact h
theorem BV_it {E : vI} {st : Nat → Sg → Sg × Bool} {N : Nat} (hst : ∀ r g, r < N → BVp E g → BVp E (st r g).1) : ∀ (c r : Nat) (g : Sg), r + c = N → BVp E g → BVp E (itR st c r g).1
  | 0, _, _, _, h => h
  | c + 1, r, g, e, h => by
    rw [itR_s]
    split
    · exact hst r g (by omega) h
    · exact BV_it hst c (r + 1) _ (by omega) (hst r g (by omega) h)
theorem BV_go {E : vI} (hN : 0 ≤ (E 27 1).toInt ∧ (E 27 1).toInt ≤ 16) : ∀ (D d : Nat) (w : Nat → Int32) (s fo su : Int) (g : Sg), D + d = 10 → (∀ k, k < d → 0 ≤ (w k).toInt ∧ (w k).toInt < (E 27 1).toInt) → su = psB E w d → BVp E g → BVp E (goR E D d w s fo su g).1
  | 0, _, _, _, _, _, _, _, _, _, h => h
  | D + 1, d, w, s, fo, su, g, e, hw, hs, h => by
    refine BV_it (N := (E 27 1).toInt.toNat) (fun r g hr hg => ?_) _ 0 g (Nat.zero_add _) h
    unfold stR
    split
    · exact hg
    · split
      · exact hg
      · have hr1 : (nI r).toInt = (r : Int) := nI_toInt (by omega)
        have hw' : ∀ k, k < d + 1 → 0 ≤ (upd w d (nI r) k).toInt ∧ (upd w d (nI r) k).toInt < (E 27 1).toInt := fun k hk => by
          rcases (show k < d ∨ k = d by omega) with z | rfl
          · rw [upd_o (by omega)]; exact hw k z
          · rw [upd_e, hr1]; omega
        have hs' : su + (E 30 r).toInt = psB E (upd w d (nI r)) (d + 1) := by
          show _ = psB E (upd w d (nI r)) d + (E 30 (upd w d (nI r) d).toInt.toNat).toInt
          rw [upd_e, hr1, Int.toNat_natCast, hs]
          congr 1
          exact psB_c d (fun k hk => (upd_o (by omega)).symm)
        exact BV_go hN D (d + 1) _ _ _ _ _ (by omega) hw' hs' (BV_jg (g := (_, g.2)) hg ⟨by omega, by omega⟩ hw' hs')
theorem BV_sr {E : vI} (hN : 0 ≤ (E 27 1).toInt ∧ (E 27 1).toInt ≤ 16) : BVp E (srF E).1 := BV_go hN 10 0 _ _ _ _ _ rfl (fun k hk => absurd hk (Nat.not_lt_zero k)) rfl (fun z => absurd z (by show ¬ (0 : Int) ≤ -1; omega))
theorem SE_J {n : Nat} {sh : vS} {I : vI} {R : vR} {X : vI} (hR : JRd n sh I R X) (hB : JB I X) (hV : JV X) (h0 : (X 27 12).toInt ≠ 0) : SE X := ⟨hR.2.1, ⟨(hB.2.2.2 h0).1, hB.2.2.1.2⟩, hV.2.2.2.1⟩
/-- what a search leaves of the class's part -/
def SrP (I X I' : vI) : Prop := (∀ a b, ¬ (4 ≤ a ∧ a ≤ 10) → I' a b = I a b) ∧ QS I' (srF X).1 ∧ SB (srF X).1 ∧ (I' 4 8).toInt = if (srF X).2 = true then 1 else 0
theorem MB_0 {w : Nat → Int32} : MB 0 w 0 := fun i _ => b_0 i
