/-- the sum of the lengths of the first m roads of a row -/
def psB (X : vI) (w : Nat → Int32) : Nat → Int
  | 0 => 0
  | m + 1 => psB X w m + (X 30 (w m).toInt.toNat).toInt
theorem psB_c {X : vI} {w w' : Nat → Int32} : ∀ m : Nat, (∀ k, k < m → w k = w' k) → psB X w m = psB X w' m
  | 0, _ => rfl
  | m + 1, h => by
    unfold psB
    rw [psB_c m (fun k hk => h k (by omega)), h m (by omega)]
def BVp (E : vI) (g : Sg) : Prop := 0 ≤ g.2.1 → (1 ≤ g.2.2.1 ∧ g.2.2.1 ≤ 10) ∧ (∀ k : Nat, (k : Int) < g.2.2.1 → 0 ≤ (g.2.2.2.2 k).toInt ∧ (g.2.2.2.2 k).toInt < (E 27 1).toInt) ∧ g.2.1 = psB E g.2.2.2.2 g.2.2.1.toNat
theorem BV_jg {E : vI} {d : Nat} {w : Nat → Int32} {s fo su : Int} {g : Sg} (h : BVp E g) (hd : 1 ≤ d ∧ d ≤ 10) (hw : ∀ k, k < d → 0 ≤ (w k).toInt ∧ (w k).toInt < (E 27 1).toInt) (hs : su = psB E w d) : BVp E (jgF E d w s fo su g) := by
  unfold jgF
  by_cases q1 : fo < (E 27 12).toInt ∨ s ≠ (E 38 ((E 27 12).toInt - 1).toNat).toInt
  · rw [if_pos q1]; exact h
  · rw [if_neg q1]
    by_cases q2 : g.2.1 < 0 ∨ su < g.2.1
    · rw [if_pos q2]
      intro _
      refine ⟨⟨?_, ?_⟩, fun k hk => ?_, ?_⟩
      · show 1 ≤ (d : Int); omega
      · show (d : Int) ≤ 10; omega
      · have hk' : k < d := by have : (k : Int) < (d : Int) := hk; omega
        show 0 ≤ (if k < d then w k else g.2.2.2.2 k).toInt ∧ (if k < d then w k else g.2.2.2.2 k).toInt < _
        rw [if_pos hk']; exact hw k hk'
      · show su = psB E (fun k => if k < d then w k else g.2.2.2.2 k) ((d : Int)).toNat
        rw [Int.toNat_natCast, hs]
        exact psB_c d (fun k hk => (if_pos hk).symm)
    · rw [if_neg q2]
      by_cases q3 : su = g.2.1
      · rw [if_pos q3]; exact h
      · rw [if_neg q3]; exact h
theorem BV_it {E : vI} {st : Nat → Sg → Sg × Bool} {N : Nat} (hst : ∀ r g, r < N → BVp E g → BVp E (st r g).1) : ∀ (c r : Nat) (g : Sg), r + c = N → BVp E g → BVp E (itR st c r g).1
  | 0, _, _, _, h => h
  | c + 1, r, g, e, h => by
    rw [itR_s]
    split
    · exact hst r g (by omega) h
    · exact BV_it hst c (r + 1) _ (by omega) (hst r g (by omega) h)
theorem BV_go {E : vI} (hN : 0 ≤ (E 27 1).toInt ∧ (E 27 1).toInt ≤ 16) : ∀ (D d : Nat) (w : Nat → Int32) (s fo su : Int) (g : Sg), D + d = 10 → (∀ k, k < d → 0 ≤ (w k).toInt ∧ (w k).toInt < (E 27 1).toInt) → su = psB E w d → BVp E g → BVp E (goR E D d w s fo su g).1
  | 0, _, _, _, _, _, _, _, _, _, h => h
  | D + 1, d, w, s, fo, su, g, e, hw, hs, h => by
    refine BV_it (N := (E 27 1).toInt.toNat) (fun r g hr hg => ?_) _ 0 g (Nat.zero_add _) h
    unfold stR
    split
    · exact hg
    · split
      · exact hg
      · have hr1 : (nI r).toInt = (r : Int) := nI_toInt (by omega)
        have hw' : ∀ k, k < d + 1 → 0 ≤ (upd w d (nI r) k).toInt ∧ (upd w d (nI r) k).toInt < (E 27 1).toInt := fun k hk => by
          rcases (show k < d ∨ k = d by omega) with z | rfl
          · rw [upd_o (by omega)]; exact hw k z
          · rw [upd_e, hr1]; omega
        have hs' : su + (E 30 r).toInt = psB E (upd w d (nI r)) (d + 1) := by
          show _ = psB E (upd w d (nI r)) d + (E 30 (upd w d (nI r) d).toInt.toNat).toInt
          rw [upd_e, hr1, Int.toNat_natCast, hs]
          congr 1
          exact psB_c d (fun k hk => (upd_o (by omega)).symm)
        exact BV_go hN D (d + 1) _ _ _ _ _ (by omega) hw' hs' (BV_jg (g := (_, g.2)) hg ⟨by omega, by omega⟩ hw' hs')
theorem BV_sr {E : vI} (hN : 0 ≤ (E 27 1).toInt ∧ (E 27 1).toInt ≤ 16) : BVp E (srF E).1 := BV_go hN 10 0 _ _ _ _ _ rfl (fun k hk => absurd hk (Nat.not_lt_zero k)) rfl (fun z => absurd z (by show ¬ (0 : Int) ≤ -1; omega))
theorem SE_J {n : Nat} {sh : vS} {I : vI} {R : vR} {X : vI} (hR : JRd n sh I R X) (hB : JB I X) (hV : JV X) (h0 : (X 27 12).toInt ≠ 0) : SE X := ⟨hR.2.1, ⟨(hB.2.2.2 h0).1, hB.2.2.1.2⟩, hV.2.2.2.1⟩
/-- what a search leaves of the class's part -/
def SrP (I X I' : vI) : Prop := (∀ a b, ¬ (4 ≤ a ∧ a ≤ 10) → I' a b = I a b) ∧ QS I' (srF X).1 ∧ SB (srF X).1 ∧ (I' 4 8).toInt = if (srF X).2 = true then 1 else 0
theorem MB_0 {w : Nat → Int32} : MB 0 w 0 := fun i _ => b_0 i
theorem psB_b {X : vI} {w : Nat → Int32} (N : Nat) (h : ∀ k, k < N → 0 ≤ (X 30 (w k).toInt.toNat).toInt ∧ (X 30 (w k).toInt.toNat).toInt ≤ 20000) : ∀ m : Nat, m ≤ N → 0 ≤ psB X w m ∧ psB X w m ≤ 20000 * (m : Int)
  | 0, _ => by simp [psB]
  | m + 1, hm => by
    have h1 := psB_b N h m (by omega)
    have h2 := h m (by omega)
    unfold psB
    omega
/-- the way's first m roads are laid -/
def Ly1 (I J X : vI) (m : Nat) : Prop := (J 11 2).toInt = (m : Int) ∧ (J 11 3).toInt = psB X (I 10) m ∧ J 11 6 = 0 ∧ (∀ k, J 12 k = if k < m then I 10 k else I 12 k) ∧ (∀ k, k < m → (J 13 k).toInt = psB X (I 10) (k + 1)) ∧ ∀ a, a ≠ 11 → a ≠ 12 → a ≠ 13 → J a = I a
theorem Ly1_0 {I X : vI} : Ly1 I (up2 (up2 (up2 I 11 2 0) 11 3 0) 11 6 0) X 0 := ⟨rfl, rfl, rfl, fun k => by rw [if_neg (Nat.not_lt_zero k)]; rfl, fun k hk => absurd hk (Nat.not_lt_zero k), fun a h1 _ _ => by rw [up2_o h1, up2_o h1, up2_o h1]⟩
theorem Ly1_s {I J X : vI} {m : Nat} {r l : Int32} (h : Ly1 I J X m) (hr : r = I 10 m) (hl : l = X 30 (I 10 m).toInt.toNat) (hm : m < 10) (hlb : 0 ≤ l.toInt ∧ l.toInt ≤ 20000) (hb : 0 ≤ psB X (I 10) m ∧ psB X (I 10) m ≤ 20000 * (m : Int)) : Ly1 I (up2 (up2 (up2 (up2 J 11 3 (J 11 3 + l)) 12 (J 11 2).toInt.toNat r) 13 (J 11 2).toInt.toNat (J 11 3 + l)) 11 2 (J 11 2 + 1)) X (m + 1) := by
  obtain ⟨h1, h2, h3, h4, h5, h6⟩ := h
  have e : (J 11 2).toInt.toNat = m := by omega
  have es : (J 11 3 + l).toInt = psB X (I 10) (m + 1) := by
    rw [fb_addI (by omega) (by omega), h2]
    show _ = psB X (I 10) m + (X 30 (I 10 m).toInt.toNat).toInt
    rw [hl]
  rw [e]
  refine ⟨?_, ?_, ?_, fun k => ?_, fun k hk => ?_, fun a a1 a2 a3 => ?_⟩
  · rw [up2_e, fb_addI (by show _ ≤ _ + (1 : Int); omega) (by show _ + (1 : Int) < _; omega), h1]; rfl
  · exact es
  · exact h3
  · show up2 J 12 m r 12 k = _
    by_cases q : k = m
    · subst q; rw [up2_e, if_pos (by omega), hr]
    · rw [up2_k q, h4 k]
      by_cases z : k < m
      · rw [if_pos z, if_pos (by omega)]
      · rw [if_neg z, if_neg (by omega)]
  · show (up2 J 13 m (J 11 3 + l) 13 k).toInt = _
    by_cases q : k = m
    · subst q; rw [up2_e]; exact es
    · rw [up2_k q]; exact h5 k (by omega)
  · rw [up2_o a1, up2_o a3, up2_o a2, up2_o a1]; exact h6 a a1 a2 a3
def fgA (I : vI) (R : vR) : Nat → vI
  | 0 => I
  | m + 1 => fgF (fgA I R m) (oj R 17 m) 8
theorem fg_o {I : vI} {j a : Nat} (h1 : a ≠ j) (h2 : a ≠ j + 2) (h3 : a ≠ j + 3) : ∀ m : Nat, fgF I j m a = I a
  | 0 => up2_o h1
  | m + 1 => by
    show up2 (up2 (fgF I j m) (j + 2) m 0) (j + 3) m 0 a = _
    rw [up2_o h3, up2_o h2]; exact fg_o h1 h2 h3 m
theorem fg_j {I : vI} {j : Nat} : ∀ (m b : Nat), fgF I j m j b = if b = 4 then 0 else I j b
  | 0, b => by
    show up2 I j 4 0 j b = _
    by_cases q : b = 4
    · subst q; rw [up2_e, if_pos rfl]
    · rw [up2_k q, if_neg q]
  | m + 1, b => by
    show up2 (up2 (fgF I j m) (j + 2) m 0) (j + 3) m 0 j b = _
    rw [up2_o (by omega), up2_o (by omega)]; exact fg_j m b
theorem fg_2 {I : vI} {j : Nat} : ∀ (m b : Nat), fgF I j m (j + 2) b = if b < m then 0 else I (j + 2) b
  | 0, b => by
    show up2 I j 4 0 (j + 2) b = _
    rw [up2_o (by omega), if_neg (Nat.not_lt_zero b)]
  | m + 1, b => by
    show up2 (up2 (fgF I j m) (j + 2) m 0) (j + 3) m 0 (j + 2) b = _
    rw [up2_o (by omega)]
    by_cases q : b = m
    · subst q; rw [up2_e, if_pos (by omega)]
    · rw [up2_k q, fg_2 m b]
      by_cases z : b < m
      · rw [if_pos z, if_pos (by omega)]
      · rw [if_neg z, if_neg (by omega)]
theorem fg_3 {I : vI} {j : Nat} : ∀ (m b : Nat), fgF I j m (j + 3) b = if b < m then 0 else I (j + 3) b
  | 0, b => by
    show up2 I j 4 0 (j + 3) b = _
    rw [up2_o (by omega), if_neg (Nat.not_lt_zero b)]
  | m + 1, b => by
    show up2 (up2 (fgF I j m) (j + 2) m 0) (j + 3) m 0 (j + 3) b = _
    by_cases q : b = m
    · subst q; rw [up2_e, if_pos (by omega)]
    · rw [up2_k q, up2_o (by omega), fg_3 m b]
      by_cases z : b < m
      · rw [if_pos z, if_pos (by omega)]
      · rw [if_neg z, if_neg (by omega)]
theorem RD_16 {n : Nat} {sh : vS} {I : vI} {R : vR} {X : vI} {r j : Nat} (h : RD n sh I R X r j) : I j 2 = X 30 r ∧ 1 ≤ (X 30 r).toInt ∧ (X 30 r).toInt ≤ 20000 := ⟨h.2.2.2.2.1.2.2.1, h.2.2.2.2.2.2.2.2.2.2.1⟩
