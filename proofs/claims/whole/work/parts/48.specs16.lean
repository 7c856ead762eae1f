theorem WF_s {n : Nat} {sh : vS} {R : vR} (hw : WF n sh R) : WF n sh (up2 R 4 4 (some 2)) := ⟨hw.1, hw.2.1, fun i k j h => by
  by_cases q : i = 4 ∧ k = 4
  · obtain ⟨rfl, rfl⟩ := q; cases h
  · show (if i = 4 ∧ k = 4 then some 2 else R i k) = _
    rw [if_neg q]; exact hw.2.2 i k j h⟩
theorem oj_e {R R' : vR} {a : Nat} (e : R' a = R a) (r : Nat) : oj R' a r = oj R a r := by unfold oj; rw [e]
theorem RD_fr {n : Nat} {sh : vS} {I J : vI} {R R' : vR} {X : vI} {r j : Nat} (h : RD n sh I R X r j) (e1 : ∀ a, 56 ≤ a → J a = I a) (eR : R' 1 = R 1) : RD n sh J R' X r j := by
  obtain ⟨h1, h2, h3⟩ := h
  unfold RD
  rw [eR, e1 j h2]
  exact ⟨h1, h2, h3⟩
theorem JRd_fr {n : Nat} {sh : vS} {I J : vI} {R R' : vR} {X : vI} (h : JRd n sh I R X) (e0 : J 0 1 = I 0 1) (e1 : ∀ a, 56 ≤ a → J a = I a) (eR : R' 1 = R 1) : JRd n sh J R' X := by
  obtain ⟨h1, h2, h3, h4⟩ := h
  refine ⟨e0.trans h1, h2, fun r hr => ?_, fun r r' hr hr' => ?_⟩
  · rw [oj_e eR]; exact RD_fr (h3 r hr) e1 eR
  · rw [oj_e eR, oj_e eR]; exact h4 r r' hr hr'
/-- the cells that 'begin' leaves, once the search's own numbers are put to 0 -/
def bfr (I J : vI) : Prop := ∀ a b, a ≠ 5 → a ≠ 6 → a ≠ 7 → a ≠ 8 → J a b = I a b
theorem bfr_r {I : vI} : bfr I I := fun _ _ _ _ _ _ => rfl
theorem bfr_z {I J : vI} {s : Nat} {v : Int32} (h : bfr I J) : bfr I (up2 J 5 s v) := fun a b h5 h6 h7 h8 => by rw [up2_o h5]; exact h a b h5 h6 h7 h8
theorem bfr_a {I J X : vI} {s r : Nat} {rv ve vc : Int32} (h : bfr I J) : bfr I (aeF J X s r rv ve vc) := fun a b h5 h6 h7 h8 => by rw [aeo h5 h6 h7 h8]; exact h a b h5 h6 h7 h8
theorem bfr_56 {I J : vI} (h : bfr I J) (a : Nat) (ha : 56 ≤ a) : J a = I a := funext fun b => h a b (by omega) (by omega) (by omega) (by omega)
theorem ExR_z {I X : vI} {s s' m : Nat} {v : Int32} (h : ExR I X s' m) (hne : s' ≠ s) : ExR (up2 I 5 s v) X s' m := by
  refine ⟨by rw [up2_k hne]; exact h.1, fun q hq hz => ?_⟩
  rw [up2_o (by omega : (6 : Nat) ≠ 5), up2_o (by omega : (7 : Nat) ≠ 5), up2_o (by omega : (8 : Nat) ≠ 5)]
  exact h.2 q hq hz
theorem ExR_0 {I X : vI} {s : Nat} : ExR (up2 I 5 s 0) X s 0 := ⟨by rw [up2_e]; rfl, fun q hq => absurd hq (Nat.not_lt_zero q)⟩
def BG (I I' X : vI) : Prop := (∀ s, s < 10 → ExR I' X s (X 27 1).toInt.toNat) ∧ bfr I I'
/-- the cells that a search, once begun, leaves as they are -/
def sck (a b : Nat) : Bool := !(a == 9 || a == 10 || (a == 4 && (b == 6 || b == 7 || b == 8 || b == 10 || b == 11 || b == 12)))
def gfr (I J : vI) : Prop := ∀ a b, sck a b = true → J a b = I a b
theorem gfr_r {I : vI} : gfr I I := fun _ _ _ => rfl
theorem gfr_t {I J K : vI} (h : gfr I J) (g : gfr J K) : gfr I K := fun a b q => (g a b q).trans (h a b q)
theorem gfr_u {I J : vI} {i k : Nat} {v : Int32} (h : gfr I J) (hk : sck i k = false) : gfr I (up2 J i k v) := fun a b q => by
  have hne : ¬ (a = i ∧ b = k) := fun ⟨z1, z2⟩ => by rw [z1, z2, hk] at q; cases q
  show (if a = i ∧ b = k then v else J a b) = I a b
  rw [if_neg hne]
  exact h a b q
theorem sck_9 (b : Nat) : sck 9 b = false := rfl
theorem sck_10 (b : Nat) : sck 10 b = false := rfl
theorem gfr_c {I J : vI} {g : Nat → Int32} (h : gfr I J) (m : Nat) : gfr I (cpF J 10 0 g m) := fun a b q => by
  have hne : a ≠ 10 := fun z => by rw [z] at q; cases q
  rw [cpF_o hne]; exact h a b q
/-- what a search reads of the map and of the book -/
def GI (I X : vI) : Prop := (∀ s, s < 10 → ExR I X s (X 27 1).toInt.toNat) ∧ I 2 1 = X 27 12 ∧ ∀ k, I 3 k = X 38 k
theorem ExR_fr {I J X : vI} {s m : Nat} (e : ∀ a b, a = 5 ∨ a = 6 ∨ a = 7 ∨ a = 8 → J a b = I a b) (h : ExR I X s m) : ExR J X s m := by
  unfold ExR
  simp only [e 5 _ (Or.inl rfl), e 6 _ (Or.inr (Or.inl rfl)), e 7 _ (Or.inr (Or.inr (Or.inl rfl))), e 8 _ (Or.inr (Or.inr (Or.inr rfl)))]
  exact h
theorem GI_fr {I J X : vI} (h : GI I X) (g : gfr I J) : GI J X := by
  obtain ⟨h1, h2, h3⟩ := h
  refine ⟨fun s hs => ExR_fr (fun a b q => g a b ?_) (h1 s hs), by rw [g 2 1 rfl]; exact h2, fun k => by rw [g 3 k rfl]; exact h3 k⟩
  rcases q with rfl | rfl | rfl | rfl <;> rfl
/-- the class's search has found what g says -/
def QS (J : vI) (g : Sg) : Prop := (J 4 7).toInt = g.1 ∧ (J 4 10).toInt = g.2.2.1 ∧ (∀ k, J 10 k = g.2.2.2.2 k) ∧ ((g.2.1 < 0 ∧ (J 4 12).toInt = 0) ∨ (0 ≤ g.2.1 ∧ (J 4 12).toInt = g.2.2.2.1 + 1 ∧ (J 4 11).toInt = g.2.1))
def GS (J : vI) (w : Nat → Int32) (d : Nat) (g : Sg) : Prop := MB (J 4 6) w d ∧ (∀ k, k < d → J 9 k = w k) ∧ QS J g ∧ SB g
theorem QS_t {J J' : vI} {g : Sg} (h : QS J g) (e7 : (J' 4 7).toInt = g.1 + 1) (e10 : J' 4 10 = J 4 10) (e : ∀ k, J' 10 k = J 10 k) (e12 : J' 4 12 = J 4 12) (e11 : J' 4 11 = J 4 11) : QS J' (g.1 + 1, g.2) := by
  obtain ⟨h1, h2, h3, h4⟩ := h
  refine ⟨e7, by rw [e10]; exact h2, fun k => by rw [e]; exact h3 k, ?_⟩
  rw [e12, e11]; exact h4
theorem QS_e {J J' : vI} {g : Sg} (h : QS J g) (e7 : J' 4 7 = J 4 7) (e10 : J' 4 10 = J 4 10) (e : ∀ k, J' 10 k = J 10 k) (e12 : J' 4 12 = J 4 12) (e11 : J' 4 11 = J 4 11) : QS J' g := by
  obtain ⟨h1, h2, h3, h4⟩ := h
  refine ⟨by rw [e7]; exact h1, by rw [e10]; exact h2, fun k => by rw [e]; exact h3 k, ?_⟩
  rw [e12, e11]; exact h4
/-- the row is no way of the book -/
theorem QS_n {J X : vI} {d : Nat} {w : Nat → Int32} {s fo su : Int} {g : Sg} (h : QS J g) (hn : ¬ (fo = (X 27 12).toInt ∧ (X 38 ((X 27 12).toInt - 1).toNat).toInt = s)) (hf : fo ≤ (X 27 12).toInt) : QS J (jgF X d w s fo su g) := by
  unfold jgF
  rw [if_pos (by omega)]
  exact h
/-- one more way as short as the best -/
theorem QS_m {J X : vI} {d : Nat} {w : Nat → Int32} {s fo su : Int} {g : Sg} {v : Int32} (h : QS J g) (hn : fo = (X 27 12).toInt ∧ (X 38 ((X 27 12).toInt - 1).toNat).toInt = s) (h0 : 0 < (J 4 12).toInt ∧ su = (J 4 11).toInt) (hv : v.toInt = (J 4 12).toInt + 1) : QS (up2 J 4 12 v) (jgF X d w s fo su g) := by
  obtain ⟨h1, h2, h3, h4⟩ := h
  unfold jgF
  rw [if_neg (by omega), if_neg (by omega), if_pos (by omega)]
  refine ⟨h1, h2, h3, Or.inr ⟨by show 0 ≤ g.2.1; omega, ?_, ?_⟩⟩
  · rw [up2_e, hv]; show _ = g.2.2.2.1 + 1 + 1; omega
  · show (J 4 11).toInt = g.2.1; omega
/-- a shorter way than the best, or the first -/
theorem QS_b {J X : vI} {d : Nat} {w : Nat → Int32} {s fo su : Int} {g : Sg} {sv c : Int32} (h : QS J g) (hn : fo = (X 27 12).toInt ∧ (X 38 ((X 27 12).toInt - 1).toNat).toInt = s) (h0 : ¬ (0 < (J 4 12).toInt ∧ su = (J 4 11).toInt)) (hle : 0 ≤ g.2.1 → su ≤ g.2.1) (hr : 0 ≤ g.2.2.2.1) (hs : sv.toInt = su) (hs0 : 0 ≤ su) (hc : c.toInt = (d : Int)) (hw : ∀ k, k < d → J 9 k = w k) : QS (cpF (up2 (up2 (up2 J 4 12 1) 4 11 sv) 4 10 c) 10 0 (fun k => J 9 k) d) (jgF X d w s fo su g) := by
  obtain ⟨h1, h2, h3, h4⟩ := h
  unfold jgF
  rw [if_neg (by omega), if_pos (by omega)]
  refine ⟨?_, ?_, fun k => ?_, Or.inr ⟨hs0, ?_, ?_⟩⟩
  · rw [cpF_o (by omega)]; exact h1
  · rw [cpF_o (by omega), up2_e]; exact hc
  · have e := cpF_c (I := up2 (up2 (up2 J 4 12 1) 4 11 sv) 4 10 c) (d := 10) (q := 0) (g := fun k => J 9 k) (b := k) d
    refine Eq.trans e ?_
    show _ = if k < d then w k else g.2.2.2.2 k
    by_cases q : k < d
    · rw [if_pos ⟨Nat.zero_le k, by omega⟩, if_pos q]; exact hw k q
    · rw [if_neg (by omega), if_neg q]; exact h3 k
  · rw [cpF_o (by omega)]; rfl
  · rw [cpF_o (by omega)]; exact hs
def GoH (X I : vI) (d s : Nat) (w : Nat → Int32) (fo su : Int) (g : Sg) (sv dv uv fv : Int32) : Prop := GI I X ∧ GS I w d g ∧ (I 4 8).toInt = 0 ∧ (sv.toInt = (s : Int) ∧ s < 10) ∧ dv.toInt = (d : Int) ∧ uv.toInt = su ∧ fv.toInt = fo ∧ (1 ≤ fo ∧ fo ≤ (X 27 12).toInt) ∧ (0 ≤ su ∧ su ≤ 20000 * (d : Int))
def GoPo (n : Nat) (sh : vS) (L : vL) (R : vR) (X I : vI) (w : Nat → Int32) (d : Nat) (F : Sg × Bool) : PT := PI n sh L R (fun I' o => (gfr I I' ∧ GS I' w d F.1 ∧ (I' 4 8).toInt = if F.2 = true then 1 else 0) ∧ o = none)
theorem upd_e {w : Nat → Int32} {d : Nat} {v : Int32} : upd w d v d = v := by simp [upd]
theorem upd_o {w : Nat → Int32} {d k : Nat} {v : Int32} (h : k ≠ d) : upd w d v k = w k := by simp [upd, h]
theorem lvR_f {X : vI} {D d c r0 : Nat} {w : Nat → Int32} {s fo su : Int} {g g' : Sg} (h : stR X (fun w' s' fo' su' g' => goR X D (d + 1) w' s' fo' su' g') d w s fo su r0 g = (g', false)) : lvR X D d w s fo su (c + 1) r0 g = lvR X D d w s fo su c (r0 + 1) g' := by
  unfold lvR
  rw [itR_s, h]; rfl
theorem lvR_t {X : vI} {D d c r0 : Nat} {w : Nat → Int32} {s fo su : Int} {g g' : Sg} (h : stR X (fun w' s' fo' su' g' => goR X D (d + 1) w' s' fo' su' g') d w s fo su r0 g = (g', true)) : lvR X D d w s fo su (c + 1) r0 g = (g', true) := by
  unfold lvR
  rw [itR_s, h]; rfl
