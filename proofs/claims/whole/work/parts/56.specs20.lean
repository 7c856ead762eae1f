theorem up2_up {α : Type} {f : Nat → Nat → α} {i k : Nat} {v w : α} : up2 (up2 f i k v) i k w = up2 f i k w := by
  funext a b
  unfold up2
  by_cases h : a = i ∧ b = k
  · rw [if_pos h, if_pos h]
  · rw [if_neg h, if_neg h, if_neg h]
theorem up2_cm {α : Type} {f : Nat → Nat → α} {i k j m : Nat} {v w : α} (h : i ≠ j ∨ k ≠ m) : up2 (up2 f i k v) j m w = up2 (up2 f j m w) i k v := by
  funext a b
  unfold up2
  by_cases h1 : a = j ∧ b = m
  · rw [if_pos h1, if_neg (by omega), if_pos h1]
  · rw [if_neg h1, if_neg h1]
theorem cpF_up {I : vI} {d a k : Nat} {q : Int} {g : Nat → Int32} {v : Int32} (h : a ≠ d) : ∀ m : Nat, up2 (cpF I d q g m) a k v = cpF (up2 I a k v) d q g m
  | 0 => rfl
  | m + 1 => by
    show up2 (up2 (cpF I d q g m) d _ _) a k v = up2 (cpF (up2 I a k v) d q g m) d _ _
    rw [up2_cm (Or.inl (Ne.symm h)), cpF_up h m]
theorem cpF_r {I : vI} {d a : Nat} {q : Int} {g : Nat → Int32} (h : a ≠ d) (m : Nat) : cpF I d q g m a = I a := funext fun _ => cpF_o h m
theorem uph_o {α : Type} {f : Nat → α} {i a : Nat} {v : α} (h : a ≠ i) : uph f i v a = f a := if_neg h
theorem uph_e {α : Type} {f : Nat → α} {i : Nat} {v : α} : uph f i v i = v := if_pos rfl
theorem uph_s {α : Type} {f : Nat → α} {i : Nat} {v : α} (h : f i = v) : f = uph f i v := funext fun a => by
  by_cases q : a = i
  · subst q; rw [uph_e, h]
  · rw [uph_o q]
/-- what holds of the reference's numbers alone -/
def JX (t : Int) (X : vI) : Prop := (∀ r : Nat, (X 27 1).toInt ≤ (r : Int) → X 32 r = 0 ∧ X 33 r = 0) ∧ (∀ a c : Nat, (X 27 35).toInt ≤ (a : Int) → c < 8 → X 53 (8 * a + c) = 0 ∧ X 55 (8 * a + c) = 0) ∧ ((X 27 24).toInt = 0 → (X 27 25).toInt = 0) ∧ (X 27 38).toInt ≤ t
/-- the two sides stand for one rally, after t calls -/
def JZ (t : Int) (n : Nat) (sh : vS) (I : vI) (L : vL) (R : vR) (X : vI) : Prop := JJ n sh I L R X ∧ JX t X
section FRM
variable {n n' : Nat} {sh sh' : vS} {I I' : vI} {L L' : vL} {R R' : vR} {X X' : vI}
theorem FWf (h : WF n sh R) (hn : n ≤ n') (hs : ∀ i, i < n → sh' i = sh i) (hR : ∀ i k j, rF i k = some j → R' i k = R i k) : WF n' sh' R' :=
  ⟨Nat.le_trans h.1 hn, fun i hi => (hs i (Nat.lt_of_lt_of_le hi h.1)).trans (h.2.1 i hi), fun i k j e => (hR i k j e).trans (h.2.2 i k j e)⟩
theorem FRd (h : JRd n sh I R X) (hn : n ≤ n') (hs : ∀ i, i < n → sh' i = sh i) (hR : R' 1 = R 1) (h0 : I' 0 1 = I 0 1) (hI : ∀ i, 56 ≤ i → i < n → ((sh i).1 = 7 ∨ (sh i).1 = 6 ∨ (sh i).1 = 3) → I' i = I i) (x1 : X' 27 1 = X 27 1) (x2 : X' 28 = X 28) (x3 : X' 29 = X 29) (x4 : X' 30 = X 30) (x5 : X' 31 = X 31) (x6 : X' 32 = X 32) (x7 : X' 33 = X 33) : JRd n' sh' I' R' X' := by
  obtain ⟨h1, h2, h3, h4⟩ := h
  refine ⟨by rw [h0, x1]; exact h1, by rw [x1]; exact h2, fun r hr => ?_, fun r r' hr hr' => ?_⟩
  · rw [x1] at hr
    rw [oj_e hR]
    have hd := h3 r hr
    have hc := rdcl hd
    obtain ⟨a1, a2, a3, a4, a5⟩ := hd
    unfold RD
    rw [hR, hs _ a3, hI _ a2 a3 hc, x2, x3, x4, x5, x6, x7]
    exact ⟨a1, a2, Nat.lt_of_lt_of_le a3 hn, a4, a5⟩
  · rw [x1] at hr hr'
    rw [oj_e hR, oj_e hR]; exact h4 r r' hr hr'
theorem FC (h : JC n sh I L R X) (hn : n ≤ n') (hs : ∀ i, i < n → sh' i = sh i) (hR : R' 16 = R 16) (h0 : I' 0 6 = I 0 6) (hI : ∀ i, 56 ≤ i → i < n → (sh i).1 = 2 → I' i = I i ∧ L' i = L i) (x1 : X' 27 30 = X 27 30) (x2 : X' 47 = X 47) (x3 : X' 48 = X 48) (x4 : X' 49 = X 49) (x5 : X' 50 = X 50) (x6 : X' 27 25 = X 27 25) : JC n' sh' I' L' R' X' := by
  obtain ⟨h1, h2, h3, h4⟩ := h
  refine ⟨by rw [h0, x1]; exact h1, by rw [x1]; exact h2, fun r hr => ?_, fun r r' hr hr' => ?_⟩
  · rw [x1] at hr
    rw [oj_e hR]
    have hd := h3 r hr
    obtain ⟨a1, a2, a3, a4, a5⟩ := hd
    obtain ⟨i1, i2⟩ := hI _ a2 a3 (by rw [a4])
    unfold CD JCw ckOK
    rw [hR, hs _ a3, i1, i2, x2, x3, x4, x5, x6]
    exact ⟨a1, a2, Nat.lt_of_lt_of_le a3 hn, a4, a5⟩
  · rw [x1] at hr hr'
    rw [oj_e hR, oj_e hR]; exact h4 r r' hr hr'
theorem FKd {a j : Nat} (h : KD n sh I R X a j) (hn : n ≤ n') (hs : ∀ i, i < n → sh' i = sh i) (hR : R' 17 a = R 17 a) (hRR : R' j = R j) (h0 : I' j = I j) (h1 : I' (j + 1) = I (j + 1)) (h2 : I' (j + 2) = I (j + 2)) (h3 : I' (j + 3) = I (j + 3)) (x2 : X' 51 a = X 51 a) (x3 : X' 52 a = X 52 a) (x4 : ∀ c, c < 8 → X' 53 (8 * a + c) = X 53 (8 * a + c)) (x5 : ∀ c, c < 8 → X' 54 (8 * a + c) = X 54 (8 * a + c)) (x6 : ∀ c, c < 8 → X' 55 (8 * a + c) = X 55 (8 * a + c)) (x7 : (X 27 38).toInt ≤ (X' 27 38).toInt) : KD n' sh' I' R' X' a j := by
  obtain ⟨a1, a2, a3, a4, a5, a6, a7, a8, a9, b1, b2, b3⟩ := h
  refine ⟨hR.trans a1, a2, Nat.lt_of_lt_of_le a3 hn, ?_, ?_, ?_, ?_, ?_, ?_, ?_, fun c hc => ?_, fun c c' hc hc' => ?_⟩
  · rw [hs j (by omega), x3]; exact a4
  · rw [hs (j + 1) (by omega), hs (j + 2) (by omega), hs (j + 3) (by omega)]; exact a5
  · rw [hRR]; exact a6
  · rw [h0]; exact a7
  · rw [h0, x2]; exact a8
  · rw [x3]; exact a9
  · rw [h0]; omega
  · rw [h0, h1, h2, h3, x4 c hc, x5 c hc, x6 c hc]
    obtain ⟨c1, c2, c3, c4, c5⟩ := b2 c hc
    exact ⟨c1, c2, c3, by omega, c5⟩
  · rw [h2, x4 c hc, x4 c' hc']
    exact b3 c c' hc hc'
theorem FKk (h : JK n sh I R X) (hn : n ≤ n') (hs : ∀ i, i < n → sh' i = sh i) (hR : R' 17 = R 17) (hRR : ∀ i, 56 ≤ i → i < n → R' i = R i) (h0 : I' 0 8 = I 0 8) (hI : ∀ i, 56 ≤ i → i < n → ((sh i).1 = 1 ∨ (sh i).1 = 5 ∨ (sh i).1 = 4 ∨ (sh i).1 = 13) → I' i = I i) (x1 : X' 27 35 = X 27 35) (x2 : X' 51 = X 51) (x3 : X' 52 = X 52) (x4 : X' 53 = X 53) (x5 : X' 54 = X 54) (x6 : X' 55 = X 55) (x7 : X' 27 38 = X 27 38) : JK n' sh' I' R' X' := by
  obtain ⟨h1, h2, h3, h4⟩ := h
  refine ⟨by rw [h0, x1]; exact h1, by rw [x1]; exact h2, fun r hr => ?_, fun r r' hr hr' => ?_⟩
  · rw [x1] at hr
    rw [oj_e hR]
    have hd := h3 r hr
    have k1 := kdS hd
    have k2 := hd.2.1
    refine FKd hd hn hs (by rw [hR]) (hRR _ k2 k1.1.1) (hI _ k2 k1.1.1 (by omega)) (hI _ (by omega) k1.2.2.1.1 (by rw [k1.2.2.2.1]; omega)) (hI _ (by omega) k1.2.2.1.2.1 (by rw [k1.2.2.2.2.1]; omega)) (hI _ (by omega) k1.2.2.1.2.2 (by rw [k1.2.2.2.2.2]; omega)) (by rw [x2]) (by rw [x3]) (fun _ _ => by rw [x4]) (fun _ _ => by rw [x5]) (fun _ _ => by rw [x6]) (by rw [x7]; exact Int.le_refl _)
  · rw [x1] at hr'
    rw [oj_e hR, oj_e hR]; exact h4 r r' hr hr'
theorem FSq {q : Nat} (h : JSq I X q) (h1 : I' (19 + 2 * q) = I (19 + 2 * q)) (h2 : I' (20 + 2 * q) = I (20 + 2 * q)) (x1 : X' 34 q = X 34 q) (x2 : X' 35 q = X 35 q) (x3 : ∀ i, i < 32 → X' 36 (32 * q + i) = X 36 (32 * q + i)) : JSq I' X' q := by
  rcases h with ⟨a1, a2, a3, a4, a5, a6⟩ | h
  · refine Or.inl ⟨by rw [h1]; exact a1, by rw [x1]; exact a2, by rw [x1]; exact a3, by rw [h1, x2]; exact a4, by rw [h1, x1]; exact a5, fun i hi => ?_⟩
    rw [x1] at hi
    rw [h2, x3 i (by omega)]; exact a6 i hi
  · exact Or.inr (by rw [h1, x1]; exact h)
theorem FS (h : JS I X) (hI : ∀ i, 19 ≤ i → i ≤ 26 → I' i = I i) (x1 : X' 34 = X 34) (x2 : X' 35 = X 35) (x3 : X' 36 = X 36) : JS I' X' := fun q hq => FSq (h q hq) (hI _ (by omega) (by omega)) (hI _ (by omega) (by omega)) (by rw [x1]) (by rw [x2]) (fun _ _ => by rw [x3])
theorem FT (h : JT I X) (h1 : I' 0 10 = I 0 10) (h2 : I' 0 11 = I 0 11) (x1 : X' 27 42 = X 27 42) (x2 : X' 27 0 = X 27 0) : JT I' X' := ⟨by rw [h1, x1]; exact h.1, by rw [h2, x2]; exact h.2⟩
theorem FB (h : JB I X) (h1 : I' 2 1 = I 2 1) (h2 : I' 3 = I 3) (x1 : X' 27 12 = X 27 12) (x2 : X' 38 = X 38) : JB I' X' := by
  unfold JB
  rw [h1, h2, x1, x2]; exact h
theorem FQ (h : JQ I X) (h1 : I' 4 7 = I 4 7) (h2 : I' 4 10 = I 4 10) (h3 : I' 10 = I 10) (x1 : X' 27 14 = X 27 14) (x2 : X' 27 16 = X 27 16) (x3 : X' 39 = X 39) : JQ I' X' := by
  unfold JQ
  rw [h1, h2, h3, x1, x2, x3]; exact h
theorem psF_c (h4 : X' 44 = X 44) (h0 : ∀ r, X' 30 r = X 30 r) : ∀ m : Nat, psF X' m = psF X m
  | 0 => rfl
  | m + 1 => by
    unfold psF
    rw [psF_c h4 h0 m, h4, h0]
theorem FW' (h : JW I X) (h1 : I' 11 2 = I 11 2) (h2 : I' 11 3 = I 11 3) (h3 : I' 11 6 = I 11 6) (h4 : I' 12 = I 12) (h5 : I' 13 = I 13) (h6 : I' 14 = I 14) (h7 : I' 15 = I 15) (x1 : X' 27 24 = X 27 24) (x2 : X' 27 25 = X 27 25) (x3 : X' 27 27 = X 27 27) (x4 : X' 44 = X 44) (x5 : X' 45 = X 45) (x6 : X' 46 = X 46) (x7 : X' 30 = X 30) (x8 : X' 27 1 = X 27 1) : JW I' X' := by
  unfold JW
  rw [h1, h2, h3, h4, h5, h6, h7, x1, x2, x3, x4, x5, x6, x8]
  simp only [psF_c x4 (fun r => by rw [x7])]
  exact h
theorem FV (h : JV X) (x1 : X' 54 = X 54) (x2 : X' 51 = X 51) (x3 : X' 53 = X 53) (x4 : X' 28 = X 28) (x5 : X' 29 = X 29) (x6 : X' 30 = X 30) (x7 : X' 27 38 = X 27 38) : JV X' := by
  unfold JV
  rw [x1, x2, x3, x4, x5, x6, x7]; exact h
theorem FX {t : Int} (h : JX t X) (x1 : X' 27 1 = X 27 1) (x2 : X' 32 = X 32) (x3 : X' 33 = X 33) (x4 : X' 27 35 = X 27 35) (x5 : X' 53 = X 53) (x6 : X' 55 = X 55) (x7 : X' 27 24 = X 27 24) (x8 : X' 27 25 = X 27 25) (x9 : X' 27 38 = X 27 38) : JX t X' := by
  unfold JX
  rw [x1, x2, x3, x4, x5, x6, x7, x8, x9]; exact h
theorem JX_le {t t' : Int} (h : JX t X) (ht : t ≤ t') : JX t' X := ⟨h.1, h.2.1, h.2.2.1, Int.le_trans h.2.2.2 ht⟩
theorem JZ_le {t t' : Int} (h : JZ t n sh I L R X) (ht : t ≤ t') : JZ t' n sh I L R X := ⟨h.1, JX_le h.2 ht⟩
end FRM
