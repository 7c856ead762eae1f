set_option maxHeartbeats 2000000 in
theorem JZ_ways {t : Int} {n : Nat} {sh : vS} {I I' : vI} {L : vL} {R : vR} {X X' : vI} (h : JZ t n sh I L R X) (hI : ∀ a b, ¬ (4 ≤ a ∧ a ≤ 10) → I' a b = I a b) (hQS : QS I' (sgM X')) (hSF : SF X X') : JZ t n sh I' L (up2 R 4 4 (some 2)) X' := by
  obtain ⟨⟨hw, hR, hC, hK, hS, hT, hB, hQ, hY, hV⟩, hx⟩ := h
  have e1 : ∀ a, ¬ (4 ≤ a ∧ a ≤ 10) → I' a = I a := fun a ha => funext fun b => hI a b ha
  refine ⟨⟨WF_s hw, ?_, ?_, ?_, ?_, ?_, ?_, ?_, ?_, ?_⟩, ?_⟩
  · exact FRd hR (Nat.le_refl _) (fun _ _ => rfl) (up2_o (by decide)) (hI 0 1 (by omega)) (fun a h1 _ _ => e1 a (by omega)) (hSF 27 1 rfl) (funext fun b => hSF 28 b rfl) (funext fun b => hSF 29 b rfl) (funext fun b => hSF 30 b rfl) (funext fun b => hSF 31 b rfl) (funext fun b => hSF 32 b rfl) (funext fun b => hSF 33 b rfl)
  · exact FC hC (Nat.le_refl _) (fun _ _ => rfl) (up2_o (by decide)) (hI 0 6 (by omega)) (fun a h1 _ _ => ⟨e1 a (by omega), rfl⟩) (hSF 27 30 rfl) (funext fun b => hSF 47 b rfl) (funext fun b => hSF 48 b rfl) (funext fun b => hSF 49 b rfl) (funext fun b => hSF 50 b rfl) (hSF 27 25 rfl)
  · exact FKk hK (Nat.le_refl _) (fun _ _ => rfl) (up2_o (by decide)) (fun a h1 _ => up2_o (by omega)) (hI 0 8 (by omega)) (fun a h1 _ _ => e1 a (by omega)) (hSF 27 35 rfl) (funext fun b => hSF 51 b rfl) (funext fun b => hSF 52 b rfl) (funext fun b => hSF 53 b rfl) (funext fun b => hSF 54 b rfl) (funext fun b => hSF 55 b rfl) (hSF 27 38 rfl)
  · exact FS hS (fun a h1 h2 => e1 a (by omega)) (funext fun b => hSF 34 b rfl) (funext fun b => hSF 35 b rfl) (funext fun b => hSF 36 b rfl)
  · exact FT hT (hI 0 10 (by omega)) (hI 0 11 (by omega)) (hSF 27 42 rfl) (hSF 27 0 rfl)
  · exact FB hB (hI 2 1 (by omega)) (e1 3 (by omega)) (hSF 27 12 rfl) (funext fun b => hSF 38 b rfl)
  · exact ⟨Int32.toInt_inj.mp hQS.1, Int32.toInt_inj.mp hQS.2.1, hQS.2.2.1⟩
  · exact FW' hY (hI 11 2 (by omega)) (hI 11 3 (by omega)) (hI 11 6 (by omega)) (e1 12 (by omega)) (e1 13 (by omega)) (e1 14 (by omega)) (e1 15 (by omega)) (hSF 27 24 rfl) (hSF 27 25 rfl) (hSF 27 27 rfl) (funext fun b => hSF 44 b rfl) (funext fun b => hSF 45 b rfl) (funext fun b => hSF 46 b rfl) (funext fun b => hSF 30 b rfl) (hSF 27 1 rfl)
  · exact FV hV (funext fun b => hSF 54 b rfl) (funext fun b => hSF 51 b rfl) (funext fun b => hSF 53 b rfl) (funext fun b => hSF 28 b rfl) (funext fun b => hSF 29 b rfl) (funext fun b => hSF 30 b rfl) (hSF 27 38 rfl)
  · exact FX hx (hSF 27 1 rfl) (funext fun b => hSF 32 b rfl) (funext fun b => hSF 33 b rfl) (hSF 27 35 rfl) (funext fun b => hSF 53 b rfl) (funext fun b => hSF 55 b rfl) (hSF 27 24 rfl) (hSF 27 25 rfl) (hSF 27 38 rfl)
theorem zz3 {I : vI} {b : Nat} : ∀ m : Nat, zzF I m 53 b = if b < m then 0 else I 53 b
  | 0 => by rw [if_neg (Nat.not_lt_zero b)]; rfl
  | m + 1 => by
    show up2 (up2 (zzF I m) 53 m 0) 55 m 0 53 b = _
    rw [up2_o (by omega)]
    by_cases q : b = m
    · subst q; rw [up2_e, if_pos (by omega)]
    · rw [up2_k q, zz3 m]
      by_cases z : b < m
      · rw [if_pos z, if_pos (by omega)]
      · rw [if_neg z, if_neg (by omega)]
theorem zz5 {I : vI} {b : Nat} : ∀ m : Nat, zzF I m 55 b = if b < m then 0 else I 55 b
  | 0 => by rw [if_neg (Nat.not_lt_zero b)]; rfl
  | m + 1 => by
    show up2 (up2 (zzF I m) 53 m 0) 55 m 0 55 b = _
    by_cases q : b = m
    · subst q; rw [up2_e, if_pos (by omega)]
    · rw [up2_k q, up2_o (by omega), zz5 m]
      by_cases z : b < m
      · rw [if_pos z, if_pos (by omega)]
      · rw [if_neg z, if_neg (by omega)]
/-- the cells that the cars' forgetting leaves -/
theorem fgA_n {I : vI} {R : vR} {a : Nat} : ∀ m : Nat, (∀ k, k < m → a ≠ oj R 17 k ∧ a ≠ oj R 17 k + 2 ∧ a ≠ oj R 17 k + 3) → fgA I R m a = I a
  | 0, _ => rfl
  | m + 1, h => by
    have h1 := h m (by omega)
    show fgF (fgA I R m) (oj R 17 m) 8 a = _
    rw [fg_o h1.1 h1.2.1 h1.2.2]
    exact fgA_n m (fun k hk => h k (by omega))
theorem fgA_c {I : vI} {R : vR} {a : Nat} : ∀ m : Nat, a < m → (∀ k k' : Nat, k < k' → k' < m → oj R 17 k + 4 ≤ oj R 17 k') → (∀ b, fgA I R m (oj R 17 a) b = if b = 4 then 0 else I (oj R 17 a) b) ∧ (∀ b, fgA I R m (oj R 17 a + 1) b = I (oj R 17 a + 1) b) ∧ (∀ b, fgA I R m (oj R 17 a + 2) b = if b < 8 then 0 else I (oj R 17 a + 2) b) ∧ ∀ b, fgA I R m (oj R 17 a + 3) b = if b < 8 then 0 else I (oj R 17 a + 3) b
  | 0, h, _ => absurd h (Nat.not_lt_zero a)
  | m + 1, h, hd => by
    by_cases q : a = m
    · subst q
      have ho : ∀ x, oj R 17 a ≤ x → x < oj R 17 a + 4 → fgA I R a x = I x := fun x h1 h2 => fgA_n a (fun k hk => by have := hd k a hk (by omega); omega)
      refine ⟨fun b => ?_, fun b => ?_, fun b => ?_, fun b => ?_⟩
      · show fgF (fgA I R a) (oj R 17 a) 8 (oj R 17 a) b = _
        rw [fg_j, ho _ (by omega) (by omega)]
      · show fgF (fgA I R a) (oj R 17 a) 8 (oj R 17 a + 1) b = _
        rw [fg_o (by omega) (by omega) (by omega), ho _ (by omega) (by omega)]
      · show fgF (fgA I R a) (oj R 17 a) 8 (oj R 17 a + 2) b = _
        rw [fg_2, ho _ (by omega) (by omega)]
      · show fgF (fgA I R a) (oj R 17 a) 8 (oj R 17 a + 3) b = _
        rw [fg_3, ho _ (by omega) (by omega)]
    · have hh := hd a m (by omega) (by omega)
      obtain ⟨i1, i2, i3, i4⟩ := fgA_c (I := I) (R := R) (a := a) m (by omega) (fun k k' h1 h2 => hd k k' h1 (by omega))
      refine ⟨fun b => ?_, fun b => ?_, fun b => ?_, fun b => ?_⟩
      · show fgF (fgA I R m) (oj R 17 m) 8 (oj R 17 a) b = _
        rw [fg_o (by omega) (by omega) (by omega)]; exact i1 b
      · show fgF (fgA I R m) (oj R 17 m) 8 (oj R 17 a + 1) b = _
        rw [fg_o (by omega) (by omega) (by omega)]; exact i2 b
      · show fgF (fgA I R m) (oj R 17 m) 8 (oj R 17 a + 2) b = _
        rw [fg_o (by omega) (by omega) (by omega)]; exact i3 b
      · show fgF (fgA I R m) (oj R 17 m) 8 (oj R 17 a + 3) b = _
        rw [fg_o (by omega) (by omega) (by omega)]; exact i4 b
theorem lyF_o {X : vI} {a : Nat} (h1 : a ≠ 27) (h2 : a ≠ 44) (h3 : a ≠ 53) (h5 : a ≠ 55) : lyF X a = X a := funext fun b => by
  unfold lyF
  rw [zzF_o h3 h5, up2_o h1, up2_o h1, up2_o h1, cpF_o h2, up2_o h1, up2_o h1]
theorem lyF_27 {X : vI} {b : Nat} (h1 : b ≠ 24) (h2 : b ≠ 25) (h3 : b ≠ 27) (h4 : b ≠ 30) (h5 : b ≠ 38) : lyF X 27 b = X 27 b := by
  unfold lyF
  rw [zzF_o (by decide) (by decide), up2_k h5, up2_k h4, up2_k h3, cpF_o (by decide), up2_k h2, up2_k h1]
theorem lyF_s {X : vI} : lyF X 27 24 = X 27 16 ∧ lyF X 27 25 = X 27 15 ∧ lyF X 27 27 = 0 ∧ lyF X 27 30 = 0 ∧ lyF X 27 38 = 0 := by
  unfold lyF
  refine ⟨?_, ?_, ?_, ?_, ?_⟩ <;> rw [zzF_o (by decide) (by decide)]
  · rw [up2_k (by decide), up2_k (by decide), up2_k (by decide), cpF_o (by decide), up2_k (by decide), up2_e]
  · rw [up2_k (by decide), up2_k (by decide), up2_k (by decide), cpF_o (by decide), up2_e]
  · rw [up2_k (by decide), up2_k (by decide), up2_e]
  · rw [up2_k (by decide), up2_e]
  · rw [up2_e]
theorem lyF_44 {X : vI} {b : Nat} : lyF X 44 b = if b < (X 27 16).toInt.toNat then X 39 b else X 44 b := by
  unfold lyF
  rw [zzF_o (by decide) (by decide), up2_o (by decide), up2_o (by decide), up2_o (by decide)]
  have e := cpF_c (I := up2 (up2 X 27 24 (X 27 16)) 27 25 (X 27 15)) (d := 44) (q := 0) (g := X 39) (b := b) (X 27 16).toInt.toNat
  refine Eq.trans e ?_
  by_cases q : b < (X 27 16).toInt.toNat
  · rw [if_pos ⟨Nat.zero_le b, by omega⟩, if_pos q]; rfl
  · rw [if_neg (by omega), if_neg q]; rfl
theorem lyF_53 {X : vI} {b : Nat} : lyF X 53 b = if b < 64 then 0 else X 53 b := by
  unfold lyF
  rw [zz3, up2_o (by decide), up2_o (by decide), up2_o (by decide), cpF_o (by decide), up2_o (by decide), up2_o (by decide)]
theorem lyF_55 {X : vI} {b : Nat} : lyF X 55 b = if b < 64 then 0 else X 55 b := by
  unfold lyF
  rw [zz5, up2_o (by decide), up2_o (by decide), up2_o (by decide), cpF_o (by decide), up2_o (by decide), up2_o (by decide)]
theorem psB_e {X X' : vI} {w : Nat → Int32} (h : X' 30 = X 30) : ∀ m : Nat, psB X' w m = psB X w m
  | 0 => rfl
  | m + 1 => by unfold psB; rw [psB_e h m, h]
set_option maxHeartbeats 2000000 in
theorem JZ_lay {t : Int} {n : Nat} {sh : vS} {I J : vI} {L : vL} {R : vR} {X : vI} (h : JZ t n sh I L R X) (b : Nat) (hb : (I 4 10).toInt = (b : Int)) (hb1 : 1 ≤ b ∧ b ≤ 10) (hbe : ∀ k, k < b → 0 ≤ (I 10 k).toInt ∧ (I 10 k).toInt < (X 27 1).toInt) (hsum : (X 27 15).toInt = psB X (I 10) b) (hLy : Ly1 I J X b) : JZ t n sh (fgA (up2 J 0 6 0) R (X 27 35).toInt.toNat) L R (lyF X) := by
  obtain ⟨⟨hw, hR, hC, hK, hS, hT, hB, hQ, hY, hV⟩, hx⟩ := h
  obtain ⟨l1, l2, l3, l4, l5, l6⟩ := hLy
  obtain ⟨s1, s2, s3, s4, s5⟩ := lyF_s (X := X)
  have hk8 := hK.2.1
  have h56 : ∀ k, k < (X 27 35).toInt.toNat → 56 ≤ oj R 17 k := fun k hk => (hK.2.2.1 k (by omega)).2.1
  have hdd : ∀ k k' : Nat, k < k' → k' < (X 27 35).toInt.toNat → oj R 17 k + 4 ≤ oj R 17 k' := fun k k' h1 h2 => hK.2.2.2 k k' h1 (by omega)
  have hI : ∀ a, a ≠ 11 → a ≠ 12 → a ≠ 13 → a ≠ 0 → a < 56 → fgA (up2 J 0 6 0) R (X 27 35).toInt.toNat a = I a := fun a a1 a2 a3 a0 a56 => by
    rw [fgA_o a56 _ h56, up2_o a0, l6 a a1 a2 a3]
  have hI0 : ∀ c, c ≠ 6 → fgA (up2 J 0 6 0) R (X 27 35).toInt.toNat 0 c = I 0 c := fun c hc => by
    rw [fgA_o (by omega) _ h56, up2_k hc, l6 0 (by omega) (by omega) (by omega)]
  have hJ : ∀ a, 11 ≤ a → a < 56 → fgA (up2 J 0 6 0) R (X 27 35).toInt.toNat a = J a := fun a a1 a2 => by rw [fgA_o a2 _ h56, up2_o (by omega)]
  have hI56 : ∀ a, 56 ≤ a → up2 J 0 6 0 a = I a := fun a ha => by rw [up2_o (by omega), l6 a (by omega) (by omega) (by omega)]
  have lyX : ∀ a, a ≠ 27 → a ≠ 44 → a ≠ 53 → a ≠ 55 → lyF X a = X a := fun a a1 a2 a3 a4 => lyF_o a1 a2 a3 a4
  have y1 : lyF X 27 1 = X 27 1 := lyF_27 (by decide) (by decide) (by decide) (by decide) (by decide)
  have hQ10 : ∀ k, I 10 k = X 39 k := hQ.2.2
  have hb16 : (X 27 16).toInt = (b : Int) := by rw [← hQ.2.1]; exact hb
  have hbn : (X 27 16).toInt.toNat = b := by omega
  have hlen : ∀ k, k < b → 0 ≤ (X 30 (I 10 k).toInt.toNat).toInt ∧ (X 30 (I 10 k).toInt.toNat).toInt ≤ 20000 := fun k hk => by
    have z := RD_16 (hR.2.2.1 (I 10 k).toInt.toNat (by have := hbe k hk; omega)); omega
  have hpb := psB_b b hlen b (Nat.le_refl _)
  have hps : ∀ m : Nat, m ≤ b → psF (lyF X) m = psB X (I 10) m := fun m => by
    induction m with
    | zero => intro _; rfl
    | succ m ih =>
      intro hm
      show psF (lyF X) m + (lyF X 30 (lyF X 44 m).toInt.toNat).toInt = psB X (I 10) m + _
      rw [ih (by omega), lyX 30 (by decide) (by decide) (by decide) (by decide), lyF_44, hbn, if_pos (by omega), hQ10]
  refine ⟨⟨hw, ?_, ?_, ?_, ?_, ?_, ?_, ?_, ?_, ?_⟩, ?_⟩
  · refine FRd hR (Nat.le_refl _) (fun _ _ => rfl) rfl (hI0 1 (by decide)) (fun a h1 h2 hc => ?_) y1 (lyX _ (by decide) (by decide) (by decide) (by decide)) (lyX _ (by decide) (by decide) (by decide) (by decide)) (lyX _ (by decide) (by decide) (by decide) (by decide)) (lyX _ (by decide) (by decide) (by decide) (by decide)) (lyX _ (by decide) (by decide) (by decide) (by decide)) (lyX _ (by decide) (by decide) (by decide) (by decide))
    rw [fgA_n _ (fun k hk => ?_), hI56 a h1]
    have z := kdS (hK.2.2.1 k (by omega))
    have z1 := z.1.2
    have z2 : (sh (oj R 17 k + 2)).1 = 13 := by rw [z.2.2.2.2.1]
    have z3 : (sh (oj R 17 k + 3)).1 = 13 := by rw [z.2.2.2.2.2]
    refine ⟨fun e => ?_, fun e => ?_, fun e => ?_⟩ <;> rw [e] at hc <;> omega
  · refine ⟨?_, ?_, fun c hc => ?_, fun c c' hc => ?_⟩
    · rw [s4, fgA_o (by omega) _ h56, up2_e]
    · rw [s4]; exact ⟨by decide, by decide⟩
    · rw [s4] at hc; exact absurd hc (by show ¬ (c : Int) < 0; omega)
    · rw [s4] at hc; exact absurd hc (by show ¬ (c : Int) < 0; omega)
  · have y35 : lyF X 27 35 = X 27 35 := lyF_27 (by decide) (by decide) (by decide) (by decide) (by decide)
    refine ⟨by rw [hI0 8 (by decide), y35]; exact hK.1, by rw [y35]; exact hK.2.1, fun a ha => ?_, fun a a' h1 h2 => hK.2.2.2 a a' h1 (by rw [y35] at h2; exact h2)⟩
    rw [y35] at ha
    obtain ⟨a1, a2, a3, a4, a5, a6, a7, a8, a9, b1, b2, b3⟩ := hK.2.2.1 a ha
    obtain ⟨f0, f1, f2, f3⟩ := fgA_c (I := up2 J 0 6 0) (R := R) (a := a) (X 27 35).toInt.toNat (by omega) hdd
    have z0 : (0 : Int32).toInt = 0 := rfl
    have ha8 : a < 8 := by omega
    refine ⟨a1, a2, a3, ?_, a5, a6, ?_, ?_, ?_, ?_, fun c hc => ?_, fun c c' hc hc' z => ?_⟩
    · rw [lyX 52 (by decide) (by decide) (by decide) (by decide)]; exact a4
    · rw [f0, if_neg (by decide), hI56 _ a2]; exact a7
    · rw [f0, if_neg (by decide), hI56 _ a2, lyX 51 (by decide) (by decide) (by decide) (by decide)]; exact a8
    · rw [lyX 52 (by decide) (by decide) (by decide) (by decide)]; exact a9
    · rw [f0, if_pos rfl, s5]; exact ⟨Int.le_refl _, Int.le_refl _⟩
    · rw [f0, f2, f3, if_pos rfl, if_pos hc, if_pos hc, s5, lyF_53, lyF_55, if_pos (by omega), if_pos (by omega), z0]
      exact ⟨rfl, by omega, by omega, by omega, Iff.rfl, fun z => absurd z (by omega)⟩
    · rw [lyF_53, if_pos (by omega)] at z; exact absurd z (by decide)
  · exact FS hS (fun a h1 h2 => hI a (by omega) (by omega) (by omega) (by omega) (by omega)) (lyX _ (by decide) (by decide) (by decide) (by decide)) (lyX _ (by decide) (by decide) (by decide) (by decide)) (lyX _ (by decide) (by decide) (by decide) (by decide))
  · exact FT hT (hI0 10 (by decide)) (hI0 11 (by decide)) (lyF_27 (by decide) (by decide) (by decide) (by decide) (by decide)) (lyF_27 (by decide) (by decide) (by decide) (by decide) (by decide))
  · exact FB hB (by rw [hI 2 (by omega) (by omega) (by omega) (by omega) (by omega)]) (hI 3 (by omega) (by omega) (by omega) (by omega) (by omega)) (lyF_27 (by decide) (by decide) (by decide) (by decide) (by decide)) (lyX _ (by decide) (by decide) (by decide) (by decide))
  · exact FQ hQ (by rw [hI 4 (by omega) (by omega) (by omega) (by omega) (by omega)]) (by rw [hI 4 (by omega) (by omega) (by omega) (by omega) (by omega)]) (hI 10 (by omega) (by omega) (by omega) (by omega) (by omega)) (lyF_27 (by decide) (by decide) (by decide) (by decide) (by decide)) (lyF_27 (by decide) (by decide) (by decide) (by decide) (by decide)) (lyX _ (by decide) (by decide) (by decide) (by decide))
  · obtain ⟨w1, w2, w3, w4, w5, w6, w7, w8, w9, w10, w11, w12, w13⟩ := hY
    have z0 : (0 : Int32).toInt = 0 := rfl
    have hj12 : ∀ k, J 12 k = lyF X 44 k := fun k => by
      rw [l4, lyF_44, hbn]
      by_cases q : k < b
      · rw [if_pos q, if_pos q]; exact hQ10 k
      · rw [if_neg q, if_neg q]; exact w4 k
    unfold JW
    rw [hJ 11 (by omega) (by omega), hJ 12 (by omega) (by omega), hJ 13 (by omega) (by omega), hI 14 (by omega) (by omega) (by omega) (by omega) (by omega), hI 15 (by omega) (by omega) (by omega) (by omega) (by omega), s1, s2, s3, y1, lyX 45 (by decide) (by decide) (by decide) (by decide), lyX 46 (by decide) (by decide) (by decide) (by decide), hb16]
    refine ⟨Int32.toInt_inj.mp (by rw [l1, hb16]), Int32.toInt_inj.mp (by rw [l2, hsum]), l3, hj12, w5, w6, fun m hm => ?_, by omega, ⟨by decide, by decide⟩, by omega, fun k hk => ?_, fun k hk => ?_, fun z => absurd rfl z⟩
    · rw [hps (m + 1) (by omega)]; exact l5 m (by omega)
    · rw [z0] at hk; omega
    · rw [← hj12, l4, if_pos (by omega)]; exact hbe k (by omega)
  · refine ⟨fun i => by rw [lyX 54 (by decide) (by decide) (by decide) (by decide)]; exact hV.1 i, fun i => by rw [lyX 51 (by decide) (by decide) (by decide) (by decide)]; exact hV.2.1 i, fun i => ?_, fun r hr => ?_, by rw [s5]; decide⟩
    · rw [lyF_53]
      by_cases q : i < 64
      · rw [if_pos q]; decide
      · rw [if_neg q]; exact hV.2.2.1 i
    · rw [lyX 28 (by decide) (by decide) (by decide) (by decide), lyX 29 (by decide) (by decide) (by decide) (by decide), lyX 30 (by decide) (by decide) (by decide) (by decide)]
      exact hV.2.2.2.1 r hr
  · have hx4 := hx.2.2.2
    have hv4 := hV.2.2.2.2
    refine ⟨fun r hr => ?_, fun a c ha hc => ?_, fun z => ?_, by rw [s5]; show (0 : Int) ≤ t; omega⟩
    · rw [y1] at hr
      rw [lyX 32 (by decide) (by decide) (by decide) (by decide), lyX 33 (by decide) (by decide) (by decide) (by decide)]; exact hx.1 r hr
    · rw [lyF_27 (by decide) (by decide) (by decide) (by decide) (by decide)] at ha
      have z := hx.2.1 a c ha hc
      rw [lyF_53, lyF_55]
      by_cases q : 8 * a + c < 64
      · rw [if_pos q, if_pos q]; exact ⟨rfl, rfl⟩
      · rw [if_neg q, if_neg q]; exact z
    · rw [s1] at z; omega
