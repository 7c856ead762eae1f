set_option maxHeartbeats 2000000 in
theorem JZ_car {t : Int} {n n' : Nat} {sh sh' : vS} {I I' : vI} {L L' : vL} {R R' : vR} {X : vI} (k : Nat) (s kd w num : Int32) (h : JZ t n sh I L R X) (hk : (X 27 35).toInt = (k : Int)) (hk8 : k < 8) (hwv : w = X 27 35 + 1) (hs0 : 0 ≤ s.toInt ∧ s.toInt ≤ 500000) (hkd : 0 ≤ kd.toInt ∧ kd.toInt ≤ 2) (hnum : num.toInt = (k : Int))
    (hn : n' = n + 4) (hs : ∀ i, i < n → sh' i = sh i) (s0 : sh' n = (crC kd.toInt, 0)) (s1 : sh' (n + 1) = (13, 8)) (s2 : sh' (n + 2) = (13, 8)) (s3 : sh' (n + 3) = (13, 8))
    (hI : ∀ i, i < n → i ≠ 0 → I' i = I i) (hI0 : ∀ b, b ≠ 8 → I' 0 b = I 0 b) (i8 : I' 0 8 = w) (j0 : I' n 0 = num) (j1 : I' n 1 = s) (j4 : I' n 4 = 0) (j2 : ∀ c, I' (n + 2) c = 0) (j3 : ∀ c, I' (n + 3) c = 0)
    (hL : ∀ i, i < n → L' i = L i) (hRo : ∀ i, i < n → i ≠ 17 → R' i = R i) (hR17 : ∀ a, a ≠ k → R' 17 a = R 17 a) (r17 : R' 17 k = some n) (r2 : R' n 2 = some (n + 1)) (r3 : R' n 3 = some (n + 2)) (r5 : R' n 5 = some (n + 3)) :
    JZ t n' sh' I' L' R' (up2 (up2 (up2 X 51 k s) 52 k kd) 27 35 w) := by
  obtain ⟨⟨hw, hR, hC, hK, hS, hT, hB, hQ, hY, hV⟩, hx⟩ := h
  have hn56 := hw.1
  have hw1 : w.toInt = (k : Int) + 1 := by rw [hwv, fb_addI (by show _ ≤ _ + (1 : Int); omega) (by show _ + (1 : Int) < _; omega), hk]; rfl
  have hnn : n ≤ n' := by omega
  have ojn : oj R' 17 k = n := by unfold oj; rw [r17]; rfl
  have ojo : ∀ a, a ≠ k → oj R' 17 a = oj R 17 a := fun a q => by unfold oj; rw [hR17 a q]
  refine ⟨⟨?_, ?_, ?_, ?_, ?_, ?_, ?_, ?_, ?_, ?_⟩, ?_⟩
  · refine FWf hw hnn hs (fun i a j e => ?_)
    have h56 := rF_56 e
    rw [hRo i (by omega) (fun z => by subst z; simp [rF] at e)]
  · exact FRd hR hnn hs (hRo 1 (by omega) (by decide)) (hI0 1 (by decide)) (fun i h1 h2 _ => hI i h2 (by omega)) rfl rfl rfl rfl rfl rfl rfl
  · exact FC hC hnn hs (hRo 16 (by omega) (by decide)) (hI0 6 (by decide)) (fun i h1 h2 _ => ⟨hI i h2 (by omega), hL i h2⟩) rfl rfl rfl rfl rfl rfl
  · refine ⟨i8, ⟨by show 0 ≤ w.toInt; omega, by show w.toInt ≤ 8; omega⟩, fun a ha => ?_, fun a a' haa ha => ?_⟩
    · have ha0 : (a : Int) < w.toInt := ha
      by_cases q : a = k
      · subst q
        rw [ojn]
        have hv0 := hV.2.2.2.2
        have z4 : (0 : Int32).toInt = 0 := rfl
        refine ⟨r17, hn56, by omega, ?_, ⟨s1, s2, s3⟩, ⟨r2, r3, r5⟩, by rw [j0]; exact hnum, ?_, ?_, ⟨by rw [j4]; decide, by rw [j4]; exact hv0⟩, fun c hc => ?_, fun c c' hc hc' z => ?_⟩
        · rw [s0]; show _ = (crC (up2 X 52 a kd 52 a).toInt, 0); rw [up2_e]
        · rw [j1]; show _ = up2 X 51 a s 51 a; rw [up2_e]
        · show 0 ≤ (up2 X 52 a kd 52 a).toInt ∧ (up2 X 52 a kd 52 a).toInt ≤ 2; rw [up2_e]; exact hkd
        · have h1 := hx.2.1 a c (by omega) hc
          show I' (n + 3) c = X 55 (8 * a + c) ∧ (0 ≤ (X 55 (8 * a + c)).toInt ∧ (X 55 (8 * a + c)).toInt ≤ 3000) ∧ (0 ≤ (I' (n + 2) c).toInt ∧ (I' (n + 2) c).toInt ≤ (I' n 4).toInt) ∧ (0 ≤ (X 53 (8 * a + c)).toInt ∧ (X 53 (8 * a + c)).toInt ≤ (X 27 38).toInt) ∧ (0 < (I' (n + 2) c).toInt ↔ 0 < (X 53 (8 * a + c)).toInt) ∧ (0 < (X 53 (8 * a + c)).toInt → I' (n + 1) c = X 54 (8 * a + c))
          rw [h1.1, h1.2, j2, j3, j4, z4]
          exact ⟨rfl, by omega, by omega, by omega, Iff.rfl, fun z => absurd z (by omega)⟩
        · have h1 := hx.2.1 a c (by omega) hc
          have z' : 0 < (X 53 (8 * a + c)).toInt := z
          rw [h1.1] at z'
          exact absurd z' (by decide)
      · rw [ojo a q]
        have hd := hK.2.2.1 a (by omega)
        have k1 := kdS hd
        have k2 := hd.2.1
        exact FKd hd hnn hs (hR17 a q) (hRo _ k1.1.1 (by omega)) (hI _ k1.1.1 (by omega)) (hI _ k1.2.2.1.1 (by omega)) (hI _ k1.2.2.1.2.1 (by omega)) (hI _ k1.2.2.1.2.2 (by omega)) (up2_k (f := X) q) (up2_k (f := X) q) (fun _ _ => rfl) (fun _ _ => rfl) (fun _ _ => rfl) (Int.le_refl _)
    · have ha0 : (a' : Int) < w.toInt := ha
      by_cases q : a' = k
      · have hd := (hK.2.2.1 a (by omega)).2.2.1
        rw [q, ojn, ojo a (by omega)]; omega
      · rw [ojo a' q, ojo a (by omega)]; exact hK.2.2.2 a a' haa (by omega)
  · exact FS hS (fun i h1 h2 => hI i (by omega) (by omega)) rfl rfl rfl
  · exact FT hT (hI0 10 (by decide)) (hI0 11 (by decide)) rfl rfl
  · exact FB hB (by rw [hI 2 (by omega) (by decide)]) (hI 3 (by omega) (by decide)) rfl rfl
  · exact FQ hQ (by rw [hI 4 (by omega) (by decide)]) (by rw [hI 4 (by omega) (by decide)]) (hI 10 (by omega) (by decide)) rfl rfl rfl
  · exact FW' hY (by rw [hI 11 (by omega) (by decide)]) (by rw [hI 11 (by omega) (by decide)]) (by rw [hI 11 (by omega) (by decide)]) (hI 12 (by omega) (by decide)) (hI 13 (by omega) (by decide)) (hI 14 (by omega) (by decide)) (hI 15 (by omega) (by decide)) rfl rfl rfl rfl rfl rfl rfl rfl
  · refine ⟨hV.1, fun i => ?_, hV.2.2⟩
    show 0 ≤ (up2 X 51 k s 51 i).toInt ∧ (up2 X 51 k s 51 i).toInt ≤ 500000
    by_cases q : i = k
    · subst q; rw [up2_e]; exact hs0
    · rw [up2_k q]; exact hV.2.1 i
  · refine ⟨hx.1, fun a c h0 hc => ?_, hx.2.2⟩
    have h1 : w.toInt ≤ (a : Int) := h0
    exact hx.2.1 a c (by omega) hc
set_option maxHeartbeats 2000000 in
theorem JZ_clock {t : Int} {n : Nat} {sh : vS} {I : vI} {L : vL} {R : vR} {X : vI} (a c j : Nat) (u w tv : Int32) (h : JZ t n sh I L R X) (ha : (a : Int) < (X 27 35).toInt) (hj : j = oj R 17 a) (hc8 : c < 8) (ht : t < 1000000) (hu : u = I j 4 + 1) (hwv : w = X 27 38 + 1) (htv : 0 ≤ tv.toInt ∧ tv.toInt ≤ 1000000) : JZ (t + 1) n sh ((up2 (up2 (up2 I j 4 u) (j + 2) c u) (j + 1) c tv)) L R ((up2 (up2 (up2 X 27 38 w) 53 (8 * a + c) w) 54 (8 * a + c) tv)) := by
  obtain ⟨⟨hw, hR, hC, hK, hS, hT, hB, hQ, hY, hV⟩, hx⟩ := h
  have hn56 := hw.1
  have hd := hK.2.2.1 a ha
  rw [← hj] at hd
  have k1 := kdS hd
  have h56 := hd.2.1
  have hcj := k1.1.2
  have sj1 := k1.2.2.2.1
  have sj2 := k1.2.2.2.2.1
  have sj3 := k1.2.2.2.2.2
  have hcs1 : (sh (j + 1)).1 = 13 := by rw [sj1]
  have hcs2 : (sh (j + 2)).1 = 13 := by rw [sj2]
  have hcs3 : (sh (j + 3)).1 = 13 := by rw [sj3]
  have hdis : ∀ a' : Nat, (a' : Int) < (X 27 35).toInt → a' ≠ a → oj R 17 a' + 4 ≤ j ∨ j + 4 ≤ oj R 17 a' := fun a' h1 h2 => by
      rcases (show a' < a ∨ a < a' by omega) with z | z
      · exact Or.inl (by rw [hj]; exact hK.2.2.2 a' a z ha)
      · exact Or.inr (by rw [hj]; exact hK.2.2.2 a a' z h1)
  have hx4 := hx.2.2.2
  have hv4 := hV.2.2.2.2
  have hd4 := hd.2.2.2.2.2.2.2.2.2.1
  have hw1 : w.toInt = (X 27 38).toInt + 1 := by rw [hwv, fb_addI (by show _ ≤ _ + (1 : Int); omega) (by show _ + (1 : Int) < _; omega)]; rfl
  have hu1 : u.toInt = (I j 4).toInt + 1 := by rw [hu, fb_addI (by show _ ≤ _ + (1 : Int); omega) (by show _ + (1 : Int) < _; omega)]; rfl
  refine ⟨⟨?_, ?_, ?_, ?_, ?_, ?_, ?_, ?_, ?_, ?_⟩, ?_⟩
  · exact FWf hw (Nat.le_refl _) (fun _ _ => rfl) (fun i k j e => rfl)
  · exact FRd hR (Nat.le_refl _) (fun _ _ => rfl) (by (repeat first | rw [up2_o (by omega)] | rw [cpF_r (by omega)] | rw [uph_o (by omega)]) <;> rfl) (by (repeat first | rw [up2_o (by omega)] | rw [cpF_r (by omega)] | rw [uph_o (by omega)]) <;> rfl) (fun i h1 h2 hc => by (repeat first | rw [up2_o (by omega)] | rw [cpF_r (by omega)] | rw [uph_o (by omega)] | rw [up2_o (fun e => by rw [e] at hc; omega)]) <;> rfl) (by (repeat first | rw [up2_o (by omega)] | rw [cpF_r (by omega)] | rw [uph_o (by omega)]) <;> rfl) (by (repeat first | rw [up2_o (by omega)] | rw [cpF_r (by omega)] | rw [uph_o (by omega)]) <;> rfl) (by (repeat first | rw [up2_o (by omega)] | rw [cpF_r (by omega)] | rw [uph_o (by omega)]) <;> rfl) (by (repeat first | rw [up2_o (by omega)] | rw [cpF_r (by omega)] | rw [uph_o (by omega)]) <;> rfl) (by (repeat first | rw [up2_o (by omega)] | rw [cpF_r (by omega)] | rw [uph_o (by omega)]) <;> rfl) (by (repeat first | rw [up2_o (by omega)] | rw [cpF_r (by omega)] | rw [uph_o (by omega)]) <;> rfl) (by (repeat first | rw [up2_o (by omega)] | rw [cpF_r (by omega)] | rw [uph_o (by omega)]) <;> rfl)
  · exact FC hC (Nat.le_refl _) (fun _ _ => rfl) (by (repeat first | rw [up2_o (by omega)] | rw [cpF_r (by omega)] | rw [uph_o (by omega)]) <;> rfl) (by (repeat first | rw [up2_o (by omega)] | rw [cpF_r (by omega)] | rw [uph_o (by omega)]) <;> rfl) (fun i h1 h2 hc => ⟨by (repeat first | rw [up2_o (by omega)] | rw [cpF_r (by omega)] | rw [uph_o (by omega)] | rw [up2_o (fun e => by rw [e] at hc; omega)]) <;> rfl, by (repeat first | rw [up2_o (by omega)] | rw [cpF_r (by omega)] | rw [uph_o (by omega)] | rw [up2_o (fun e => by rw [e] at hc; omega)]) <;> rfl⟩) (by (repeat first | rw [up2_o (by omega)] | rw [cpF_r (by omega)] | rw [uph_o (by omega)]) <;> rfl) (by (repeat first | rw [up2_o (by omega)] | rw [cpF_r (by omega)] | rw [uph_o (by omega)]) <;> rfl) (by (repeat first | rw [up2_o (by omega)] | rw [cpF_r (by omega)] | rw [uph_o (by omega)]) <;> rfl) (by (repeat first | rw [up2_o (by omega)] | rw [cpF_r (by omega)] | rw [uph_o (by omega)]) <;> rfl) (by (repeat first | rw [up2_o (by omega)] | rw [cpF_r (by omega)] | rw [uph_o (by omega)]) <;> rfl) (by (repeat first | rw [up2_o (by omega)] | rw [cpF_r (by omega)] | rw [uph_o (by omega)]) <;> rfl)
  · refine ⟨by rw [up2_o (by omega), up2_o (by omega), up2_o (by omega)]; exact hK.1, hK.2.1, fun a' ha' => ?_, hK.2.2.2⟩
    have ha2 : (a' : Int) < (X 27 35).toInt := ha'
    by_cases q : a' = a
    · subst q
      rw [← hj]
      obtain ⟨a1, a2, a3, a4, a5, a6, a7, a8, a9, b1, b2, b3⟩ := hd
      have e0 : ∀ b, b ≠ 4 → (up2 (up2 (up2 I j 4 u) (j + 2) c u) (j + 1) c tv) j b = I j b := fun b hb => by rw [up2_o (by omega), up2_o (by omega), up2_k hb]
      have e4 : (up2 (up2 (up2 I j 4 u) (j + 2) c u) (j + 1) c tv) j 4 = u := by rw [up2_o (by omega), up2_o (by omega), up2_e]
      have f1 : ∀ b, (up2 (up2 (up2 I j 4 u) (j + 2) c u) (j + 1) c tv) (j + 1) b = if b = c then tv else I (j + 1) b := fun b => by
        by_cases z : b = c
        · subst z; rw [up2_e, if_pos rfl]
        · rw [up2_k z, up2_o (by omega), up2_o (by omega), if_neg z]
      have f2 : ∀ b, (up2 (up2 (up2 I j 4 u) (j + 2) c u) (j + 1) c tv) (j + 2) b = if b = c then u else I (j + 2) b := fun b => by
        rw [up2_o (by omega)]
        by_cases z : b = c
        · subst z; rw [up2_e, if_pos rfl]
        · rw [up2_k z, up2_o (by omega), if_neg z]
      have f3 : (up2 (up2 (up2 I j 4 u) (j + 2) c u) (j + 1) c tv) (j + 3) = I (j + 3) := by rw [up2_o (by omega), up2_o (by omega), up2_o (by omega)]
      have g3 : ∀ b, b < 8 → (up2 (up2 (up2 X 27 38 w) 53 (8 * a' + c) w) 54 (8 * a' + c) tv) 53 (8 * a' + b) = if b = c then w else X 53 (8 * a' + b) := fun b hb => by
        rw [up2_o (by omega)]
        by_cases z : b = c
        · subst z; rw [up2_e, if_pos rfl]
        · rw [up2_k (by omega), up2_o (by omega), if_neg z]
      have g4 : ∀ b, b < 8 → (up2 (up2 (up2 X 27 38 w) 53 (8 * a' + c) w) 54 (8 * a' + c) tv) 54 (8 * a' + b) = if b = c then tv else X 54 (8 * a' + b) := fun b hb => by
        by_cases z : b = c
        · subst z; rw [up2_e, if_pos rfl]
        · rw [up2_k (by omega), up2_o (by omega), up2_o (by omega), if_neg z]
      have hxw : ((up2 (up2 (up2 X 27 38 w) 53 (8 * a' + c) w) 54 (8 * a' + c) tv) 27 38) = w := rfl
      refine ⟨a1, a2, a3, a4, a5, a6, ?_, ?_, a9, ?_, fun b hb => ?_, fun b b' hb hb' => ?_⟩
      · rw [e0 0 (by decide)]; exact a7
      · rw [e0 1 (by decide)]; exact a8
      · rw [e4, hxw]; omega
      · obtain ⟨d1, d2, d3, d4, d5, d6⟩ := b2 b hb
        rw [f1, f2, f3, g3 b hb, g4 b hb, e4, hxw]
        refine ⟨d1, d2, ?_⟩
        by_cases z : b = c
        · rw [if_pos z, if_pos z, if_pos z, if_pos z]; exact ⟨by omega, by omega, by omega, fun _ => rfl⟩
        · rw [if_neg z, if_neg z, if_neg z, if_neg z]; exact ⟨by omega, by omega, d5, d6⟩
      · rw [f2, f2, g3 b hb, g3 b' hb']
        have p1 := b2 b hb
        have p2 := b2 b' hb'
        have p3 := b3 b b' hb hb'
        by_cases z : b = c
        · rw [if_pos z, if_pos z]
          by_cases z' : b' = c
          · rw [if_pos z', if_pos z']; intro _ _; omega
          · rw [if_neg z', if_neg z']; intro _ _; omega
        · rw [if_neg z, if_neg z]
          by_cases z' : b' = c
          · rw [if_pos z', if_pos z']; intro _ _; omega
          · rw [if_neg z', if_neg z']; exact p3
    · have hd2 := hK.2.2.1 a' ha2
      have hz := hdis a' ha2 q
      exact FKd hd2 (Nat.le_refl _) (fun _ _ => rfl) rfl rfl (by rw [up2_o (by omega), up2_o (by omega), up2_o (by omega)]) (by rw [up2_o (by omega), up2_o (by omega), up2_o (by omega)]) (by rw [up2_o (by omega), up2_o (by omega), up2_o (by omega)]) (by rw [up2_o (by omega), up2_o (by omega), up2_o (by omega)]) rfl rfl (fun b hb => by rw [up2_o (by omega), up2_k (by omega)]; rfl) (fun b hb => by rw [up2_k (by omega)]; rfl) (fun _ _ => rfl) (by show _ ≤ w.toInt; omega)
  · exact FS hS (fun i h1 h2 => by (repeat first | rw [up2_o (by omega)] | rw [cpF_r (by omega)] | rw [uph_o (by omega)]) <;> rfl) (by (repeat first | rw [up2_o (by omega)] | rw [cpF_r (by omega)] | rw [uph_o (by omega)]) <;> rfl) (by (repeat first | rw [up2_o (by omega)] | rw [cpF_r (by omega)] | rw [uph_o (by omega)]) <;> rfl) (by (repeat first | rw [up2_o (by omega)] | rw [cpF_r (by omega)] | rw [uph_o (by omega)]) <;> rfl)
  · exact FT hT (by (repeat first | rw [up2_o (by omega)] | rw [cpF_r (by omega)] | rw [uph_o (by omega)]) <;> rfl) (by (repeat first | rw [up2_o (by omega)] | rw [cpF_r (by omega)] | rw [uph_o (by omega)]) <;> rfl) (by (repeat first | rw [up2_o (by omega)] | rw [cpF_r (by omega)] | rw [uph_o (by omega)]) <;> rfl) (by (repeat first | rw [up2_o (by omega)] | rw [cpF_r (by omega)] | rw [uph_o (by omega)]) <;> rfl)
  · exact FB hB (by (repeat first | rw [up2_o (by omega)] | rw [cpF_r (by omega)] | rw [uph_o (by omega)]) <;> rfl) (by (repeat first | rw [up2_o (by omega)] | rw [cpF_r (by omega)] | rw [uph_o (by omega)]) <;> rfl) (by (repeat first | rw [up2_o (by omega)] | rw [cpF_r (by omega)] | rw [uph_o (by omega)]) <;> rfl) (by (repeat first | rw [up2_o (by omega)] | rw [cpF_r (by omega)] | rw [uph_o (by omega)]) <;> rfl)
  · exact FQ hQ (by (repeat first | rw [up2_o (by omega)] | rw [cpF_r (by omega)] | rw [uph_o (by omega)]) <;> rfl) (by (repeat first | rw [up2_o (by omega)] | rw [cpF_r (by omega)] | rw [uph_o (by omega)]) <;> rfl) (by (repeat first | rw [up2_o (by omega)] | rw [cpF_r (by omega)] | rw [uph_o (by omega)]) <;> rfl) (by (repeat first | rw [up2_o (by omega)] | rw [cpF_r (by omega)] | rw [uph_o (by omega)]) <;> rfl) (by (repeat first | rw [up2_o (by omega)] | rw [cpF_r (by omega)] | rw [uph_o (by omega)]) <;> rfl) (by (repeat first | rw [up2_o (by omega)] | rw [cpF_r (by omega)] | rw [uph_o (by omega)]) <;> rfl)
  · exact FW' hY (by (repeat first | rw [up2_o (by omega)] | rw [cpF_r (by omega)] | rw [uph_o (by omega)]) <;> rfl) (by (repeat first | rw [up2_o (by omega)] | rw [cpF_r (by omega)] | rw [uph_o (by omega)]) <;> rfl) (by (repeat first | rw [up2_o (by omega)] | rw [cpF_r (by omega)] | rw [uph_o (by omega)]) <;> rfl) (by (repeat first | rw [up2_o (by omega)] | rw [cpF_r (by omega)] | rw [uph_o (by omega)]) <;> rfl) (by (repeat first | rw [up2_o (by omega)] | rw [cpF_r (by omega)] | rw [uph_o (by omega)]) <;> rfl) (by (repeat first | rw [up2_o (by omega)] | rw [cpF_r (by omega)] | rw [uph_o (by omega)]) <;> rfl) (by (repeat first | rw [up2_o (by omega)] | rw [cpF_r (by omega)] | rw [uph_o (by omega)]) <;> rfl) (by (repeat first | rw [up2_o (by omega)] | rw [cpF_r (by omega)] | rw [uph_o (by omega)]) <;> rfl) (by (repeat first | rw [up2_o (by omega)] | rw [cpF_r (by omega)] | rw [uph_o (by omega)]) <;> rfl) (by (repeat first | rw [up2_o (by omega)] | rw [cpF_r (by omega)] | rw [uph_o (by omega)]) <;> rfl) (by (repeat first | rw [up2_o (by omega)] | rw [cpF_r (by omega)] | rw [uph_o (by omega)]) <;> rfl) (by (repeat first | rw [up2_o (by omega)] | rw [cpF_r (by omega)] | rw [uph_o (by omega)]) <;> rfl) (by (repeat first | rw [up2_o (by omega)] | rw [cpF_r (by omega)] | rw [uph_o (by omega)]) <;> rfl) (by (repeat first | rw [up2_o (by omega)] | rw [cpF_r (by omega)] | rw [uph_o (by omega)]) <;> rfl) (by (repeat first | rw [up2_o (by omega)] | rw [cpF_r (by omega)] | rw [uph_o (by omega)]) <;> rfl)
  · refine ⟨fun i => ?_, hV.2.1, fun i => ?_, hV.2.2.2.1, by show 0 ≤ w.toInt; omega⟩
    · show 0 ≤ (up2 X 54 (8 * a + c) tv 54 i).toInt ∧ (up2 X 54 (8 * a + c) tv 54 i).toInt ≤ 1000000
      by_cases q : i = 8 * a + c
      · subst q; rw [up2_e]; exact htv
      · rw [up2_k q]; exact hV.1 i
    · show 0 ≤ (up2 X 53 (8 * a + c) w 53 i).toInt
      by_cases q : i = 8 * a + c
      · subst q; rw [up2_e]; omega
      · rw [up2_k q]; exact hV.2.2.1 i
  · refine ⟨hx.1, fun a' c' h0 hc' => ?_, hx.2.2.1, by show w.toInt ≤ t + 1; omega⟩
    have h1 : (X 27 35).toInt ≤ (a' : Int) := h0
    have h2 := hx.2.1 a' c' h1 hc'
    exact ⟨by show up2 X 53 (8 * a + c) w 53 (8 * a' + c') = 0; rw [up2_k (by omega)]; exact h2.1, h2.2⟩
set_option maxHeartbeats 2000000 in
theorem JZ_allow {t : Int} {n : Nat} {sh : vS} {I : vI} {L : vL} {R : vR} {X : vI} (a c j : Nat) (v : Int32) (h : JZ t n sh I L R X) (ha : (a : Int) < (X 27 35).toInt) (hj : j = oj R 17 a) (hc8 : c < 8) (hv : 0 ≤ v.toInt ∧ v.toInt ≤ 3000) : JZ t n sh ((up2 I (j + 3) c v)) L R ((up2 X 55 (8 * a + c) v)) := by
  obtain ⟨⟨hw, hR, hC, hK, hS, hT, hB, hQ, hY, hV⟩, hx⟩ := h
  have hn56 := hw.1
  have hd := hK.2.2.1 a ha
  rw [← hj] at hd
  have k1 := kdS hd
  have h56 := hd.2.1
  have hcj := k1.1.2
  have sj1 := k1.2.2.2.1
  have sj2 := k1.2.2.2.2.1
  have sj3 := k1.2.2.2.2.2
  have hcs1 : (sh (j + 1)).1 = 13 := by rw [sj1]
  have hcs2 : (sh (j + 2)).1 = 13 := by rw [sj2]
  have hcs3 : (sh (j + 3)).1 = 13 := by rw [sj3]
  have hdis : ∀ a' : Nat, (a' : Int) < (X 27 35).toInt → a' ≠ a → oj R 17 a' + 4 ≤ j ∨ j + 4 ≤ oj R 17 a' := fun a' h1 h2 => by
      rcases (show a' < a ∨ a < a' by omega) with z | z
      · exact Or.inl (by rw [hj]; exact hK.2.2.2 a' a z ha)
      · exact Or.inr (by rw [hj]; exact hK.2.2.2 a a' z h1)
  refine ⟨⟨?_, ?_, ?_, ?_, ?_, ?_, ?_, ?_, ?_, ?_⟩, ?_⟩
  · exact FWf hw (Nat.le_refl _) (fun _ _ => rfl) (fun i k j e => rfl)
  · exact FRd hR (Nat.le_refl _) (fun _ _ => rfl) (by (repeat first | rw [up2_o (by omega)] | rw [cpF_r (by omega)] | rw [uph_o (by omega)]) <;> rfl) (by (repeat first | rw [up2_o (by omega)] | rw [cpF_r (by omega)] | rw [uph_o (by omega)]) <;> rfl) (fun i h1 h2 hc => by (repeat first | rw [up2_o (by omega)] | rw [cpF_r (by omega)] | rw [uph_o (by omega)] | rw [up2_o (fun e => by rw [e] at hc; omega)]) <;> rfl) (by (repeat first | rw [up2_o (by omega)] | rw [cpF_r (by omega)] | rw [uph_o (by omega)]) <;> rfl) (by (repeat first | rw [up2_o (by omega)] | rw [cpF_r (by omega)] | rw [uph_o (by omega)]) <;> rfl) (by (repeat first | rw [up2_o (by omega)] | rw [cpF_r (by omega)] | rw [uph_o (by omega)]) <;> rfl) (by (repeat first | rw [up2_o (by omega)] | rw [cpF_r (by omega)] | rw [uph_o (by omega)]) <;> rfl) (by (repeat first | rw [up2_o (by omega)] | rw [cpF_r (by omega)] | rw [uph_o (by omega)]) <;> rfl) (by (repeat first | rw [up2_o (by omega)] | rw [cpF_r (by omega)] | rw [uph_o (by omega)]) <;> rfl) (by (repeat first | rw [up2_o (by omega)] | rw [cpF_r (by omega)] | rw [uph_o (by omega)]) <;> rfl)
  · exact FC hC (Nat.le_refl _) (fun _ _ => rfl) (by (repeat first | rw [up2_o (by omega)] | rw [cpF_r (by omega)] | rw [uph_o (by omega)]) <;> rfl) (by (repeat first | rw [up2_o (by omega)] | rw [cpF_r (by omega)] | rw [uph_o (by omega)]) <;> rfl) (fun i h1 h2 hc => ⟨by (repeat first | rw [up2_o (by omega)] | rw [cpF_r (by omega)] | rw [uph_o (by omega)] | rw [up2_o (fun e => by rw [e] at hc; omega)]) <;> rfl, by (repeat first | rw [up2_o (by omega)] | rw [cpF_r (by omega)] | rw [uph_o (by omega)] | rw [up2_o (fun e => by rw [e] at hc; omega)]) <;> rfl⟩) (by (repeat first | rw [up2_o (by omega)] | rw [cpF_r (by omega)] | rw [uph_o (by omega)]) <;> rfl) (by (repeat first | rw [up2_o (by omega)] | rw [cpF_r (by omega)] | rw [uph_o (by omega)]) <;> rfl) (by (repeat first | rw [up2_o (by omega)] | rw [cpF_r (by omega)] | rw [uph_o (by omega)]) <;> rfl) (by (repeat first | rw [up2_o (by omega)] | rw [cpF_r (by omega)] | rw [uph_o (by omega)]) <;> rfl) (by (repeat first | rw [up2_o (by omega)] | rw [cpF_r (by omega)] | rw [uph_o (by omega)]) <;> rfl) (by (repeat first | rw [up2_o (by omega)] | rw [cpF_r (by omega)] | rw [uph_o (by omega)]) <;> rfl)
  · refine ⟨by rw [up2_o (by omega)]; exact hK.1, hK.2.1, fun a' ha' => ?_, hK.2.2.2⟩
    have ha2 : (a' : Int) < (X 27 35).toInt := ha'
    by_cases q : a' = a
    · subst q
      rw [← hj]
      obtain ⟨a1, a2, a3, a4, a5, a6, a7, a8, a9, b1, b2, b3⟩ := hd
      refine ⟨a1, a2, a3, a4, a5, a6, ?_, ?_, a9, ?_, fun b hb => ?_, fun b b' hb hb' => ?_⟩
      · rw [up2_o (by omega)]; exact a7
      · rw [up2_o (by omega)]; exact a8
      · rw [up2_o (by omega)]; exact b1
      · obtain ⟨d1, d2, d3, d4, d5, d6⟩ := b2 b hb
        rw [up2_o (show j + 2 ≠ j + 3 by omega), up2_o (show j ≠ j + 3 by omega), up2_o (show j + 1 ≠ j + 3 by omega)]
        by_cases z : b = c
        · subst z
          rw [up2_e, up2_e]; exact ⟨rfl, hv, d3, d4, d5, d6⟩
        · rw [up2_k z, up2_k (show 8 * a' + b ≠ 8 * a' + c by omega)]; exact ⟨d1, d2, d3, d4, d5, d6⟩
      · rw [up2_o (show j + 2 ≠ j + 3 by omega)]; exact b3 b b' hb hb'
    · have hd2 := hK.2.2.1 a' ha2
      have hz := hdis a' ha2 q
      exact FKd hd2 (Nat.le_refl _) (fun _ _ => rfl) rfl rfl (up2_o (by omega)) (up2_o (by omega)) (up2_o (by omega)) (up2_o (by omega)) rfl rfl (fun _ _ => rfl) (fun _ _ => rfl) (fun b hb => up2_k (by omega)) (Int.le_refl _)
  · exact FS hS (fun i h1 h2 => by (repeat first | rw [up2_o (by omega)] | rw [cpF_r (by omega)] | rw [uph_o (by omega)]) <;> rfl) (by (repeat first | rw [up2_o (by omega)] | rw [cpF_r (by omega)] | rw [uph_o (by omega)]) <;> rfl) (by (repeat first | rw [up2_o (by omega)] | rw [cpF_r (by omega)] | rw [uph_o (by omega)]) <;> rfl) (by (repeat first | rw [up2_o (by omega)] | rw [cpF_r (by omega)] | rw [uph_o (by omega)]) <;> rfl)
  · exact FT hT (by (repeat first | rw [up2_o (by omega)] | rw [cpF_r (by omega)] | rw [uph_o (by omega)]) <;> rfl) (by (repeat first | rw [up2_o (by omega)] | rw [cpF_r (by omega)] | rw [uph_o (by omega)]) <;> rfl) (by (repeat first | rw [up2_o (by omega)] | rw [cpF_r (by omega)] | rw [uph_o (by omega)]) <;> rfl) (by (repeat first | rw [up2_o (by omega)] | rw [cpF_r (by omega)] | rw [uph_o (by omega)]) <;> rfl)
  · exact FB hB (by (repeat first | rw [up2_o (by omega)] | rw [cpF_r (by omega)] | rw [uph_o (by omega)]) <;> rfl) (by (repeat first | rw [up2_o (by omega)] | rw [cpF_r (by omega)] | rw [uph_o (by omega)]) <;> rfl) (by (repeat first | rw [up2_o (by omega)] | rw [cpF_r (by omega)] | rw [uph_o (by omega)]) <;> rfl) (by (repeat first | rw [up2_o (by omega)] | rw [cpF_r (by omega)] | rw [uph_o (by omega)]) <;> rfl)
  · exact FQ hQ (by (repeat first | rw [up2_o (by omega)] | rw [cpF_r (by omega)] | rw [uph_o (by omega)]) <;> rfl) (by (repeat first | rw [up2_o (by omega)] | rw [cpF_r (by omega)] | rw [uph_o (by omega)]) <;> rfl) (by (repeat first | rw [up2_o (by omega)] | rw [cpF_r (by omega)] | rw [uph_o (by omega)]) <;> rfl) (by (repeat first | rw [up2_o (by omega)] | rw [cpF_r (by omega)] | rw [uph_o (by omega)]) <;> rfl) (by (repeat first | rw [up2_o (by omega)] | rw [cpF_r (by omega)] | rw [uph_o (by omega)]) <;> rfl) (by (repeat first | rw [up2_o (by omega)] | rw [cpF_r (by omega)] | rw [uph_o (by omega)]) <;> rfl)
  · exact FW' hY (by (repeat first | rw [up2_o (by omega)] | rw [cpF_r (by omega)] | rw [uph_o (by omega)]) <;> rfl) (by (repeat first | rw [up2_o (by omega)] | rw [cpF_r (by omega)] | rw [uph_o (by omega)]) <;> rfl) (by (repeat first | rw [up2_o (by omega)] | rw [cpF_r (by omega)] | rw [uph_o (by omega)]) <;> rfl) (by (repeat first | rw [up2_o (by omega)] | rw [cpF_r (by omega)] | rw [uph_o (by omega)]) <;> rfl) (by (repeat first | rw [up2_o (by omega)] | rw [cpF_r (by omega)] | rw [uph_o (by omega)]) <;> rfl) (by (repeat first | rw [up2_o (by omega)] | rw [cpF_r (by omega)] | rw [uph_o (by omega)]) <;> rfl) (by (repeat first | rw [up2_o (by omega)] | rw [cpF_r (by omega)] | rw [uph_o (by omega)]) <;> rfl) (by (repeat first | rw [up2_o (by omega)] | rw [cpF_r (by omega)] | rw [uph_o (by omega)]) <;> rfl) (by (repeat first | rw [up2_o (by omega)] | rw [cpF_r (by omega)] | rw [uph_o (by omega)]) <;> rfl) (by (repeat first | rw [up2_o (by omega)] | rw [cpF_r (by omega)] | rw [uph_o (by omega)]) <;> rfl) (by (repeat first | rw [up2_o (by omega)] | rw [cpF_r (by omega)] | rw [uph_o (by omega)]) <;> rfl) (by (repeat first | rw [up2_o (by omega)] | rw [cpF_r (by omega)] | rw [uph_o (by omega)]) <;> rfl) (by (repeat first | rw [up2_o (by omega)] | rw [cpF_r (by omega)] | rw [uph_o (by omega)]) <;> rfl) (by (repeat first | rw [up2_o (by omega)] | rw [cpF_r (by omega)] | rw [uph_o (by omega)]) <;> rfl) (by (repeat first | rw [up2_o (by omega)] | rw [cpF_r (by omega)] | rw [uph_o (by omega)]) <;> rfl)
  · exact FV hV (by (repeat first | rw [up2_o (by omega)] | rw [cpF_r (by omega)] | rw [uph_o (by omega)]) <;> rfl) (by (repeat first | rw [up2_o (by omega)] | rw [cpF_r (by omega)] | rw [uph_o (by omega)]) <;> rfl) (by (repeat first | rw [up2_o (by omega)] | rw [cpF_r (by omega)] | rw [uph_o (by omega)]) <;> rfl) (by (repeat first | rw [up2_o (by omega)] | rw [cpF_r (by omega)] | rw [uph_o (by omega)]) <;> rfl) (by (repeat first | rw [up2_o (by omega)] | rw [cpF_r (by omega)] | rw [uph_o (by omega)]) <;> rfl) (by (repeat first | rw [up2_o (by omega)] | rw [cpF_r (by omega)] | rw [uph_o (by omega)]) <;> rfl) (by (repeat first | rw [up2_o (by omega)] | rw [cpF_r (by omega)] | rw [uph_o (by omega)]) <;> rfl)
  · refine ⟨hx.1, fun a' c' h0 hc' => ?_, hx.2.2⟩
    have h1 : (X 27 35).toInt ≤ (a' : Int) := h0
    have h2 := hx.2.1 a' c' h1 hc'
    exact ⟨h2.1, (up2_k (by omega)).trans h2.2⟩
set_option maxHeartbeats 2000000 in
theorem JZ_lose {t : Int} {n : Nat} {sh : vS} {I : vI} {L : vL} {R : vR} {X : vI} (q : Nat) (h : JZ t n sh I L R X) (hq : q < 4) : JZ t n sh ((up2 I (19 + 2 * q) 1 0)) L R ((up2 X 34 q (-1))) := by
  obtain ⟨⟨hw, hR, hC, hK, hS, hT, hB, hQ, hY, hV⟩, hx⟩ := h
  have hn56 := hw.1
  refine ⟨⟨?_, ?_, ?_, ?_, ?_, ?_, ?_, ?_, ?_, ?_⟩, ?_⟩
  · exact FWf hw (Nat.le_refl _) (fun _ _ => rfl) (fun i k j e => rfl)
  · exact FRd hR (Nat.le_refl _) (fun _ _ => rfl) (by (repeat first | rw [up2_o (by omega)] | rw [cpF_r (by omega)] | rw [uph_o (by omega)]) <;> rfl) (by (repeat first | rw [up2_o (by omega)] | rw [cpF_r (by omega)] | rw [uph_o (by omega)]) <;> rfl) (fun i h1 h2 hc => by (repeat first | rw [up2_o (by omega)] | rw [cpF_r (by omega)] | rw [uph_o (by omega)] | rw [up2_o (fun e => by rw [e] at hc; omega)]) <;> rfl) (by (repeat first | rw [up2_o (by omega)] | rw [cpF_r (by omega)] | rw [uph_o (by omega)]) <;> rfl) (by (repeat first | rw [up2_o (by omega)] | rw [cpF_r (by omega)] | rw [uph_o (by omega)]) <;> rfl) (by (repeat first | rw [up2_o (by omega)] | rw [cpF_r (by omega)] | rw [uph_o (by omega)]) <;> rfl) (by (repeat first | rw [up2_o (by omega)] | rw [cpF_r (by omega)] | rw [uph_o (by omega)]) <;> rfl) (by (repeat first | rw [up2_o (by omega)] | rw [cpF_r (by omega)] | rw [uph_o (by omega)]) <;> rfl) (by (repeat first | rw [up2_o (by omega)] | rw [cpF_r (by omega)] | rw [uph_o (by omega)]) <;> rfl) (by (repeat first | rw [up2_o (by omega)] | rw [cpF_r (by omega)] | rw [uph_o (by omega)]) <;> rfl)
  · exact FC hC (Nat.le_refl _) (fun _ _ => rfl) (by (repeat first | rw [up2_o (by omega)] | rw [cpF_r (by omega)] | rw [uph_o (by omega)]) <;> rfl) (by (repeat first | rw [up2_o (by omega)] | rw [cpF_r (by omega)] | rw [uph_o (by omega)]) <;> rfl) (fun i h1 h2 hc => ⟨by (repeat first | rw [up2_o (by omega)] | rw [cpF_r (by omega)] | rw [uph_o (by omega)] | rw [up2_o (fun e => by rw [e] at hc; omega)]) <;> rfl, by (repeat first | rw [up2_o (by omega)] | rw [cpF_r (by omega)] | rw [uph_o (by omega)] | rw [up2_o (fun e => by rw [e] at hc; omega)]) <;> rfl⟩) (by (repeat first | rw [up2_o (by omega)] | rw [cpF_r (by omega)] | rw [uph_o (by omega)]) <;> rfl) (by (repeat first | rw [up2_o (by omega)] | rw [cpF_r (by omega)] | rw [uph_o (by omega)]) <;> rfl) (by (repeat first | rw [up2_o (by omega)] | rw [cpF_r (by omega)] | rw [uph_o (by omega)]) <;> rfl) (by (repeat first | rw [up2_o (by omega)] | rw [cpF_r (by omega)] | rw [uph_o (by omega)]) <;> rfl) (by (repeat first | rw [up2_o (by omega)] | rw [cpF_r (by omega)] | rw [uph_o (by omega)]) <;> rfl) (by (repeat first | rw [up2_o (by omega)] | rw [cpF_r (by omega)] | rw [uph_o (by omega)]) <;> rfl)
  · exact FK hK (Nat.le_refl _) (fun _ _ => rfl) (by (repeat first | rw [up2_o (by omega)] | rw [cpF_r (by omega)] | rw [uph_o (by omega)]) <;> rfl) (fun i h1 h2 => by (repeat first | rw [up2_o (by omega)] | rw [cpF_r (by omega)] | rw [uph_o (by omega)]) <;> rfl) (by (repeat first | rw [up2_o (by omega)] | rw [cpF_r (by omega)] | rw [uph_o (by omega)]) <;> rfl) (fun i h1 h2 hc => by (repeat first | rw [up2_o (by omega)] | rw [cpF_r (by omega)] | rw [uph_o (by omega)] | rw [up2_o (fun e => by rw [e] at hc; omega)]) <;> rfl) (by (repeat first | rw [up2_o (by omega)] | rw [cpF_r (by omega)] | rw [uph_o (by omega)]) <;> rfl) (by (repeat first | rw [up2_o (by omega)] | rw [cpF_r (by omega)] | rw [uph_o (by omega)]) <;> rfl) (by (repeat first | rw [up2_o (by omega)] | rw [cpF_r (by omega)] | rw [uph_o (by omega)]) <;> rfl) (by (repeat first | rw [up2_o (by omega)] | rw [cpF_r (by omega)] | rw [uph_o (by omega)]) <;> rfl) (by (repeat first | rw [up2_o (by omega)] | rw [cpF_r (by omega)] | rw [uph_o (by omega)]) <;> rfl) (by (repeat first | rw [up2_o (by omega)] | rw [cpF_r (by omega)] | rw [uph_o (by omega)]) <;> rfl) (by (repeat first | rw [up2_o (by omega)] | rw [cpF_r (by omega)] | rw [uph_o (by omega)]) <;> rfl)
  · intro p hp
    by_cases z : p = q
    · subst z
      refine Or.inr ⟨?_, ?_⟩
      · rw [up2_e]; rfl
      · rw [up2_e]; rfl
    · exact FSq (hS p hp) (up2_o (by omega)) (up2_o (by omega)) (up2_k z) (rfl) (fun _ _ => rfl)
  · exact FT hT (by (repeat first | rw [up2_o (by omega)] | rw [cpF_r (by omega)] | rw [uph_o (by omega)]) <;> rfl) (by (repeat first | rw [up2_o (by omega)] | rw [cpF_r (by omega)] | rw [uph_o (by omega)]) <;> rfl) (by (repeat first | rw [up2_o (by omega)] | rw [cpF_r (by omega)] | rw [uph_o (by omega)]) <;> rfl) (by (repeat first | rw [up2_o (by omega)] | rw [cpF_r (by omega)] | rw [uph_o (by omega)]) <;> rfl)
  · exact FB hB (by (repeat first | rw [up2_o (by omega)] | rw [cpF_r (by omega)] | rw [uph_o (by omega)]) <;> rfl) (by (repeat first | rw [up2_o (by omega)] | rw [cpF_r (by omega)] | rw [uph_o (by omega)]) <;> rfl) (by (repeat first | rw [up2_o (by omega)] | rw [cpF_r (by omega)] | rw [uph_o (by omega)]) <;> rfl) (by (repeat first | rw [up2_o (by omega)] | rw [cpF_r (by omega)] | rw [uph_o (by omega)]) <;> rfl)
  · exact FQ hQ (by (repeat first | rw [up2_o (by omega)] | rw [cpF_r (by omega)] | rw [uph_o (by omega)]) <;> rfl) (by (repeat first | rw [up2_o (by omega)] | rw [cpF_r (by omega)] | rw [uph_o (by omega)]) <;> rfl) (by (repeat first | rw [up2_o (by omega)] | rw [cpF_r (by omega)] | rw [uph_o (by omega)]) <;> rfl) (by (repeat first | rw [up2_o (by omega)] | rw [cpF_r (by omega)] | rw [uph_o (by omega)]) <;> rfl) (by (repeat first | rw [up2_o (by omega)] | rw [cpF_r (by omega)] | rw [uph_o (by omega)]) <;> rfl) (by (repeat first | rw [up2_o (by omega)] | rw [cpF_r (by omega)] | rw [uph_o (by omega)]) <;> rfl)
  · exact FW' hY (by (repeat first | rw [up2_o (by omega)] | rw [cpF_r (by omega)] | rw [uph_o (by omega)]) <;> rfl) (by (repeat first | rw [up2_o (by omega)] | rw [cpF_r (by omega)] | rw [uph_o (by omega)]) <;> rfl) (by (repeat first | rw [up2_o (by omega)] | rw [cpF_r (by omega)] | rw [uph_o (by omega)]) <;> rfl) (by (repeat first | rw [up2_o (by omega)] | rw [cpF_r (by omega)] | rw [uph_o (by omega)]) <;> rfl) (by (repeat first | rw [up2_o (by omega)] | rw [cpF_r (by omega)] | rw [uph_o (by omega)]) <;> rfl) (by (repeat first | rw [up2_o (by omega)] | rw [cpF_r (by omega)] | rw [uph_o (by omega)]) <;> rfl) (by (repeat first | rw [up2_o (by omega)] | rw [cpF_r (by omega)] | rw [uph_o (by omega)]) <;> rfl) (by (repeat first | rw [up2_o (by omega)] | rw [cpF_r (by omega)] | rw [uph_o (by omega)]) <;> rfl) (by (repeat first | rw [up2_o (by omega)] | rw [cpF_r (by omega)] | rw [uph_o (by omega)]) <;> rfl) (by (repeat first | rw [up2_o (by omega)] | rw [cpF_r (by omega)] | rw [uph_o (by omega)]) <;> rfl) (by (repeat first | rw [up2_o (by omega)] | rw [cpF_r (by omega)] | rw [uph_o (by omega)]) <;> rfl) (by (repeat first | rw [up2_o (by omega)] | rw [cpF_r (by omega)] | rw [uph_o (by omega)]) <;> rfl) (by (repeat first | rw [up2_o (by omega)] | rw [cpF_r (by omega)] | rw [uph_o (by omega)]) <;> rfl) (by (repeat first | rw [up2_o (by omega)] | rw [cpF_r (by omega)] | rw [uph_o (by omega)]) <;> rfl) (by (repeat first | rw [up2_o (by omega)] | rw [cpF_r (by omega)] | rw [uph_o (by omega)]) <;> rfl)
  · exact FV hV (by (repeat first | rw [up2_o (by omega)] | rw [cpF_r (by omega)] | rw [uph_o (by omega)]) <;> rfl) (by (repeat first | rw [up2_o (by omega)] | rw [cpF_r (by omega)] | rw [uph_o (by omega)]) <;> rfl) (by (repeat first | rw [up2_o (by omega)] | rw [cpF_r (by omega)] | rw [uph_o (by omega)]) <;> rfl) (by (repeat first | rw [up2_o (by omega)] | rw [cpF_r (by omega)] | rw [uph_o (by omega)]) <;> rfl) (by (repeat first | rw [up2_o (by omega)] | rw [cpF_r (by omega)] | rw [uph_o (by omega)]) <;> rfl) (by (repeat first | rw [up2_o (by omega)] | rw [cpF_r (by omega)] | rw [uph_o (by omega)]) <;> rfl) (by (repeat first | rw [up2_o (by omega)] | rw [cpF_r (by omega)] | rw [uph_o (by omega)]) <;> rfl)
  · exact FX hx (by (repeat first | rw [up2_o (by omega)] | rw [cpF_r (by omega)] | rw [uph_o (by omega)]) <;> rfl) (by (repeat first | rw [up2_o (by omega)] | rw [cpF_r (by omega)] | rw [uph_o (by omega)]) <;> rfl) (by (repeat first | rw [up2_o (by omega)] | rw [cpF_r (by omega)] | rw [uph_o (by omega)]) <;> rfl) (by (repeat first | rw [up2_o (by omega)] | rw [cpF_r (by omega)] | rw [uph_o (by omega)]) <;> rfl) (by (repeat first | rw [up2_o (by omega)] | rw [cpF_r (by omega)] | rw [uph_o (by omega)]) <;> rfl) (by (repeat first | rw [up2_o (by omega)] | rw [cpF_r (by omega)] | rw [uph_o (by omega)]) <;> rfl) (by (repeat first | rw [up2_o (by omega)] | rw [cpF_r (by omega)] | rw [uph_o (by omega)]) <;> rfl) (by (repeat first | rw [up2_o (by omega)] | rw [cpF_r (by omega)] | rw [uph_o (by omega)]) <;> rfl) (by (repeat first | rw [up2_o (by omega)] | rw [cpF_r (by omega)] | rw [uph_o (by omega)]) <;> rfl)
set_option maxHeartbeats 2000000 in
theorem JZ_put {t : Int} {n : Nat} {sh : vS} {I : vI} {L : vL} {R : vR} {X : vI} (q i : Nat) (v : Int32) (h : JZ t n sh I L R X) (hq : q < 4) (hi : (i : Int) < (X 34 q).toInt) : JZ t n sh ((up2 I (20 + 2 * q) i v)) L R ((up2 X 36 (32 * q + i) v)) := by
  obtain ⟨⟨hw, hR, hC, hK, hS, hT, hB, hQ, hY, hV⟩, hx⟩ := h
  have hn56 := hw.1
  refine ⟨⟨?_, ?_, ?_, ?_, ?_, ?_, ?_, ?_, ?_, ?_⟩, ?_⟩
  · exact FWf hw (Nat.le_refl _) (fun _ _ => rfl) (fun i k j e => rfl)
  · exact FRd hR (Nat.le_refl _) (fun _ _ => rfl) (by (repeat first | rw [up2_o (by omega)] | rw [cpF_r (by omega)] | rw [uph_o (by omega)]) <;> rfl) (by (repeat first | rw [up2_o (by omega)] | rw [cpF_r (by omega)] | rw [uph_o (by omega)]) <;> rfl) (fun i h1 h2 hc => by (repeat first | rw [up2_o (by omega)] | rw [cpF_r (by omega)] | rw [uph_o (by omega)] | rw [up2_o (fun e => by rw [e] at hc; omega)]) <;> rfl) (by (repeat first | rw [up2_o (by omega)] | rw [cpF_r (by omega)] | rw [uph_o (by omega)]) <;> rfl) (by (repeat first | rw [up2_o (by omega)] | rw [cpF_r (by omega)] | rw [uph_o (by omega)]) <;> rfl) (by (repeat first | rw [up2_o (by omega)] | rw [cpF_r (by omega)] | rw [uph_o (by omega)]) <;> rfl) (by (repeat first | rw [up2_o (by omega)] | rw [cpF_r (by omega)] | rw [uph_o (by omega)]) <;> rfl) (by (repeat first | rw [up2_o (by omega)] | rw [cpF_r (by omega)] | rw [uph_o (by omega)]) <;> rfl) (by (repeat first | rw [up2_o (by omega)] | rw [cpF_r (by omega)] | rw [uph_o (by omega)]) <;> rfl) (by (repeat first | rw [up2_o (by omega)] | rw [cpF_r (by omega)] | rw [uph_o (by omega)]) <;> rfl)
  · exact FC hC (Nat.le_refl _) (fun _ _ => rfl) (by (repeat first | rw [up2_o (by omega)] | rw [cpF_r (by omega)] | rw [uph_o (by omega)]) <;> rfl) (by (repeat first | rw [up2_o (by omega)] | rw [cpF_r (by omega)] | rw [uph_o (by omega)]) <;> rfl) (fun i h1 h2 hc => ⟨by (repeat first | rw [up2_o (by omega)] | rw [cpF_r (by omega)] | rw [uph_o (by omega)] | rw [up2_o (fun e => by rw [e] at hc; omega)]) <;> rfl, by (repeat first | rw [up2_o (by omega)] | rw [cpF_r (by omega)] | rw [uph_o (by omega)] | rw [up2_o (fun e => by rw [e] at hc; omega)]) <;> rfl⟩) (by (repeat first | rw [up2_o (by omega)] | rw [cpF_r (by omega)] | rw [uph_o (by omega)]) <;> rfl) (by (repeat first | rw [up2_o (by omega)] | rw [cpF_r (by omega)] | rw [uph_o (by omega)]) <;> rfl) (by (repeat first | rw [up2_o (by omega)] | rw [cpF_r (by omega)] | rw [uph_o (by omega)]) <;> rfl) (by (repeat first | rw [up2_o (by omega)] | rw [cpF_r (by omega)] | rw [uph_o (by omega)]) <;> rfl) (by (repeat first | rw [up2_o (by omega)] | rw [cpF_r (by omega)] | rw [uph_o (by omega)]) <;> rfl) (by (repeat first | rw [up2_o (by omega)] | rw [cpF_r (by omega)] | rw [uph_o (by omega)]) <;> rfl)
  · exact FK hK (Nat.le_refl _) (fun _ _ => rfl) (by (repeat first | rw [up2_o (by omega)] | rw [cpF_r (by omega)] | rw [uph_o (by omega)]) <;> rfl) (fun i h1 h2 => by (repeat first | rw [up2_o (by omega)] | rw [cpF_r (by omega)] | rw [uph_o (by omega)]) <;> rfl) (by (repeat first | rw [up2_o (by omega)] | rw [cpF_r (by omega)] | rw [uph_o (by omega)]) <;> rfl) (fun i h1 h2 hc => by (repeat first | rw [up2_o (by omega)] | rw [cpF_r (by omega)] | rw [uph_o (by omega)] | rw [up2_o (fun e => by rw [e] at hc; omega)]) <;> rfl) (by (repeat first | rw [up2_o (by omega)] | rw [cpF_r (by omega)] | rw [uph_o (by omega)]) <;> rfl) (by (repeat first | rw [up2_o (by omega)] | rw [cpF_r (by omega)] | rw [uph_o (by omega)]) <;> rfl) (by (repeat first | rw [up2_o (by omega)] | rw [cpF_r (by omega)] | rw [uph_o (by omega)]) <;> rfl) (by (repeat first | rw [up2_o (by omega)] | rw [cpF_r (by omega)] | rw [uph_o (by omega)]) <;> rfl) (by (repeat first | rw [up2_o (by omega)] | rw [cpF_r (by omega)] | rw [uph_o (by omega)]) <;> rfl) (by (repeat first | rw [up2_o (by omega)] | rw [cpF_r (by omega)] | rw [uph_o (by omega)]) <;> rfl) (by (repeat first | rw [up2_o (by omega)] | rw [cpF_r (by omega)] | rw [uph_o (by omega)]) <;> rfl)
  · intro p hp
    by_cases z : p = q
    · subst z
      rcases hS p hp with ⟨a1, a2, a3, a4, a5, a6⟩ | ⟨a1, a2⟩
      · refine Or.inl ⟨by rw [up2_o (by omega)]; exact a1, a2, a3, by rw [up2_o (by omega)]; exact a4, by rw [up2_o (by omega)]; exact a5, fun b hb => ?_⟩
        by_cases y : b = i
        · subst y; rw [up2_e, up2_e]
        · rw [up2_k y, up2_k (by omega)]; exact a6 b hb
      · omega
    · have h32 : (i : Int) < 32 := by
        rcases hS q hq with ⟨-, -, a3, -⟩ | ⟨-, a2⟩
        · omega
        · omega
      exact FSq (hS p hp) (up2_o (by omega)) (up2_o (by omega)) (rfl) (rfl) (fun b hb => up2_k (by omega))
  · exact FT hT (by (repeat first | rw [up2_o (by omega)] | rw [cpF_r (by omega)] | rw [uph_o (by omega)]) <;> rfl) (by (repeat first | rw [up2_o (by omega)] | rw [cpF_r (by omega)] | rw [uph_o (by omega)]) <;> rfl) (by (repeat first | rw [up2_o (by omega)] | rw [cpF_r (by omega)] | rw [uph_o (by omega)]) <;> rfl) (by (repeat first | rw [up2_o (by omega)] | rw [cpF_r (by omega)] | rw [uph_o (by omega)]) <;> rfl)
  · exact FB hB (by (repeat first | rw [up2_o (by omega)] | rw [cpF_r (by omega)] | rw [uph_o (by omega)]) <;> rfl) (by (repeat first | rw [up2_o (by omega)] | rw [cpF_r (by omega)] | rw [uph_o (by omega)]) <;> rfl) (by (repeat first | rw [up2_o (by omega)] | rw [cpF_r (by omega)] | rw [uph_o (by omega)]) <;> rfl) (by (repeat first | rw [up2_o (by omega)] | rw [cpF_r (by omega)] | rw [uph_o (by omega)]) <;> rfl)
  · exact FQ hQ (by (repeat first | rw [up2_o (by omega)] | rw [cpF_r (by omega)] | rw [uph_o (by omega)]) <;> rfl) (by (repeat first | rw [up2_o (by omega)] | rw [cpF_r (by omega)] | rw [uph_o (by omega)]) <;> rfl) (by (repeat first | rw [up2_o (by omega)] | rw [cpF_r (by omega)] | rw [uph_o (by omega)]) <;> rfl) (by (repeat first | rw [up2_o (by omega)] | rw [cpF_r (by omega)] | rw [uph_o (by omega)]) <;> rfl) (by (repeat first | rw [up2_o (by omega)] | rw [cpF_r (by omega)] | rw [uph_o (by omega)]) <;> rfl) (by (repeat first | rw [up2_o (by omega)] | rw [cpF_r (by omega)] | rw [uph_o (by omega)]) <;> rfl)
  · exact FW' hY (by (repeat first | rw [up2_o (by omega)] | rw [cpF_r (by omega)] | rw [uph_o (by omega)]) <;> rfl) (by (repeat first | rw [up2_o (by omega)] | rw [cpF_r (by omega)] | rw [uph_o (by omega)]) <;> rfl) (by (repeat first | rw [up2_o (by omega)] | rw [cpF_r (by omega)] | rw [uph_o (by omega)]) <;> rfl) (by (repeat first | rw [up2_o (by omega)] | rw [cpF_r (by omega)] | rw [uph_o (by omega)]) <;> rfl) (by (repeat first | rw [up2_o (by omega)] | rw [cpF_r (by omega)] | rw [uph_o (by omega)]) <;> rfl) (by (repeat first | rw [up2_o (by omega)] | rw [cpF_r (by omega)] | rw [uph_o (by omega)]) <;> rfl) (by (repeat first | rw [up2_o (by omega)] | rw [cpF_r (by omega)] | rw [uph_o (by omega)]) <;> rfl) (by (repeat first | rw [up2_o (by omega)] | rw [cpF_r (by omega)] | rw [uph_o (by omega)]) <;> rfl) (by (repeat first | rw [up2_o (by omega)] | rw [cpF_r (by omega)] | rw [uph_o (by omega)]) <;> rfl) (by (repeat first | rw [up2_o (by omega)] | rw [cpF_r (by omega)] | rw [uph_o (by omega)]) <;> rfl) (by (repeat first | rw [up2_o (by omega)] | rw [cpF_r (by omega)] | rw [uph_o (by omega)]) <;> rfl) (by (repeat first | rw [up2_o (by omega)] | rw [cpF_r (by omega)] | rw [uph_o (by omega)]) <;> rfl) (by (repeat first | rw [up2_o (by omega)] | rw [cpF_r (by omega)] | rw [uph_o (by omega)]) <;> rfl) (by (repeat first | rw [up2_o (by omega)] | rw [cpF_r (by omega)] | rw [uph_o (by omega)]) <;> rfl) (by (repeat first | rw [up2_o (by omega)] | rw [cpF_r (by omega)] | rw [uph_o (by omega)]) <;> rfl)
  · exact FV hV (by (repeat first | rw [up2_o (by omega)] | rw [cpF_r (by omega)] | rw [uph_o (by omega)]) <;> rfl) (by (repeat first | rw [up2_o (by omega)] | rw [cpF_r (by omega)] | rw [uph_o (by omega)]) <;> rfl) (by (repeat first | rw [up2_o (by omega)] | rw [cpF_r (by omega)] | rw [uph_o (by omega)]) <;> rfl) (by (repeat first | rw [up2_o (by omega)] | rw [cpF_r (by omega)] | rw [uph_o (by omega)]) <;> rfl) (by (repeat first | rw [up2_o (by omega)] | rw [cpF_r (by omega)] | rw [uph_o (by omega)]) <;> rfl) (by (repeat first | rw [up2_o (by omega)] | rw [cpF_r (by omega)] | rw [uph_o (by omega)]) <;> rfl) (by (repeat first | rw [up2_o (by omega)] | rw [cpF_r (by omega)] | rw [uph_o (by omega)]) <;> rfl)
  · exact FX hx (by (repeat first | rw [up2_o (by omega)] | rw [cpF_r (by omega)] | rw [uph_o (by omega)]) <;> rfl) (by (repeat first | rw [up2_o (by omega)] | rw [cpF_r (by omega)] | rw [uph_o (by omega)]) <;> rfl) (by (repeat first | rw [up2_o (by omega)] | rw [cpF_r (by omega)] | rw [uph_o (by omega)]) <;> rfl) (by (repeat first | rw [up2_o (by omega)] | rw [cpF_r (by omega)] | rw [uph_o (by omega)]) <;> rfl) (by (repeat first | rw [up2_o (by omega)] | rw [cpF_r (by omega)] | rw [uph_o (by omega)]) <;> rfl) (by (repeat first | rw [up2_o (by omega)] | rw [cpF_r (by omega)] | rw [uph_o (by omega)]) <;> rfl) (by (repeat first | rw [up2_o (by omega)] | rw [cpF_r (by omega)] | rw [uph_o (by omega)]) <;> rfl) (by (repeat first | rw [up2_o (by omega)] | rw [cpF_r (by omega)] | rw [uph_o (by omega)]) <;> rfl) (by (repeat first | rw [up2_o (by omega)] | rw [cpF_r (by omega)] | rw [uph_o (by omega)]) <;> rfl)
set_option maxHeartbeats 2000000 in
theorem JZ_sheet {t : Int} {n : Nat} {sh : vS} {I : vI} {L : vL} {R : vR} {X : vI} (q : Nat) (l m : Int32) (h : JZ t n sh I L R X) (hq : q < 4) (hm : 0 ≤ m.toInt ∧ m.toInt ≤ 32) : JZ t n sh ((cpF (up2 (up2 (up2 I (19 + 2 * q) 1 1) (19 + 2 * q) 2 l) (19 + 2 * q) 3 m) (20 + 2 * q) 0 (fun _ => 0) 32)) L R ((cpF (up2 (up2 X 34 q m) 35 q l) 36 (32 * (q : Int)) (fun _ => 0) m.toInt.toNat)) := by
  obtain ⟨⟨hw, hR, hC, hK, hS, hT, hB, hQ, hY, hV⟩, hx⟩ := h
  have hn56 := hw.1
  refine ⟨⟨?_, ?_, ?_, ?_, ?_, ?_, ?_, ?_, ?_, ?_⟩, ?_⟩
  · exact FWf hw (Nat.le_refl _) (fun _ _ => rfl) (fun i k j e => rfl)
  · exact FRd hR (Nat.le_refl _) (fun _ _ => rfl) (by (repeat first | rw [up2_o (by omega)] | rw [cpF_r (by omega)] | rw [uph_o (by omega)]) <;> rfl) (by (repeat first | rw [up2_o (by omega)] | rw [cpF_r (by omega)] | rw [uph_o (by omega)]) <;> rfl) (fun i h1 h2 hc => by (repeat first | rw [up2_o (by omega)] | rw [cpF_r (by omega)] | rw [uph_o (by omega)] | rw [up2_o (fun e => by rw [e] at hc; omega)]) <;> rfl) (by (repeat first | rw [up2_o (by omega)] | rw [cpF_r (by omega)] | rw [uph_o (by omega)]) <;> rfl) (by (repeat first | rw [up2_o (by omega)] | rw [cpF_r (by omega)] | rw [uph_o (by omega)]) <;> rfl) (by (repeat first | rw [up2_o (by omega)] | rw [cpF_r (by omega)] | rw [uph_o (by omega)]) <;> rfl) (by (repeat first | rw [up2_o (by omega)] | rw [cpF_r (by omega)] | rw [uph_o (by omega)]) <;> rfl) (by (repeat first | rw [up2_o (by omega)] | rw [cpF_r (by omega)] | rw [uph_o (by omega)]) <;> rfl) (by (repeat first | rw [up2_o (by omega)] | rw [cpF_r (by omega)] | rw [uph_o (by omega)]) <;> rfl) (by (repeat first | rw [up2_o (by omega)] | rw [cpF_r (by omega)] | rw [uph_o (by omega)]) <;> rfl)
  · exact FC hC (Nat.le_refl _) (fun _ _ => rfl) (by (repeat first | rw [up2_o (by omega)] | rw [cpF_r (by omega)] | rw [uph_o (by omega)]) <;> rfl) (by (repeat first | rw [up2_o (by omega)] | rw [cpF_r (by omega)] | rw [uph_o (by omega)]) <;> rfl) (fun i h1 h2 hc => ⟨by (repeat first | rw [up2_o (by omega)] | rw [cpF_r (by omega)] | rw [uph_o (by omega)] | rw [up2_o (fun e => by rw [e] at hc; omega)]) <;> rfl, by (repeat first | rw [up2_o (by omega)] | rw [cpF_r (by omega)] | rw [uph_o (by omega)] | rw [up2_o (fun e => by rw [e] at hc; omega)]) <;> rfl⟩) (by (repeat first | rw [up2_o (by omega)] | rw [cpF_r (by omega)] | rw [uph_o (by omega)]) <;> rfl) (by (repeat first | rw [up2_o (by omega)] | rw [cpF_r (by omega)] | rw [uph_o (by omega)]) <;> rfl) (by (repeat first | rw [up2_o (by omega)] | rw [cpF_r (by omega)] | rw [uph_o (by omega)]) <;> rfl) (by (repeat first | rw [up2_o (by omega)] | rw [cpF_r (by omega)] | rw [uph_o (by omega)]) <;> rfl) (by (repeat first | rw [up2_o (by omega)] | rw [cpF_r (by omega)] | rw [uph_o (by omega)]) <;> rfl) (by (repeat first | rw [up2_o (by omega)] | rw [cpF_r (by omega)] | rw [uph_o (by omega)]) <;> rfl)
  · exact FK hK (Nat.le_refl _) (fun _ _ => rfl) (by (repeat first | rw [up2_o (by omega)] | rw [cpF_r (by omega)] | rw [uph_o (by omega)]) <;> rfl) (fun i h1 h2 => by (repeat first | rw [up2_o (by omega)] | rw [cpF_r (by omega)] | rw [uph_o (by omega)]) <;> rfl) (by (repeat first | rw [up2_o (by omega)] | rw [cpF_r (by omega)] | rw [uph_o (by omega)]) <;> rfl) (fun i h1 h2 hc => by (repeat first | rw [up2_o (by omega)] | rw [cpF_r (by omega)] | rw [uph_o (by omega)] | rw [up2_o (fun e => by rw [e] at hc; omega)]) <;> rfl) (by (repeat first | rw [up2_o (by omega)] | rw [cpF_r (by omega)] | rw [uph_o (by omega)]) <;> rfl) (by (repeat first | rw [up2_o (by omega)] | rw [cpF_r (by omega)] | rw [uph_o (by omega)]) <;> rfl) (by (repeat first | rw [up2_o (by omega)] | rw [cpF_r (by omega)] | rw [uph_o (by omega)]) <;> rfl) (by (repeat first | rw [up2_o (by omega)] | rw [cpF_r (by omega)] | rw [uph_o (by omega)]) <;> rfl) (by (repeat first | rw [up2_o (by omega)] | rw [cpF_r (by omega)] | rw [uph_o (by omega)]) <;> rfl) (by (repeat first | rw [up2_o (by omega)] | rw [cpF_r (by omega)] | rw [uph_o (by omega)]) <;> rfl) (by (repeat first | rw [up2_o (by omega)] | rw [cpF_r (by omega)] | rw [uph_o (by omega)]) <;> rfl)
  · have ex : ∀ b, (cpF (up2 (up2 X 34 q m) 35 q l) 36 (32 * (q : Int)) (fun _ => 0) m.toInt.toNat) 36 b = if 32 * q ≤ b ∧ b < 32 * q + m.toInt.toNat then 0 else X 36 b := fun b => (cpF_c (q := 32 * q) m.toInt.toNat)
    intro p hp
    by_cases z : p = q
    · subst z
      refine Or.inl ⟨?_, ?_, ?_, ?_, ?_, fun b hb => ?_⟩
      · rw [cpF_r (by omega), up2_k (by decide), up2_k (by decide), up2_e]; rfl
      · rw [cpF_r (by omega), up2_o (by omega), up2_e]; exact hm.1
      · rw [cpF_r (by omega), up2_o (by omega), up2_e]; exact hm.2
      · rw [cpF_r (by omega), up2_k (by decide), up2_e, cpF_r (by omega), up2_e]
      · rw [cpF_r (by omega), up2_e, cpF_r (by omega), up2_o (by omega), up2_e]
      · rw [cpF_r (by omega), up2_o (by omega), up2_e] at hb
        rw [ex, if_pos (by omega)]
        have e2 := cpF_c (I := (up2 (up2 (up2 I (19 + 2 * p) 1 1) (19 + 2 * p) 2 l) (19 + 2 * p) 3 m)) (d := 20 + 2 * p) (q := 0) (g := fun _ => 0) (b := b) 32
        exact e2.trans (if_pos (by omega))
    · refine FSq (hS p hp) ?_ ?_ ?_ ?_ (fun b hb => ?_)
      · rw [cpF_r (by omega), up2_o (by omega), up2_o (by omega), up2_o (by omega)]
      · rw [cpF_r (by omega), up2_o (by omega), up2_o (by omega), up2_o (by omega)]
      · rw [cpF_r (by omega), up2_o (by omega), up2_k z]
      · rw [cpF_r (by omega), up2_k z]; rfl
      · rw [ex, if_neg (by omega)]
  · exact FT hT (by (repeat first | rw [up2_o (by omega)] | rw [cpF_r (by omega)] | rw [uph_o (by omega)]) <;> rfl) (by (repeat first | rw [up2_o (by omega)] | rw [cpF_r (by omega)] | rw [uph_o (by omega)]) <;> rfl) (by (repeat first | rw [up2_o (by omega)] | rw [cpF_r (by omega)] | rw [uph_o (by omega)]) <;> rfl) (by (repeat first | rw [up2_o (by omega)] | rw [cpF_r (by omega)] | rw [uph_o (by omega)]) <;> rfl)
  · exact FB hB (by (repeat first | rw [up2_o (by omega)] | rw [cpF_r (by omega)] | rw [uph_o (by omega)]) <;> rfl) (by (repeat first | rw [up2_o (by omega)] | rw [cpF_r (by omega)] | rw [uph_o (by omega)]) <;> rfl) (by (repeat first | rw [up2_o (by omega)] | rw [cpF_r (by omega)] | rw [uph_o (by omega)]) <;> rfl) (by (repeat first | rw [up2_o (by omega)] | rw [cpF_r (by omega)] | rw [uph_o (by omega)]) <;> rfl)
  · exact FQ hQ (by (repeat first | rw [up2_o (by omega)] | rw [cpF_r (by omega)] | rw [uph_o (by omega)]) <;> rfl) (by (repeat first | rw [up2_o (by omega)] | rw [cpF_r (by omega)] | rw [uph_o (by omega)]) <;> rfl) (by (repeat first | rw [up2_o (by omega)] | rw [cpF_r (by omega)] | rw [uph_o (by omega)]) <;> rfl) (by (repeat first | rw [up2_o (by omega)] | rw [cpF_r (by omega)] | rw [uph_o (by omega)]) <;> rfl) (by (repeat first | rw [up2_o (by omega)] | rw [cpF_r (by omega)] | rw [uph_o (by omega)]) <;> rfl) (by (repeat first | rw [up2_o (by omega)] | rw [cpF_r (by omega)] | rw [uph_o (by omega)]) <;> rfl)
  · exact FW' hY (by (repeat first | rw [up2_o (by omega)] | rw [cpF_r (by omega)] | rw [uph_o (by omega)]) <;> rfl) (by (repeat first | rw [up2_o (by omega)] | rw [cpF_r (by omega)] | rw [uph_o (by omega)]) <;> rfl) (by (repeat first | rw [up2_o (by omega)] | rw [cpF_r (by omega)] | rw [uph_o (by omega)]) <;> rfl) (by (repeat first | rw [up2_o (by omega)] | rw [cpF_r (by omega)] | rw [uph_o (by omega)]) <;> rfl) (by (repeat first | rw [up2_o (by omega)] | rw [cpF_r (by omega)] | rw [uph_o (by omega)]) <;> rfl) (by (repeat first | rw [up2_o (by omega)] | rw [cpF_r (by omega)] | rw [uph_o (by omega)]) <;> rfl) (by (repeat first | rw [up2_o (by omega)] | rw [cpF_r (by omega)] | rw [uph_o (by omega)]) <;> rfl) (by (repeat first | rw [up2_o (by omega)] | rw [cpF_r (by omega)] | rw [uph_o (by omega)]) <;> rfl) (by (repeat first | rw [up2_o (by omega)] | rw [cpF_r (by omega)] | rw [uph_o (by omega)]) <;> rfl) (by (repeat first | rw [up2_o (by omega)] | rw [cpF_r (by omega)] | rw [uph_o (by omega)]) <;> rfl) (by (repeat first | rw [up2_o (by omega)] | rw [cpF_r (by omega)] | rw [uph_o (by omega)]) <;> rfl) (by (repeat first | rw [up2_o (by omega)] | rw [cpF_r (by omega)] | rw [uph_o (by omega)]) <;> rfl) (by (repeat first | rw [up2_o (by omega)] | rw [cpF_r (by omega)] | rw [uph_o (by omega)]) <;> rfl) (by (repeat first | rw [up2_o (by omega)] | rw [cpF_r (by omega)] | rw [uph_o (by omega)]) <;> rfl) (by (repeat first | rw [up2_o (by omega)] | rw [cpF_r (by omega)] | rw [uph_o (by omega)]) <;> rfl)
  · exact FV hV (by (repeat first | rw [up2_o (by omega)] | rw [cpF_r (by omega)] | rw [uph_o (by omega)]) <;> rfl) (by (repeat first | rw [up2_o (by omega)] | rw [cpF_r (by omega)] | rw [uph_o (by omega)]) <;> rfl) (by (repeat first | rw [up2_o (by omega)] | rw [cpF_r (by omega)] | rw [uph_o (by omega)]) <;> rfl) (by (repeat first | rw [up2_o (by omega)] | rw [cpF_r (by omega)] | rw [uph_o (by omega)]) <;> rfl) (by (repeat first | rw [up2_o (by omega)] | rw [cpF_r (by omega)] | rw [uph_o (by omega)]) <;> rfl) (by (repeat first | rw [up2_o (by omega)] | rw [cpF_r (by omega)] | rw [uph_o (by omega)]) <;> rfl) (by (repeat first | rw [up2_o (by omega)] | rw [cpF_r (by omega)] | rw [uph_o (by omega)]) <;> rfl)
  · exact FX hx (by (repeat first | rw [up2_o (by omega)] | rw [cpF_r (by omega)] | rw [uph_o (by omega)]) <;> rfl) (by (repeat first | rw [up2_o (by omega)] | rw [cpF_r (by omega)] | rw [uph_o (by omega)]) <;> rfl) (by (repeat first | rw [up2_o (by omega)] | rw [cpF_r (by omega)] | rw [uph_o (by omega)]) <;> rfl) (by (repeat first | rw [up2_o (by omega)] | rw [cpF_r (by omega)] | rw [uph_o (by omega)]) <;> rfl) (by (repeat first | rw [up2_o (by omega)] | rw [cpF_r (by omega)] | rw [uph_o (by omega)]) <;> rfl) (by (repeat first | rw [up2_o (by omega)] | rw [cpF_r (by omega)] | rw [uph_o (by omega)]) <;> rfl) (by (repeat first | rw [up2_o (by omega)] | rw [cpF_r (by omega)] | rw [uph_o (by omega)]) <;> rfl) (by (repeat first | rw [up2_o (by omega)] | rw [cpF_r (by omega)] | rw [uph_o (by omega)]) <;> rfl) (by (repeat first | rw [up2_o (by omega)] | rw [cpF_r (by omega)] | rw [uph_o (by omega)]) <;> rfl)
set_option maxHeartbeats 2000000 in
theorem JZ_copy {t : Int} {n : Nat} {sh : vS} {I I' : vI} {L : vL} {R : vR} {X X' : vI} (h : JZ t n sh I L R X) (p q i j m : Nat) (hp : p < 4) (hq : q < 4) (hi : ((i + m : Nat) : Int) ≤ (X 34 p).toInt) (hj : ((j + m : Nat) : Int) ≤ (X 34 q).toInt)
    (e1 : ∀ a, a ≠ 20 + 2 * q → I' a = I a) (e2 : ∀ b, I' (20 + 2 * q) b = if j ≤ b ∧ b < j + m then I (20 + 2 * p) (i + (b - j)) else I (20 + 2 * q) b)
    (x1 : ∀ a, a ≠ 36 → a ≠ 37 → X' a = X a) (x2 : ∀ b, X' 36 b = if 32 * q + j ≤ b ∧ b < 32 * q + j + m then X 36 (32 * p + i + (b - (32 * q + j))) else X 36 b) : JZ t n sh I' L R X' := by
  obtain ⟨⟨hw, hR, hC, hK, hS, hT, hB, hQ, hY, hV⟩, hx⟩ := h
  have hn56 := hw.1
  have y := fun a (h1 : a ≠ 36) (h2 : a ≠ 37) (b : Nat) => congrFun (x1 a h1 h2) b
  refine ⟨⟨hw, ?_, ?_, ?_, ?_, ?_, ?_, ?_, ?_, ?_⟩, ?_⟩
  · exact FRd hR (Nat.le_refl _) (fun _ _ => rfl) rfl (by rw [e1 0 (by omega)]) (fun a h1 _ _ => e1 a (by omega)) (y 27 (by decide) (by decide) _) (x1 _ (by decide) (by decide)) (x1 _ (by decide) (by decide)) (x1 _ (by decide) (by decide)) (x1 _ (by decide) (by decide)) (x1 _ (by decide) (by decide)) (x1 _ (by decide) (by decide))
  · exact FC hC (Nat.le_refl _) (fun _ _ => rfl) rfl (by rw [e1 0 (by omega)]) (fun a h1 _ _ => ⟨e1 a (by omega), rfl⟩) (y 27 (by decide) (by decide) _) (x1 _ (by decide) (by decide)) (x1 _ (by decide) (by decide)) (x1 _ (by decide) (by decide)) (x1 _ (by decide) (by decide)) (y 27 (by decide) (by decide) _)
  · exact FK hK (Nat.le_refl _) (fun _ _ => rfl) rfl (fun _ _ _ => rfl) (by rw [e1 0 (by omega)]) (fun a h1 _ _ => e1 a (by omega)) (y 27 (by decide) (by decide) _) (x1 _ (by decide) (by decide)) (x1 _ (by decide) (by decide)) (x1 _ (by decide) (by decide)) (x1 _ (by decide) (by decide)) (x1 _ (by decide) (by decide)) (y 27 (by decide) (by decide) _)
  · intro a ha
    by_cases z : a = q
    · subst z
      rcases hS a ha with ⟨a1, a2, a3, a4, a5, a6⟩ | ⟨a1, a2⟩
      · refine Or.inl ⟨by rw [e1 _ (by omega)]; exact a1, by rw [y 34 (by decide) (by decide)]; exact a2, by rw [y 34 (by decide) (by decide)]; exact a3, by rw [e1 _ (by omega), y 35 (by decide) (by decide)]; exact a4, by rw [e1 _ (by omega), y 34 (by decide) (by decide)]; exact a5, fun b hb => ?_⟩
        rw [y 34 (by decide) (by decide)] at hb
        rw [e2, x2]
        by_cases c : j ≤ b ∧ b < j + m
        · rw [if_pos c, if_pos (by omega)]
          rcases hS p hp with ⟨-, -, -, -, -, b6⟩ | ⟨-, b2⟩
          · rw [b6 _ (by omega)]; congr 1; omega
          · omega
        · rw [if_neg c, if_neg (by omega)]; exact a6 b hb
      · omega
    · have h32 : ((j + m : Nat) : Int) ≤ 32 := by
        rcases hS q hq with ⟨-, -, a3, -⟩ | ⟨-, a2⟩
        · omega
        · omega
      exact FSq (hS a ha) (e1 _ (by omega)) (e1 _ (by omega)) (y 34 (by decide) (by decide) _) (y 35 (by decide) (by decide) _) (fun b hb => by rw [x2, if_neg (by omega)])
  · exact FT hT (by rw [e1 0 (by omega)]) (by rw [e1 0 (by omega)]) (y 27 (by decide) (by decide) _) (y 27 (by decide) (by decide) _)
  · exact FB hB (by rw [e1 2 (by omega)]) (e1 3 (by omega)) (y 27 (by decide) (by decide) _) (x1 _ (by decide) (by decide))
  · exact FQ hQ (by rw [e1 4 (by omega)]) (by rw [e1 4 (by omega)]) (e1 10 (by omega)) (y 27 (by decide) (by decide) _) (y 27 (by decide) (by decide) _) (x1 _ (by decide) (by decide))
  · exact FW' hY (by rw [e1 11 (by omega)]) (by rw [e1 11 (by omega)]) (by rw [e1 11 (by omega)]) (e1 12 (by omega)) (e1 13 (by omega)) (e1 14 (by omega)) (e1 15 (by omega)) (y 27 (by decide) (by decide) _) (y 27 (by decide) (by decide) _) (y 27 (by decide) (by decide) _) (x1 _ (by decide) (by decide)) (x1 _ (by decide) (by decide)) (x1 _ (by decide) (by decide)) (x1 _ (by decide) (by decide)) (y 27 (by decide) (by decide) _)
  · exact FV hV (x1 _ (by decide) (by decide)) (x1 _ (by decide) (by decide)) (x1 _ (by decide) (by decide)) (x1 _ (by decide) (by decide)) (x1 _ (by decide) (by decide)) (x1 _ (by decide) (by decide)) (y 27 (by decide) (by decide) _)
  · exact FX hx (y 27 (by decide) (by decide) _) (x1 _ (by decide) (by decide)) (x1 _ (by decide) (by decide)) (y 27 (by decide) (by decide) _) (x1 _ (by decide) (by decide)) (x1 _ (by decide) (by decide)) (y 27 (by decide) (by decide) _) (y 27 (by decide) (by decide) _) (y 27 (by decide) (by decide) _)
set_option maxHeartbeats 2000000 in
theorem JZ_book {t : Int} {n : Nat} {sh : vS} {I : vI} {L : vL} {R : vR} {X : vI} (m : Int32) (g : Nat → Int32) (h : JZ t n sh I L R X) (hm : 2 ≤ m.toInt ∧ m.toInt ≤ 8) (hg : ∀ y : Nat, (y : Int) < m.toInt → 0 ≤ (g y).toInt ∧ (g y).toInt ≤ 9) : JZ t n sh ((up2 (cpF I 3 0 g m.toInt.toNat) 2 1 m)) L R ((cpF (up2 X 27 12 m) 38 0 g m.toInt.toNat)) := by
  obtain ⟨⟨hw, hR, hC, hK, hS, hT, hB, hQ, hY, hV⟩, hx⟩ := h
  have hn56 := hw.1
  refine ⟨⟨?_, ?_, ?_, ?_, ?_, ?_, ?_, ?_, ?_, ?_⟩, ?_⟩
  · exact FWf hw (Nat.le_refl _) (fun _ _ => rfl) (fun i k j e => rfl)
  · exact FRd hR (Nat.le_refl _) (fun _ _ => rfl) (by (repeat first | rw [up2_o (by omega)] | rw [cpF_r (by omega)] | rw [uph_o (by omega)]) <;> rfl) (by (repeat first | rw [up2_o (by omega)] | rw [cpF_r (by omega)] | rw [uph_o (by omega)]) <;> rfl) (fun i h1 h2 hc => by (repeat first | rw [up2_o (by omega)] | rw [cpF_r (by omega)] | rw [uph_o (by omega)] | rw [up2_o (fun e => by rw [e] at hc; omega)]) <;> rfl) (by (repeat first | rw [up2_o (by omega)] | rw [cpF_r (by omega)] | rw [uph_o (by omega)]) <;> rfl) (by (repeat first | rw [up2_o (by omega)] | rw [cpF_r (by omega)] | rw [uph_o (by omega)]) <;> rfl) (by (repeat first | rw [up2_o (by omega)] | rw [cpF_r (by omega)] | rw [uph_o (by omega)]) <;> rfl) (by (repeat first | rw [up2_o (by omega)] | rw [cpF_r (by omega)] | rw [uph_o (by omega)]) <;> rfl) (by (repeat first | rw [up2_o (by omega)] | rw [cpF_r (by omega)] | rw [uph_o (by omega)]) <;> rfl) (by (repeat first | rw [up2_o (by omega)] | rw [cpF_r (by omega)] | rw [uph_o (by omega)]) <;> rfl) (by (repeat first | rw [up2_o (by omega)] | rw [cpF_r (by omega)] | rw [uph_o (by omega)]) <;> rfl)
  · exact FC hC (Nat.le_refl _) (fun _ _ => rfl) (by (repeat first | rw [up2_o (by omega)] | rw [cpF_r (by omega)] | rw [uph_o (by omega)]) <;> rfl) (by (repeat first | rw [up2_o (by omega)] | rw [cpF_r (by omega)] | rw [uph_o (by omega)]) <;> rfl) (fun i h1 h2 hc => ⟨by (repeat first | rw [up2_o (by omega)] | rw [cpF_r (by omega)] | rw [uph_o (by omega)] | rw [up2_o (fun e => by rw [e] at hc; omega)]) <;> rfl, by (repeat first | rw [up2_o (by omega)] | rw [cpF_r (by omega)] | rw [uph_o (by omega)] | rw [up2_o (fun e => by rw [e] at hc; omega)]) <;> rfl⟩) (by (repeat first | rw [up2_o (by omega)] | rw [cpF_r (by omega)] | rw [uph_o (by omega)]) <;> rfl) (by (repeat first | rw [up2_o (by omega)] | rw [cpF_r (by omega)] | rw [uph_o (by omega)]) <;> rfl) (by (repeat first | rw [up2_o (by omega)] | rw [cpF_r (by omega)] | rw [uph_o (by omega)]) <;> rfl) (by (repeat first | rw [up2_o (by omega)] | rw [cpF_r (by omega)] | rw [uph_o (by omega)]) <;> rfl) (by (repeat first | rw [up2_o (by omega)] | rw [cpF_r (by omega)] | rw [uph_o (by omega)]) <;> rfl) (by (repeat first | rw [up2_o (by omega)] | rw [cpF_r (by omega)] | rw [uph_o (by omega)]) <;> rfl)
  · exact FK hK (Nat.le_refl _) (fun _ _ => rfl) (by (repeat first | rw [up2_o (by omega)] | rw [cpF_r (by omega)] | rw [uph_o (by omega)]) <;> rfl) (fun i h1 h2 => by (repeat first | rw [up2_o (by omega)] | rw [cpF_r (by omega)] | rw [uph_o (by omega)]) <;> rfl) (by (repeat first | rw [up2_o (by omega)] | rw [cpF_r (by omega)] | rw [uph_o (by omega)]) <;> rfl) (fun i h1 h2 hc => by (repeat first | rw [up2_o (by omega)] | rw [cpF_r (by omega)] | rw [uph_o (by omega)] | rw [up2_o (fun e => by rw [e] at hc; omega)]) <;> rfl) (by (repeat first | rw [up2_o (by omega)] | rw [cpF_r (by omega)] | rw [uph_o (by omega)]) <;> rfl) (by (repeat first | rw [up2_o (by omega)] | rw [cpF_r (by omega)] | rw [uph_o (by omega)]) <;> rfl) (by (repeat first | rw [up2_o (by omega)] | rw [cpF_r (by omega)] | rw [uph_o (by omega)]) <;> rfl) (by (repeat first | rw [up2_o (by omega)] | rw [cpF_r (by omega)] | rw [uph_o (by omega)]) <;> rfl) (by (repeat first | rw [up2_o (by omega)] | rw [cpF_r (by omega)] | rw [uph_o (by omega)]) <;> rfl) (by (repeat first | rw [up2_o (by omega)] | rw [cpF_r (by omega)] | rw [uph_o (by omega)]) <;> rfl) (by (repeat first | rw [up2_o (by omega)] | rw [cpF_r (by omega)] | rw [uph_o (by omega)]) <;> rfl)
  · exact FS hS (fun i h1 h2 => by (repeat first | rw [up2_o (by omega)] | rw [cpF_r (by omega)] | rw [uph_o (by omega)]) <;> rfl) (by (repeat first | rw [up2_o (by omega)] | rw [cpF_r (by omega)] | rw [uph_o (by omega)]) <;> rfl) (by (repeat first | rw [up2_o (by omega)] | rw [cpF_r (by omega)] | rw [uph_o (by omega)]) <;> rfl) (by (repeat first | rw [up2_o (by omega)] | rw [cpF_r (by omega)] | rw [uph_o (by omega)]) <;> rfl)
  · exact FT hT (by (repeat first | rw [up2_o (by omega)] | rw [cpF_r (by omega)] | rw [uph_o (by omega)]) <;> rfl) (by (repeat first | rw [up2_o (by omega)] | rw [cpF_r (by omega)] | rw [uph_o (by omega)]) <;> rfl) (by (repeat first | rw [up2_o (by omega)] | rw [cpF_r (by omega)] | rw [uph_o (by omega)]) <;> rfl) (by (repeat first | rw [up2_o (by omega)] | rw [cpF_r (by omega)] | rw [uph_o (by omega)]) <;> rfl)
  · have ex : ∀ b, (cpF (up2 X 27 12 m) 38 0 g m.toInt.toNat) 38 b = if 0 ≤ b ∧ b < 0 + m.toInt.toNat then g (b - 0) else X 38 b := fun b => (cpF_c (q := 0) m.toInt.toNat)
    have ei : ∀ b, (up2 (cpF I 3 0 g m.toInt.toNat) 2 1 m) 3 b = if 0 ≤ b ∧ b < 0 + m.toInt.toNat then g (b - 0) else I 3 b := fun b => by rw [up2_o (by omega)]; exact cpF_c (q := 0) m.toInt.toNat
    have e12 : (cpF (up2 X 27 12 m) 38 0 g m.toInt.toNat) 27 12 = m := by rw [cpF_r (by omega), up2_e]
    refine ⟨by rw [e12, up2_e], fun b => ?_, by rw [e12]; omega, fun _ => ?_⟩
    · rw [ex, ei]
      by_cases z : 0 ≤ b ∧ b < 0 + m.toInt.toNat
      · rw [if_pos z, if_pos z]
      · rw [if_neg z, if_neg z]; exact hB.2.1 b
    · rw [e12]
      refine ⟨hm.1, fun b hb => ?_⟩
      rw [ex, if_pos (by omega)]
      exact hg _ (by omega)
  · exact FQ hQ (by (repeat first | rw [up2_o (by omega)] | rw [cpF_r (by omega)] | rw [uph_o (by omega)]) <;> rfl) (by (repeat first | rw [up2_o (by omega)] | rw [cpF_r (by omega)] | rw [uph_o (by omega)]) <;> rfl) (by (repeat first | rw [up2_o (by omega)] | rw [cpF_r (by omega)] | rw [uph_o (by omega)]) <;> rfl) (by (repeat first | rw [up2_o (by omega)] | rw [cpF_r (by omega)] | rw [uph_o (by omega)]) <;> rfl) (by (repeat first | rw [up2_o (by omega)] | rw [cpF_r (by omega)] | rw [uph_o (by omega)]) <;> rfl) (by (repeat first | rw [up2_o (by omega)] | rw [cpF_r (by omega)] | rw [uph_o (by omega)]) <;> rfl)
  · exact FW' hY (by (repeat first | rw [up2_o (by omega)] | rw [cpF_r (by omega)] | rw [uph_o (by omega)]) <;> rfl) (by (repeat first | rw [up2_o (by omega)] | rw [cpF_r (by omega)] | rw [uph_o (by omega)]) <;> rfl) (by (repeat first | rw [up2_o (by omega)] | rw [cpF_r (by omega)] | rw [uph_o (by omega)]) <;> rfl) (by (repeat first | rw [up2_o (by omega)] | rw [cpF_r (by omega)] | rw [uph_o (by omega)]) <;> rfl) (by (repeat first | rw [up2_o (by omega)] | rw [cpF_r (by omega)] | rw [uph_o (by omega)]) <;> rfl) (by (repeat first | rw [up2_o (by omega)] | rw [cpF_r (by omega)] | rw [uph_o (by omega)]) <;> rfl) (by (repeat first | rw [up2_o (by omega)] | rw [cpF_r (by omega)] | rw [uph_o (by omega)]) <;> rfl) (by (repeat first | rw [up2_o (by omega)] | rw [cpF_r (by omega)] | rw [uph_o (by omega)]) <;> rfl) (by (repeat first | rw [up2_o (by omega)] | rw [cpF_r (by omega)] | rw [uph_o (by omega)]) <;> rfl) (by (repeat first | rw [up2_o (by omega)] | rw [cpF_r (by omega)] | rw [uph_o (by omega)]) <;> rfl) (by (repeat first | rw [up2_o (by omega)] | rw [cpF_r (by omega)] | rw [uph_o (by omega)]) <;> rfl) (by (repeat first | rw [up2_o (by omega)] | rw [cpF_r (by omega)] | rw [uph_o (by omega)]) <;> rfl) (by (repeat first | rw [up2_o (by omega)] | rw [cpF_r (by omega)] | rw [uph_o (by omega)]) <;> rfl) (by (repeat first | rw [up2_o (by omega)] | rw [cpF_r (by omega)] | rw [uph_o (by omega)]) <;> rfl) (by (repeat first | rw [up2_o (by omega)] | rw [cpF_r (by omega)] | rw [uph_o (by omega)]) <;> rfl)
  · exact FV hV (by (repeat first | rw [up2_o (by omega)] | rw [cpF_r (by omega)] | rw [uph_o (by omega)]) <;> rfl) (by (repeat first | rw [up2_o (by omega)] | rw [cpF_r (by omega)] | rw [uph_o (by omega)]) <;> rfl) (by (repeat first | rw [up2_o (by omega)] | rw [cpF_r (by omega)] | rw [uph_o (by omega)]) <;> rfl) (by (repeat first | rw [up2_o (by omega)] | rw [cpF_r (by omega)] | rw [uph_o (by omega)]) <;> rfl) (by (repeat first | rw [up2_o (by omega)] | rw [cpF_r (by omega)] | rw [uph_o (by omega)]) <;> rfl) (by (repeat first | rw [up2_o (by omega)] | rw [cpF_r (by omega)] | rw [uph_o (by omega)]) <;> rfl) (by (repeat first | rw [up2_o (by omega)] | rw [cpF_r (by omega)] | rw [uph_o (by omega)]) <;> rfl)
  · exact FX hx (by (repeat first | rw [up2_o (by omega)] | rw [cpF_r (by omega)] | rw [uph_o (by omega)]) <;> rfl) (by (repeat first | rw [up2_o (by omega)] | rw [cpF_r (by omega)] | rw [uph_o (by omega)]) <;> rfl) (by (repeat first | rw [up2_o (by omega)] | rw [cpF_r (by omega)] | rw [uph_o (by omega)]) <;> rfl) (by (repeat first | rw [up2_o (by omega)] | rw [cpF_r (by omega)] | rw [uph_o (by omega)]) <;> rfl) (by (repeat first | rw [up2_o (by omega)] | rw [cpF_r (by omega)] | rw [uph_o (by omega)]) <;> rfl) (by (repeat first | rw [up2_o (by omega)] | rw [cpF_r (by omega)] | rw [uph_o (by omega)]) <;> rfl) (by (repeat first | rw [up2_o (by omega)] | rw [cpF_r (by omega)] | rw [uph_o (by omega)]) <;> rfl) (by (repeat first | rw [up2_o (by omega)] | rw [cpF_r (by omega)] | rw [uph_o (by omega)]) <;> rfl) (by (repeat first | rw [up2_o (by omega)] | rw [cpF_r (by omega)] | rw [uph_o (by omega)]) <;> rfl)
