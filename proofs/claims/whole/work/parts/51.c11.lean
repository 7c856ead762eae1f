set_option maxRecDepth 100000 in
set_option maxHeartbeats 4000000 in
theorem l_X11_goOn (G : vG) {n : Nat} {sh : vS} {I : vI} {L : vL} {R : vR} (X : vI) (D d s : Nat) (w : Nat → Int32) (fo su : Int) (F : Sg × Bool) (sv dv uv fv : Int32) (hw : WF n sh R) (h44 : R 4 4 = some 2) (hE : SE X) (hGI0 : GI I X) (hDd : D + 1 + d = 10) (hsv : sv.toInt = (s : Int)) (h10 : s < 10) (hdv : dv.toInt = (d : Int)) (huv : uv.toInt = su) (hfv : fv.toInt = fo) (hfo : 1 ≤ fo ∧ fo ≤ (X 27 12).toInt) (hsu : 0 ≤ su ∧ su ≤ 20000 * (d : Int))
    (hrec : ∀ (I : vI) (d s : Nat) (w : Nat → Int32) (fo su : Int) (g : Sg) (sv dv uv fv : Int32), GoH X I d s w fo su g sv dv uv fv → D + d = 10 → CT G yX11_goOn cX11_goOn 11 none (D + 7) 0 0 [.ref (ad G 4), .int sv, .int dv, .int uv, .int fv] n sh I L R (GoPo n sh L R X I w d (goR X D d w (s : Int) fo su g))) : ∀ (c r0 : Nat) (J : vI) (g : Sg) (ev : Int32) (hc : (r0 : Int) + (c : Int) = (X 27 1).toInt) (hfr : gfr I J) (hG : GS J w d g) (h8 : (J 4 8).toInt = 0) (hev : ev.toInt = (cE X (s : Int) r0 : Int)) (hL : F = lvR X D d w (s : Int) fo su c r0 g), V G RX11 cX11_goOn (none) false (D + 8) 0 0 11 (GoPo n sh L R X I w d F) 10 [(0, .ref (ad G 4)), (1, .int sv), (2, .int dv), (3, .int uv), (4, .int fv), (5, .int ev)] [] 0 0 n sh J L R := by
  intro c
  induction c with
  | zero =>
    intro r0 J g ev hc hfr hG h8 hev hL
    have hGJ := GI_fr hGI0 hfr
    have hx5 := (hGJ.1 s h10).1
    have hN : (X 27 1).toInt.toNat = r0 := by omega
    rw [hN] at hx5
    refine V_iload (pc := 10) 5 dX11_goOn_10 rfl ?_
    refine V_aload_n (pc := 12) 0 dX11_goOn_12 rfl rfl ?_
    refine V_getR (pc := 13) (j := 5) fk_X11_313_8 (wR hw (i := 4) (k := 0) (j := 5) rfl) dX11_goOn_13 (wN hw (by decide)) (wS1 hw (by decide) rfl) ?_
    refine V_iload_n (pc := 16) 1 dX11_goOn_16 rfl rfl ?_
    refine V_ia (pc := 17) (k := s) (v := (J 5 s)) rfl dX11_goOn_17 (wN hw (by decide)) (wS hw (by decide) rfl) hsv (by omega) ?_
    refine V_icmp_ge (pc := 18) (tgt := 205) dX11_goOn_18 (by decide) (fun c_18_1 => ?_) (fun c_18_1 => ?_)
    · have c_18_1 : (J 5 s).toInt ≤ ev.toInt := c_18_1
      refine V_vret (pc := 205) rfl dX11_goOn_205 (by omega) (by omega) ?_
      rw [hL]
      exact ⟨rfl, rfl, rfl, rfl, ⟨hfr, hG, h8⟩, rfl⟩
    · have c_18_1 : ev.toInt < (J 5 s).toInt := c_18_1
      exfalso; omega
  | succ c ih =>
    intro r0 J g ev hc hfr hG h8 hev hL
    have hGJ := GI_fr hGI0 hfr
    have hx5 := (hGJ.1 s h10).1
    by_cases hl : leadsF X r0 (s : Int) < 0
    · exact ih (r0 + 1) J g ev (by omega) hfr hG h8 (by rw [cE_f hl]; exact hev) (hL.trans (lvR_f (by unfold stR; rw [if_pos (Or.inr (Or.inl hl))])))
    have hN16 := hE.1
    have h12 := hE.2.1
    have hle := cE_le X (s : Int) r0
    have hlt := cE_lt (X := X) (s := (s : Int)) (r := r0) (m := (X 27 1).toInt.toNat) (by omega) hl
    obtain ⟨h6, h7, h80⟩ := (hGJ.1 s h10).2 r0 (by omega) hl
    have hr6 := nI_r h6 (by omega)
    have hlen := (hE.2.2 r0 (by omega)).2.2
    have h8t : (J 8 (16 * s + cE X (s : Int) r0)).toInt = (X 30 r0).toInt := by rw [h80]
    have hlb := leads_b hE (r := r0) (by omega) (s : Int)
    obtain ⟨s1, hs1⟩ : ∃ s1 : Nat, leadsF X r0 (s : Int) = (s1 : Int) := ⟨_, (Int.toNat_of_nonneg (by omega)).symm⟩
    have h7s : (J 7 (16 * s + cE X (s : Int) r0)).toInt = (s1 : Int) := by rw [h7, hs1]
    have h16 : r0 < 16 := by omega
    obtain ⟨hMB, hrow, hQ, hSB⟩ := id hG
    obtain ⟨q1, q2, q3, q4⟩ := id hQ
    obtain ⟨z1, z2, z3, z4, z5, z6⟩ := id hSB
    have hb0 : 0 ≤ (J 2 1).toInt ∧ (J 2 1).toInt ≤ 8 := by rw [hGJ.2.1]; omega
    have hb1 : 1 ≤ (J 2 1).toInt := by rw [hGJ.2.1]; omega
    have hfob : 1 ≤ foF X fo (s1 : Int) ∧ foF X fo (s1 : Int) ≤ (X 27 12).toInt := by unfold foF; split <;> omega
    have key : ∀ (J2 : vI) (xi rv lg en mt : Int32), g.1 < 60000 → exE w (r0 : Int) d = false → ¬ (0 ≤ g.2.1 ∧ g.2.1 < su + (X 30 r0).toInt) → rv.toInt = (r0 : Int) → lg.toInt = su + (X 30 r0).toInt → en.toInt = (s1 : Int) → mt.toInt = foF X fo (s1 : Int) → gfr I J2 → MB (J2 4 6) w d → (∀ k, k < d → J2 9 k = w k) → J2 9 d = nI r0 → QS J2 (jgF X (d + 1) (upd w d (nI r0)) (s1 : Int) (foF X fo (s1 : Int)) (su + (X 30 r0).toInt) (g.1 + 1, g.2)) → (J2 4 8).toInt = 0 → V G RX11 cX11_goOn (none) false (D + 8) 0 0 11 (GoPo n sh L R X I w d F) 150 [(0, .ref (ad G 4)), (1, .int sv), (2, .int dv), (3, .int uv), (4, .int fv), (5, .int ev), (6, .int xi), (7, .int rv), (8, .int lg), (9, .int en), (10, .int mt)] [] 0 0 n sh J2 L R := by
      intro J2 xi rv lg en mt h60 hnE hnl hrv hlg hen hmt hfr2 hMB2 hrow2 hrd2 hQ2 h82
      have hSB1 : SB (jgF X (d + 1) (upd w d (nI r0)) (s1 : Int) (foF X fo (s1 : Int)) (su + (X 30 r0).toInt) (g.1 + 1, g.2)) := jg_SB (t := g.1 + 1) (bs := g.2.1) (bm := g.2.2.1) (rv := g.2.2.2.1) (b := g.2.2.2.2) (by omega) ⟨z3, z4⟩ (by omega) (by omega)
      have hst : stR X (fun w' s' fo' su' g' => goR X D (d + 1) w' s' fo' su' g') d w (s : Int) fo su r0 g = (goR X D (d + 1) (upd w d (nI r0)) (s1 : Int) (foF X fo (s1 : Int)) (su + (X 30 r0).toInt) (jgF X (d + 1) (upd w d (nI r0)) (s1 : Int) (foF X fo (s1 : Int)) (su + (X 30 r0).toInt) (g.1 + 1, g.2))) := by
        unfold stR
        rw [if_neg (fun z => z.elim (by rw [hnE]; exact Bool.noConfusion) (fun z => z.elim hl hnl)), if_neg (by omega), hs1]
      refine V_aload_n (pc := 150) 0 dX11_goOn_150 rfl rfl ?_
      refine V_dup (pc := 151) dX11_goOn_151 rfl ?_
      refine V_gI (pc := 152) (v := (J2 4 6)) rfl fk_X11_345_8 dX11_goOn_152 (wN hw (by decide)) (wS1 hw (by decide) rfl) ?_
      refine V_iconst (pc := 155) (v := 1) dX11_goOn_155 rfl ?_
      refine V_iload (pc := 156) 7 dX11_goOn_156 rfl ?_
      refine V_ishl (pc := 158) dX11_goOn_158 (fun x_158_1 e_158_1 => ?_)
      refine V_ior (pc := 159) dX11_goOn_159 (fun x_159_2 e_159_2 => ?_)
      refine V_putI (pc := 160) fw_X11_345_8 rfl rfl dX11_goOn_160 (wN hw (by decide)) (wS1 hw (by decide) rfl) ?_
      refine V_aload_n (pc := 163) 0 dX11_goOn_163 rfl rfl ?_
      refine V_iload (pc := 164) 9 dX11_goOn_164 rfl ?_
      refine V_iload_n (pc := 166) 2 dX11_goOn_166 rfl rfl ?_
      refine V_iconst (pc := 167) (v := 1) dX11_goOn_167 rfl ?_
      refine V_iadd (pc := 168) dX11_goOn_168 (fun x_168_3 e_168_3 => ?_)
      have t_168_3 : x_168_3.toInt = dv.toInt + 1 := addT e_168_3 rfl rfl (by omega) (by omega)
      refine V_iload (pc := 169) 8 dX11_goOn_169 rfl ?_
      refine V_iload (pc := 171) 10 dX11_goOn_171 rfl ?_
      refine V_callS (pc := 173) (As := [.ref (ad G 4), .int en, .int x_168_3, .int lg, .int mt]) (st := []) (hrec (up2 J2 4 6 x_159_2) (d + 1) s1 (upd w d (nI r0)) (foF X fo (s1 : Int)) (su + (X 30 r0).toInt) (jgF X (d + 1) (upd w d (nI r0)) (s1 : Int) (foF X fo (s1 : Int)) (su + (X 30 r0).toInt) (g.1 + 1, g.2)) en x_168_3 lg mt ⟨GI_fr hGI0 (gfr_u hfr2 rfl), ⟨MB_set hMB2 h16 (fun i hi => mk_set hrv h16 e_158_1 e_159_2 hi), fun k hk => (by rcases (show k < d ∨ k = d by omega) with z | z; exact (hrow2 k z).trans (upd_o (by omega)).symm; rw [z, upd_e]; exact hrd2), QS_e hQ2 rfl rfl (fun _ => rfl) rfl rfl, hSB1⟩, h82, ⟨hen, by omega⟩, by omega, hlg, hmt, hfob, by omega, by omega⟩ (by omega)) mf_X11_goOn ml_X11_309 st_X11_goOn dX11_goOn_173 rfl rfl (by omega) (by omega) (by omega) (Nat.le_of_ble_eq_true rfl) (fun r_173_4 n_173_4 sh_173_4 J3 L_173_4 R_173_4 hq_173_4 => ?_)
      obtain ⟨rfl, rfl, rfl, rfl, ⟨hg3, hG3, h83⟩, rfl⟩ := hq_173_4
      obtain ⟨hM3, hR3, hQ3, hS3⟩ := id hG3
      have hite := ite_b h83
      refine V_aload_n (pc := 176) 0 dX11_goOn_176 rfl rfl ?_
      refine V_dup (pc := 177) dX11_goOn_177 rfl ?_
      refine V_gI (pc := 178) (v := (J3 4 6)) rfl fk_X11_345_8 dX11_goOn_178 (wN hw (by decide)) (wS1 hw (by decide) rfl) ?_
      refine V_iconst (pc := 181) (v := 1) dX11_goOn_181 rfl ?_
      refine V_iload (pc := 182) 7 dX11_goOn_182 rfl ?_
      refine V_ishl (pc := 184) dX11_goOn_184 (fun x_184_5 e_184_5 => ?_)
      refine V_iconst (pc := 185) (v := (-1)) dX11_goOn_185 rfl ?_
      refine V_ixor (pc := 186) dX11_goOn_186 (fun x_186_6 e_186_6 => ?_)
      refine V_iand (pc := 187) dX11_goOn_187 (fun x_187_7 e_187_7 => ?_)
      refine V_putI (pc := 188) fw_X11_345_8 rfl rfl dX11_goOn_188 (wN hw (by decide)) (wS1 hw (by decide) rfl) ?_
      refine V_aload_n (pc := 191) 0 dX11_goOn_191 rfl rfl ?_
      refine V_gI (pc := 192) (v := (J3 4 8)) rfl fk_X11_141_8 dX11_goOn_192 (wN hw (by decide)) (wS1 hw (by decide) rfl) ?_
      refine V_if_eq (pc := 195) (tgt := 199) dX11_goOn_195 (by decide) (fun c_195_8 => ?_) (fun c_195_8 => ?_)
      · have c_195_8 : (J3 4 8).toInt = 0 := c_195_8
        obtain ⟨x_199_9, e_199_9⟩ : ∃ y : Int32, y = ev + (1) := ⟨_, rfl⟩
        have t_199_9 : x_199_9.toInt = ev.toInt + 1 := addT e_199_9 rfl rfl (by omega) (by omega)
        refine V_iinc (pc := 199) (v := x_199_9) (lo' := [(0, .ref (ad G 4)), (1, .int sv), (2, .int dv), (3, .int uv), (4, .int fv), (5, .int x_199_9), (6, .int xi), (7, .int rv), (8, .int lg), (9, .int en), (10, .int mt)]) 5 dX11_goOn_199 rfl e_199_9.symm (by decide) rfl ?_
        refine V_goto (pc := 202) (tgt := 10) dX11_goOn_202 (by decide) ?_
        refine V_lo (pc := 10) (lo' := [(0, .ref (ad G 4)), (1, .int sv), (2, .int dv), (3, .int uv), (4, .int fv), (5, .int x_199_9)]) [0, 1, 2, 3, 4, 5] rfl ?_
        exact ih (r0 + 1) _ (goR X D (d + 1) (upd w d (nI r0)) (s1 : Int) (foF X fo (s1 : Int)) (su + (X 30 r0).toInt) (jgF X (d + 1) (upd w d (nI r0)) (s1 : Int) (foF X fo (s1 : Int)) (su + (X 30 r0).toInt) (g.1 + 1, g.2))).1 x_199_9 (by omega) (gfr_u (gfr_t (gfr_u hfr2 rfl) hg3) rfl) ⟨(MB_clr hM3 h16 hnE (fun i hi => mk_clr hrv h16 e_184_5 e_186_6 e_187_7 hi)), fun k hk => (hR3 k (by omega)).trans (upd_o (by omega)), QS_e hQ3 rfl rfl (fun _ => rfl) rfl rfl, hS3⟩ (by show (J3 4 8).toInt = 0; omega) (by rw [cE_t hl]; omega) (hL.trans (lvR_f2 hst (hite.2 (by omega))))
      · have c_195_8 : (J3 4 8).toInt ≠ 0 := c_195_8
        refine V_vret (pc := 198) rfl dX11_goOn_198 (by omega) (by omega) ?_
        rw [hL.trans (lvR_t2 hst (hite.1 (by omega)))]
        exact ⟨rfl, rfl, rfl, rfl, ⟨(gfr_u (gfr_t (gfr_u hfr2 rfl) hg3) rfl), ⟨(MB_clr hM3 h16 hnE (fun i hi => mk_clr hrv h16 e_184_5 e_186_6 e_187_7 hi)), fun k hk => (hR3 k (by omega)).trans (upd_o (by omega)), QS_e hQ3 rfl rfl (fun _ => rfl) rfl rfl, hS3⟩, by rw [if_pos rfl]; show (J3 4 8).toInt = _; rw [h83, if_pos (hite.1 (by omega))]⟩, rfl⟩
    refine V_iload (pc := 10) 5 dX11_goOn_10 rfl ?_
    refine V_aload_n (pc := 12) 0 dX11_goOn_12 rfl rfl ?_
    refine V_getR (pc := 13) (j := 5) fk_X11_313_8 (wR hw (i := 4) (k := 0) (j := 5) rfl) dX11_goOn_13 (wN hw (by decide)) (wS1 hw (by decide) rfl) ?_
    refine V_iload_n (pc := 16) 1 dX11_goOn_16 rfl rfl ?_
    refine V_ia (pc := 17) (k := s) (v := (J 5 s)) rfl dX11_goOn_17 (wN hw (by decide)) (wS hw (by decide) rfl) hsv (by omega) ?_
    refine V_icmp_ge (pc := 18) (tgt := 205) dX11_goOn_18 (by decide) (fun c_18_1 => ?_) (fun c_18_1 => ?_)
    · have c_18_1 : (J 5 s).toInt ≤ ev.toInt := c_18_1
      exfalso; omega
    · have c_18_1 : ev.toInt < (J 5 s).toInt := c_18_1
      refine V_iload_n (pc := 21) 1 dX11_goOn_21 rfl rfl ?_
      refine V_bipush (pc := 22) (v := 16) dX11_goOn_22 rfl ?_
      refine V_imul (pc := 24) dX11_goOn_24 (fun x_24_2 e_24_2 => ?_)
      have t_24_2 : x_24_2.toInt = sv.toInt * 16 := mulT e_24_2 rfl rfl (by omega) (by omega)
      refine V_iload (pc := 25) 5 dX11_goOn_25 rfl ?_
      refine V_iadd (pc := 27) dX11_goOn_27 (fun x_27_3 e_27_3 => ?_)
      have t_27_3 : x_27_3.toInt = x_24_2.toInt + ev.toInt := addT e_27_3 rfl rfl (by omega) (by omega)
      refine V_istore (pc := 28) (lo' := [(0, .ref (ad G 4)), (1, .int sv), (2, .int dv), (3, .int uv), (4, .int fv), (5, .int ev), (6, .int x_27_3)]) dX11_goOn_28 (by decide) rfl ?_
      refine V_aload_n (pc := 30) 0 dX11_goOn_30 rfl rfl ?_
      refine V_getR (pc := 31) (j := 6) fk_X11_316_8 (wR hw (i := 4) (k := 1) (j := 6) rfl) dX11_goOn_31 (wN hw (by decide)) (wS1 hw (by decide) rfl) ?_
      refine V_iload (pc := 34) 6 dX11_goOn_34 rfl ?_
      refine V_ia (pc := 36) (k := (16 * s + cE X (s : Int) r0)) (v := (J 6 (16 * s + cE X (s : Int) r0))) rfl dX11_goOn_36 (wN hw (by decide)) (wS hw (by decide) rfl) (by omega) (by omega) ?_
      refine V_istore (pc := 37) (lo' := [(0, .ref (ad G 4)), (1, .int sv), (2, .int dv), (3, .int uv), (4, .int fv), (5, .int ev), (6, .int x_27_3), (7, .int (J 6 (16 * s + cE X (s : Int) r0)))]) dX11_goOn_37 (by decide) rfl ?_
      refine V_iload_n (pc := 39) 3 dX11_goOn_39 rfl rfl ?_
      refine V_aload_n (pc := 40) 0 dX11_goOn_40 rfl rfl ?_
      refine V_getR (pc := 41) (j := 8) fk_X11_319_8 (wR hw (i := 4) (k := 3) (j := 8) rfl) dX11_goOn_41 (wN hw (by decide)) (wS1 hw (by decide) rfl) ?_
      refine V_iload (pc := 44) 6 dX11_goOn_44 rfl ?_
      refine V_ia (pc := 46) (k := (16 * s + cE X (s : Int) r0)) (v := (J 8 (16 * s + cE X (s : Int) r0))) rfl dX11_goOn_46 (wN hw (by decide)) (wS hw (by decide) rfl) (by omega) (by omega) ?_
      refine V_iadd (pc := 47) dX11_goOn_47 (fun x_47_4 e_47_4 => ?_)
      have t_47_4 : x_47_4.toInt = uv.toInt + (J 8 (16 * s + cE X (s : Int) r0)).toInt := addT e_47_4 rfl rfl (by omega) (by omega)
      refine V_istore (pc := 48) (lo' := [(0, .ref (ad G 4)), (1, .int sv), (2, .int dv), (3, .int uv), (4, .int fv), (5, .int ev), (6, .int x_27_3), (7, .int (J 6 (16 * s + cE X (s : Int) r0))), (8, .int x_47_4)]) dX11_goOn_48 (by decide) rfl ?_
      refine V_aload_n (pc := 50) 0 dX11_goOn_50 rfl rfl ?_
      refine V_iload (pc := 51) 7 dX11_goOn_51 rfl ?_
      refine V_callV (pc := 53) (As := [.int (J 6 (16 * s + cE X (s : Int) r0))]) (st := []) (c_X8_isInRow G (J 6 (16 * s + cE X (s : Int) r0)) r0 hw h6 h16) mf_X8_isInRow ml_X11_322 iv_X8_isInRow (wN hw (by decide)) (wS1 hw (by decide) rfl) (by decide) rfl dX11_goOn_53 rfl rfl (by omega) (by omega) (by omega) (Nat.le_of_ble_eq_true rfl) (fun r_53_5 n_53_5 sh_53_5 I_53_5 L_53_5 R_53_5 hq_53_5 => ?_)
      obtain ⟨rfl, rfl, rfl, rfl, rfl, hq_53_5⟩ := hq_53_5
      rcases hq_53_5 with ⟨hin, rfl⟩ | ⟨hin, rfl⟩
      · have hst : stR X (fun w' s' fo' su' g' => goR X D (d + 1) w' s' fo' su' g') d w (s : Int) fo su r0 g = (g, false) := by unfold stR; rw [if_pos (Or.inl (by rw [← hMB r0 h16]; exact hin))]
        refine V_if_ne_t (pc := 56) (tgt := 199) dX11_goOn_56 (by decide) (by decide) ?_
        obtain ⟨x_199_6, e_199_6⟩ : ∃ y : Int32, y = ev + (1) := ⟨_, rfl⟩
        have t_199_6 : x_199_6.toInt = ev.toInt + 1 := addT e_199_6 rfl rfl (by omega) (by omega)
        refine V_iinc (pc := 199) (v := x_199_6) (lo' := [(0, .ref (ad G 4)), (1, .int sv), (2, .int dv), (3, .int uv), (4, .int fv), (5, .int x_199_6), (6, .int x_27_3), (7, .int (J 6 (16 * s + cE X (s : Int) r0))), (8, .int x_47_4)]) 5 dX11_goOn_199 rfl e_199_6.symm (by decide) rfl ?_
        refine V_goto (pc := 202) (tgt := 10) dX11_goOn_202 (by decide) ?_
        refine V_lo (pc := 10) (lo' := [(0, .ref (ad G 4)), (1, .int sv), (2, .int dv), (3, .int uv), (4, .int fv), (5, .int x_199_6)]) [0, 1, 2, 3, 4, 5] rfl ?_
        exact ih (r0 + 1) _ g x_199_6 (by omega) hfr hG h8 (by rw [cE_t hl]; omega) (hL.trans (lvR_f hst))
      · have hnE : exE w (r0 : Int) d = false := by rw [← hMB r0 h16]; exact Bool.eq_false_iff.mpr hin
        refine V_if_ne_f (pc := 56) (tgt := 199) dX11_goOn_56 (by decide) (by decide) ?_
        refine V_aload_n (pc := 59) 0 dX11_goOn_59 rfl rfl ?_
        refine V_iload (pc := 60) 8 dX11_goOn_60 rfl ?_
        refine V_callV (pc := 62) (As := [.int x_47_4]) (st := []) (c_X8_isTooLong G x_47_4 hw) mf_X8_isTooLong ml_X11_325 iv_X8_isTooLong (wN hw (by decide)) (wS1 hw (by decide) rfl) (by decide) rfl dX11_goOn_62 rfl rfl (by omega) (by omega) (by omega) (Nat.le_of_ble_eq_true rfl) (fun r_62_7 n_62_7 sh_62_7 I_62_7 L_62_7 R_62_7 hq_62_7 => ?_)
        obtain ⟨rfl, rfl, rfl, rfl, rfl, hq_62_7⟩ := hq_62_7
        rcases hq_62_7 with ⟨htl, rfl⟩ | ⟨htl, rfl⟩
        · have hst : stR X (fun w' s' fo' su' g' => goR X D (d + 1) w' s' fo' su' g') d w (s : Int) fo su r0 g = (g, false) := by unfold stR; rw [if_pos (Or.inr (Or.inr (by omega)))]
          refine V_if_eq_f (pc := 65) (tgt := 71) dX11_goOn_65 (by decide) (by decide) ?_
          refine V_goto (pc := 68) (tgt := 199) dX11_goOn_68 (by decide) ?_
          obtain ⟨x_199_8, e_199_8⟩ : ∃ y : Int32, y = ev + (1) := ⟨_, rfl⟩
          have t_199_8 : x_199_8.toInt = ev.toInt + 1 := addT e_199_8 rfl rfl (by omega) (by omega)
          refine V_iinc (pc := 199) (v := x_199_8) (lo' := [(0, .ref (ad G 4)), (1, .int sv), (2, .int dv), (3, .int uv), (4, .int fv), (5, .int x_199_8), (6, .int x_27_3), (7, .int (J 6 (16 * s + cE X (s : Int) r0))), (8, .int x_47_4)]) 5 dX11_goOn_199 rfl e_199_8.symm (by decide) rfl ?_
          refine V_goto (pc := 202) (tgt := 10) dX11_goOn_202 (by decide) ?_
          refine V_lo (pc := 10) (lo' := [(0, .ref (ad G 4)), (1, .int sv), (2, .int dv), (3, .int uv), (4, .int fv), (5, .int x_199_8)]) [0, 1, 2, 3, 4, 5] rfl ?_
          exact ih (r0 + 1) _ g x_199_8 (by omega) hfr hG h8 (by rw [cE_t hl]; omega) (hL.trans (lvR_f hst))
        · have hnl : ¬ (0 ≤ g.2.1 ∧ g.2.1 < su + (X 30 r0).toInt) := by omega
          refine V_if_eq_t (pc := 65) (tgt := 71) dX11_goOn_65 (by decide) (by decide) ?_
          refine V_aload_n (pc := 71) 0 dX11_goOn_71 rfl rfl ?_
          refine V_gI (pc := 72) (v := (J 4 7)) rfl fk_X11_291_8 dX11_goOn_72 (wN hw (by decide)) (wS1 hw (by decide) rfl) ?_
          refine V_ldcw (pc := 75) dX11_goOn_75 kk_X11_328 ?_
          refine V_icmp_lt (pc := 78) (tgt := 87) dX11_goOn_78 (by decide) (fun c_78_9 => ?_) (fun c_78_9 => ?_)
          · have c_78_9 : (J 4 7).toInt < 60000 := c_78_9
            refine V_aload_n (pc := 87) 0 dX11_goOn_87 rfl rfl ?_
            refine V_dup (pc := 88) dX11_goOn_88 rfl ?_
            refine V_gI (pc := 89) (v := (J 4 7)) rfl fk_X11_291_8 dX11_goOn_89 (wN hw (by decide)) (wS1 hw (by decide) rfl) ?_
            refine V_iconst (pc := 92) (v := 1) dX11_goOn_92 rfl ?_
            refine V_iadd (pc := 93) dX11_goOn_93 (fun x_93_10 e_93_10 => ?_)
            have t_93_10 : x_93_10.toInt = (J 4 7).toInt + 1 := addT e_93_10 rfl rfl (by omega) (by omega)
            refine V_putI (pc := 94) fw_X11_291_8 rfl rfl dX11_goOn_94 (wN hw (by decide)) (wS1 hw (by decide) rfl) ?_
            refine V_aload_n (pc := 97) 0 dX11_goOn_97 rfl rfl ?_
            refine V_getR (pc := 98) (j := 9) fk_X11_329_8 (wR hw (i := 4) (k := 5) (j := 9) rfl) dX11_goOn_98 (wN hw (by decide)) (wS1 hw (by decide) rfl) ?_
            refine V_iload_n (pc := 101) 2 dX11_goOn_101 rfl rfl ?_
            refine V_iload (pc := 102) 7 dX11_goOn_102 rfl ?_
            refine V_iask (pc := 104) (k := d) dX11_goOn_104 (wN hw (by decide)) (wS hw (by decide) rfl) hdv (by omega) ?_
            refine V_aload_n (pc := 105) 0 dX11_goOn_105 rfl rfl ?_
            refine V_getR (pc := 106) (j := 7) fk_X11_330_8 (wR hw (i := 4) (k := 2) (j := 7) rfl) dX11_goOn_106 (wN hw (by decide)) (wS1 hw (by decide) rfl) ?_
            refine V_iload (pc := 109) 6 dX11_goOn_109 rfl ?_
            refine V_ia (pc := 111) (k := (16 * s + cE X (s : Int) r0)) (v := (J 7 (16 * s + cE X (s : Int) r0))) rfl dX11_goOn_111 (wN hw (by decide)) (wS hw (by decide) rfl) (by omega) (by omega) ?_
            refine V_istore (pc := 112) (lo' := [(0, .ref (ad G 4)), (1, .int sv), (2, .int dv), (3, .int uv), (4, .int fv), (5, .int ev), (6, .int x_27_3), (7, .int (J 6 (16 * s + cE X (s : Int) r0))), (8, .int x_47_4), (9, .int (J 7 (16 * s + cE X (s : Int) r0)))]) dX11_goOn_112 (by decide) rfl ?_
            refine V_aload_n (pc := 114) 0 dX11_goOn_114 rfl rfl ?_
            refine V_getR (pc := 115) (j := 2) fk_X11_333_8 h44 dX11_goOn_115 (wN hw (by decide)) (wS1 hw (by decide) rfl) ?_
            refine V_iload (pc := 118) 4 dX11_goOn_118 rfl ?_
            refine V_iload (pc := 120) 9 dX11_goOn_120 rfl ?_
            refine V_callV (pc := 122) (As := [.int fv, .int (J 7 (16 * s + cE X (s : Int) r0))]) (st := []) (c_X0_metAfter G fv (J 7 (16 * s + cE X (s : Int) r0)) hw hb0 (by omega)) mf_X0_metAfter ml_X11_336 iv_X0_metAfter (wN hw (by decide)) (wS1 hw (by decide) rfl) (by decide) rfl dX11_goOn_122 rfl rfl (by omega) (by omega) (by omega) (Nat.le_of_ble_eq_true rfl) (fun r_122_11 n_122_11 sh_122_11 I_122_11 L_122_11 R_122_11 hq_122_11 => ?_)
            obtain ⟨rfl, rfl, rfl, rfl, rfl, mt, rfl, hmt0⟩ := hq_122_11
            have hmt : mt.toInt = foF X fo (s1 : Int) := by
              refine hmt0.trans ?_
              show fv.toInt + (if fv.toInt < (J 2 1).toInt ∧ (J 3 fv.toInt.toNat).toInt = (J 7 (16 * s + cE X (s : Int) r0)).toInt then 1 else 0) = _
              rw [hGJ.2.1, hGJ.2.2, hfv, h7s]; rfl
            refine V_istore (pc := 125) (lo' := [(0, .ref (ad G 4)), (1, .int sv), (2, .int dv), (3, .int uv), (4, .int fv), (5, .int ev), (6, .int x_27_3), (7, .int (J 6 (16 * s + cE X (s : Int) r0))), (8, .int x_47_4), (9, .int (J 7 (16 * s + cE X (s : Int) r0))), (10, .int mt)]) dX11_goOn_125 (by decide) rfl ?_
            refine V_aload_n (pc := 127) 0 dX11_goOn_127 rfl rfl ?_
            refine V_getR (pc := 128) (j := 2) fk_X11_333_8 h44 dX11_goOn_128 (wN hw (by decide)) (wS1 hw (by decide) rfl) ?_
            refine V_iload (pc := 131) 10 dX11_goOn_131 rfl ?_
            refine V_iload (pc := 133) 9 dX11_goOn_133 rfl ?_
            refine V_callV (pc := 135) (As := [.int mt, .int (J 7 (16 * s + cE X (s : Int) r0))]) (st := []) (c_X0_isPassed G mt (J 7 (16 * s + cE X (s : Int) r0)) hw hb0 hb1) mf_X0_isPassed ml_X11_339 iv_X0_isPassed (wN hw (by decide)) (wS1 hw (by decide) rfl) (by decide) rfl dX11_goOn_135 rfl rfl (by omega) (by omega) (by omega) (Nat.le_of_ble_eq_true rfl) (fun r_135_12 n_135_12 sh_135_12 I_135_12 L_135_12 R_135_12 hq_135_12 => ?_)
            obtain ⟨rfl, rfl, rfl, rfl, rfl, hq_135_12⟩ := hq_135_12
            have hq2_135_12 : rb _ (foF X fo (s1 : Int) = (X 27 12).toInt ∧ (X 38 ((X 27 12).toInt - 1).toNat).toInt = (s1 : Int)) := rb_of hq_135_12 (by show (mt.toInt = (J 2 1).toInt ∧ (J 3 ((J 2 1).toInt - 1).toNat).toInt = (J 7 (16 * s + cE X (s : Int) r0)).toInt) ↔ _; rw [hGJ.2.1, hGJ.2.2, hmt, h7s])
            rcases hq2_135_12 with ⟨hps, rfl⟩ | ⟨hps, rfl⟩
            · skip
              refine V_if_eq_f (pc := 138) (tgt := 150) dX11_goOn_138 (by decide) (by decide) ?_
              refine V_aload_n (pc := 141) 0 dX11_goOn_141 rfl rfl ?_
              refine V_iload_n (pc := 142) 2 dX11_goOn_142 rfl rfl ?_
              refine V_iconst (pc := 143) (v := 1) dX11_goOn_143 rfl ?_
              refine V_iadd (pc := 144) dX11_goOn_144 (fun x_144_13 e_144_13 => ?_)
              have t_144_13 : x_144_13.toInt = dv.toInt + 1 := addT e_144_13 rfl rfl (by omega) (by omega)
              refine V_iload (pc := 145) 8 dX11_goOn_145 rfl ?_
              refine V_callV (pc := 147) (As := [.int x_144_13, .int x_47_4]) (st := []) (c_X8_found G x_144_13 x_47_4 hw (by omega) (by show (J 4 12).toInt < 1000000; omega)) mf_X8_found ml_X11_342 iv_X8_found (wN hw (by decide)) (wS1 hw (by decide) rfl) (by decide) rfl dX11_goOn_147 rfl rfl (by omega) (by omega) (by omega) (Nat.le_of_ble_eq_true rfl) (fun r_147_14 n_147_14 sh_147_14 I_147_14 L_147_14 R_147_14 hq_147_14 => ?_)
              obtain ⟨rfl, rfl, rfl, rfl, hq_147_14, rfl⟩ := hq_147_14
              rcases hq_147_14 with ⟨hfd, u2, hu2, rfl⟩ | ⟨hfd, rfl⟩
              · skip
                exact key _ x_27_3 (J 6 (16 * s + cE X (s : Int) r0)) x_47_4 (J 7 (16 * s + cE X (s : Int) r0)) mt (by omega) hnE hnl h6 (by omega) h7s hmt (gfr_u (gfr_u (gfr_u hfr rfl) rfl) rfl) hMB (fun k hk => (up2_k (by omega)).trans (hrow k hk)) ((up2_e : (up2 (up2 J 4 7 x_93_10) 9 d (J 6 (16 * s + cE X (s : Int) r0))) 9 d = _).trans hr6) (QS_m (QS_t hQ (by show Int32.toInt x_93_10 = _; omega) rfl (fun _ => rfl) rfl rfl : QS (up2 (up2 J 4 7 x_93_10) 9 d (J 6 (16 * s + cE X (s : Int) r0))) (g.1 + 1, g.2)) hps ⟨hfd.1, by rw [← hfd.2]; omega⟩ hu2) h8
              · skip
                have edd : x_144_13.toInt.toNat = d + 1 := by omega
                rw [edd]
                exact key _ x_27_3 (J 6 (16 * s + cE X (s : Int) r0)) x_47_4 (J 7 (16 * s + cE X (s : Int) r0)) mt (by omega) hnE hnl h6 (by omega) h7s hmt (gfr_c (gfr_u (gfr_u (gfr_u (gfr_u (gfr_u hfr rfl) rfl) rfl) rfl) rfl) _) (by rw [cpF_o (by omega)]; exact hMB) (fun k hk => by rw [cpF_o (by omega)]; exact (up2_k (by omega) : (up2 (up2 J 4 7 x_93_10) 9 d (J 6 (16 * s + cE X (s : Int) r0))) 9 k = _).trans (hrow k hk)) (by rw [cpF_o (by omega)]; exact (up2_e : (up2 (up2 J 4 7 x_93_10) 9 d (J 6 (16 * s + cE X (s : Int) r0))) 9 d = _).trans hr6) (QS_b (QS_t hQ (by show Int32.toInt x_93_10 = _; omega) rfl (fun _ => rfl) rfl rfl : QS (up2 (up2 J 4 7 x_93_10) 9 d (J 6 (16 * s + cE X (s : Int) r0))) (g.1 + 1, g.2)) hps (fun z => hfd ⟨z.1, by rw [← z.2]; omega⟩) (fun z => by have z1 : 0 ≤ g.2.1 := z; show _ ≤ g.2.1; omega) z5 (by omega) (by omega) (by omega) (fun k hk => by rcases (show k < d ∨ k = d by omega) with z | z; exact (up2_k (by omega)).trans ((hrow k z).trans (upd_o (by omega)).symm); rw [z, upd_e, up2_e]; exact hr6)) (by rw [cpF_o (by omega)]; exact h8)
            · skip
              refine V_if_eq_t (pc := 138) (tgt := 150) dX11_goOn_138 (by decide) (by decide) ?_
              exact key _ x_27_3 (J 6 (16 * s + cE X (s : Int) r0)) x_47_4 (J 7 (16 * s + cE X (s : Int) r0)) mt (by omega) hnE hnl h6 (by omega) h7s hmt (gfr_u (gfr_u hfr rfl) rfl) hMB (fun k hk => (up2_k (by omega)).trans (hrow k hk)) (up2_e.trans hr6) (QS_n (QS_t hQ (by show Int32.toInt x_93_10 = _; omega) rfl (fun _ => rfl) rfl rfl : QS (up2 (up2 J 4 7 x_93_10) 9 d (J 6 (16 * s + cE X (s : Int) r0))) (g.1 + 1, g.2)) hps hfob.2) h8
          · have c_78_9 : 60000 ≤ (J 4 7).toInt := c_78_9
            refine V_aload_n (pc := 81) 0 dX11_goOn_81 rfl rfl ?_
            refine V_iconst (pc := 82) (v := 1) dX11_goOn_82 rfl ?_
            refine V_putI (pc := 83) fw_X11_141_8 rfl rfl dX11_goOn_83 (wN hw (by decide)) (wS1 hw (by decide) rfl) ?_
            refine V_vret (pc := 86) rfl dX11_goOn_86 (by omega) (by omega) ?_
            have hst : stR X (fun w' s' fo' su' g' => goR X D (d + 1) w' s' fo' su' g') d w (s : Int) fo su r0 g = (g, true) := by unfold stR; rw [if_neg (fun z => z.elim (by rw [hnE]; exact Bool.noConfusion) (fun z => z.elim hl hnl)), if_pos (by omega)]
            rw [hL.trans (lvR_t hst)]
            exact ⟨rfl, rfl, rfl, rfl, ⟨gfr_u hfr rfl, ⟨hMB, hrow, QS_e hQ rfl rfl (fun _ => rfl) rfl rfl, hSB⟩, rfl⟩, rfl⟩
set_option maxRecDepth 100000 in
set_option maxHeartbeats 4000000 in
theorem c_X11_goOn (G : vG) {n : Nat} {sh : vS} {L : vL} {R : vR} (X : vI) (hw : WF n sh R) (h44 : R 4 4 = some 2) (hE : SE X) : ∀ (D : Nat) (I : vI) (d s : Nat) (w : Nat → Int32) (fo su : Int) (g : Sg) (sv dv uv fv : Int32), GoH X I d s w fo su g sv dv uv fv → D + d = 10 → CT G yX11_goOn cX11_goOn 11 none (D + 7) 0 0 [.ref (ad G 4), .int sv, .int dv, .int uv, .int fv] n sh I L R (GoPo n sh L R X I w d (goR X D d w (s : Int) fo su g)) := by
  intro D
  induction D with
  | zero =>
    intro I d s w fo su g sv dv uv fv hH hDd
    obtain ⟨hGI, hG, h8, ⟨hsv, h10⟩, hdv, huv, hfv, hfo, hsu⟩ := hH
    refine CT_of (own := RX11) (ini := false) (lo := [(0, .ref (ad G 4)), (1, .int sv), (2, .int dv), (3, .int uv), (4, .int fv)]) mf_X11_goOn (Nat.le_of_ble_eq_true rfl) rfl (fun h => by first | rfl | cases h) rfl ?_
    refine V_iload_n (pc := 0) 2 dX11_goOn_0 rfl rfl ?_
    refine V_bipush (pc := 1) (v := 10) dX11_goOn_1 rfl ?_
    refine V_icmp_lt (pc := 3) (tgt := 7) dX11_goOn_3 (by decide) (fun c_3_1 => ?_) (fun c_3_1 => ?_)
    · have c_3_1 : dv.toInt < 10 := c_3_1
      exfalso; omega
    · have c_3_1 : 10 ≤ dv.toInt := c_3_1
      refine V_vret (pc := 6) rfl dX11_goOn_6 (by omega) (by omega) ?_
      exact ⟨rfl, rfl, rfl, rfl, ⟨gfr_r, hG, h8⟩, rfl⟩
  | succ D ih =>
    intro I d s w fo su g sv dv uv fv hH hDd
    obtain ⟨hGI, hG, h8, ⟨hsv, h10⟩, hdv, huv, hfv, hfo, hsu⟩ := hH
    refine CT_of (own := RX11) (ini := false) (lo := [(0, .ref (ad G 4)), (1, .int sv), (2, .int dv), (3, .int uv), (4, .int fv)]) mf_X11_goOn (Nat.le_of_ble_eq_true rfl) rfl (fun h => by first | rfl | cases h) rfl ?_
    refine V_iload_n (pc := 0) 2 dX11_goOn_0 rfl rfl ?_
    refine V_bipush (pc := 1) (v := 10) dX11_goOn_1 rfl ?_
    refine V_icmp_lt (pc := 3) (tgt := 7) dX11_goOn_3 (by decide) (fun c_3_1 => ?_) (fun c_3_1 => ?_)
    · have c_3_1 : dv.toInt < 10 := c_3_1
      refine V_iconst (pc := 7) (v := 0) dX11_goOn_7 rfl ?_
      refine V_istore (pc := 8) (lo' := [(0, .ref (ad G 4)), (1, .int sv), (2, .int dv), (3, .int uv), (4, .int fv), (5, .int 0)]) dX11_goOn_8 (by decide) rfl ?_
      exact l_X11_goOn G X D d s w fo su _ sv dv uv fv hw h44 hE hGI (by omega) hsv h10 hdv huv hfv hfo hsu (fun I d s w fo su g sv dv uv fv h1 h2 => ih I d s w fo su g sv dv uv fv h1 h2) (X 27 1).toInt.toNat 0 I g 0 (by have := hE.1; omega) gfr_r hG h8 rfl rfl
    · have c_3_1 : 10 ≤ dv.toInt := c_3_1
      exfalso; omega
