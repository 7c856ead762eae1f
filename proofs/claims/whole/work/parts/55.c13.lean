set_option maxRecDepth 100000 in
set_option maxHeartbeats 4000000 in
theorem l_X11_proofOfRow (G : vG) {n : Nat} {sh : vS} {I : vI} {L : vL} {R : vR} (X : vI) (q fn : Nat) (fr n0 : Int32) (hw : WF n sh R) (hq : q < 4) (hfr : fr.toInt = (fn : Int)) (h0 : 0 ≤ n0.toInt) (h32 : (fn : Int) + n0.toInt ≤ 32) (hcl : ∀ y : Nat, (y : Int) < n0.toInt → I (20 + 2 * q) (fn + y) = X 36 (32 * q + fn + y)) (hR : JRd n sh I R X) (hB : JB I X) (h0b : (X 27 12).toInt ≠ 0) : ∀ (f m : Nat) (k : Int32) (sv : Int32) (mv : Int32) (rr : Int32) (sm : Int64) (hm : (m : Int) ≤ n0.toInt) (hk : k.toInt = (m : Int)) (hsv : 0 ≤ sv.toInt ∧ sv.toInt ≤ 9) (hmv : 1 ≤ mv.toInt ∧ mv.toInt ≤ (X 27 12).toInt ∧ mv.toInt ≤ (m : Int) + 1) (hsm : 0 ≤ sm.toInt ∧ sm.toInt ≤ 20000 * (m : Int)) (hM : MB rr (fun y => X 36 (32 * q + fn + y)) m) (hF : pvF X ((32 * q + fn : Nat) : Int) n0.toInt.toNat n0.toInt.toNat 0 (X 38 0).toInt 1 0 = pvF X ((32 * q + fn : Nat) : Int) n0.toInt.toNat (n0.toInt.toNat - m) m sv.toInt mv.toInt sm.toInt) (hf : n0.toInt < (m : Int) + f), V G RX11 cX11_proofOfRow (some .long) false 6 0 0 13 (PI n sh L R (fun I' o => I = I' ∧ ∃ v : Int64, o = some (.long v) ∧ v.toInt = pvF X ((32 * q + fn : Nat) : Int) n0.toInt.toNat n0.toInt.toNat 0 (X 38 0).toInt 1 0)) 23 [(0, .ref (ad G 0)), (1, .ref (ad G (20 + 2 * q))), (2, .int fr), (3, .int n0), (4, .int sv), (5, .int mv), (6, .int rr), (7, .long sm), (9, .int k)] [] 0 0 n sh I L R := by
  intro f
  induction f with
  | zero => intro m k sv mv rr sm hm hk hsv hmv hsm hM hF hf; omega
  | succ f ih =>
    intro m k sv mv rr sm hm hk hsv hmv hsm hM hF hf
    have eQ : (((32 * q + fn : Nat) : Int) + (m : Int)).toNat = 32 * q + fn + m := by omega
    have h12 := hB.2.2.1
    have h2 := (hB.2.2.2 h0b).1
    have hb0 : 0 ≤ (I 2 1).toInt ∧ (I 2 1).toInt ≤ 8 := by rw [hB.1]; exact h12
    have hb1 : 1 ≤ (I 2 1).toInt := by rw [hB.1]; omega
    refine V_iload (pc := 23) 8 dX11_proofOfRow_23 rfl ?_
    refine V_iload_n (pc := 25) 3 dX11_proofOfRow_25 rfl rfl ?_
    refine V_icmp_ge (pc := 26) (tgt := 135) dX11_proofOfRow_26 (by decide) (fun c_26_1 => ?_) (fun c_26_1 => ?_)
    · have c_26_1 : n0.toInt ≤ k.toInt := c_26_1
      refine V_iload_n (pc := 135) 3 dX11_proofOfRow_135 rfl rfl ?_
      refine V_bipush (pc := 136) (v := 10) dX11_proofOfRow_136 rfl ?_
      refine V_icmp_gt (pc := 138) (tgt := 160) dX11_proofOfRow_138 (by decide) (fun c_138_2 => ?_) (fun c_138_2 => ?_)
      · have c_138_2 : 10 < n0.toInt := c_138_2
        refine V_ldc2 (pc := 160) dX11_proofOfRow_160 kk_X11_365 ?_
        refine V_lret (pc := 163) rfl dX11_proofOfRow_163 (by omega) (by omega) ?_
        refine ⟨rfl, rfl, rfl, rfl, rfl, _, rfl, ?_⟩
        rw [hF, show n0.toInt.toNat - m = 0 by omega]
        show _ = if n0.toInt.toNat = 0 ∨ 10 < n0.toInt.toNat ∨ mv.toInt < (X 27 12).toInt ∨ sv.toInt ≠ (X 38 ((X 27 12).toInt - 1).toNat).toInt then -100 else sm.toInt
        rw [if_pos (by omega)]
        rfl
      · have c_138_2 : n0.toInt ≤ 10 := c_138_2
        refine V_aload_n (pc := 141) 0 dX11_proofOfRow_141 rfl rfl ?_
        refine V_getR (pc := 142) (j := 2) fk_X11_20_11 (wR hw (i := 0) (k := 2) (j := 2) rfl) dX11_proofOfRow_142 (wN hw (by decide)) (wS1 hw (by decide) rfl) ?_
        refine V_iload (pc := 145) 5 dX11_proofOfRow_145 rfl ?_
        refine V_iload (pc := 147) 4 dX11_proofOfRow_147 rfl ?_
        refine V_callV (pc := 149) (As := [.int mv, .int sv]) (st := []) (c_X0_isPassed G mv sv hw hb0 hb1) mf_X0_isPassed ml_X11_339 iv_X0_isPassed (wN hw (by decide)) (wS1 hw (by decide) rfl) (by decide) rfl dX11_proofOfRow_149 rfl rfl (by omega) (by omega) (by omega) (Nat.le_of_ble_eq_true rfl) (fun r_149_3 n_149_3 sh_149_3 I_149_3 L_149_3 R_149_3 hq_149_3 => ?_)
        obtain ⟨rfl, rfl, rfl, rfl, rfl, hq_149_3⟩ := hq_149_3
        rw [hB.1, hB.2.1] at hq_149_3
        rcases hq_149_3 with ⟨hps, rfl⟩ | ⟨hps, rfl⟩
        · skip
          refine V_if_eq_f (pc := 152) (tgt := 160) dX11_proofOfRow_152 (by decide) (by decide) ?_
          refine V_lload (pc := 155) 7 dX11_proofOfRow_155 rfl ?_
          refine V_goto (pc := 157) (tgt := 163) dX11_proofOfRow_157 (by decide) ?_
          refine V_lret (pc := 163) rfl dX11_proofOfRow_163 (by omega) (by omega) ?_
          refine ⟨rfl, rfl, rfl, rfl, rfl, _, rfl, ?_⟩
          rw [hF, show n0.toInt.toNat - m = 0 by omega]
          show _ = if n0.toInt.toNat = 0 ∨ 10 < n0.toInt.toNat ∨ mv.toInt < (X 27 12).toInt ∨ sv.toInt ≠ (X 38 ((X 27 12).toInt - 1).toNat).toInt then -100 else sm.toInt
          rw [if_neg (by omega)]
        · skip
          refine V_if_eq_t (pc := 152) (tgt := 160) dX11_proofOfRow_152 (by decide) (by decide) ?_
          refine V_ldc2 (pc := 160) dX11_proofOfRow_160 kk_X11_365 ?_
          refine V_lret (pc := 163) rfl dX11_proofOfRow_163 (by omega) (by omega) ?_
          refine ⟨rfl, rfl, rfl, rfl, rfl, _, rfl, ?_⟩
          rw [hF, show n0.toInt.toNat - m = 0 by omega]
          show _ = if n0.toInt.toNat = 0 ∨ 10 < n0.toInt.toNat ∨ mv.toInt < (X 27 12).toInt ∨ sv.toInt ≠ (X 38 ((X 27 12).toInt - 1).toNat).toInt then -100 else sm.toInt
          rw [if_pos (by omega)]
          rfl
    · have c_26_1 : k.toInt < n0.toInt := c_26_1
      refine V_aload_n (pc := 29) 1 dX11_proofOfRow_29 rfl rfl ?_
      refine V_iload_n (pc := 30) 2 dX11_proofOfRow_30 rfl rfl ?_
      refine V_iload (pc := 31) 8 dX11_proofOfRow_31 rfl ?_
      refine V_iadd (pc := 33) dX11_proofOfRow_33 (fun x_33_4 e_33_4 => ?_)
      have t_33_4 : x_33_4.toInt = fr.toInt + k.toInt := addT e_33_4 rfl rfl (by omega) (by omega)
      refine V_ia (pc := 34) (k := (fn + m)) (v := (I (20 + 2 * q) (fn + m))) rfl dX11_proofOfRow_34 (wSo hw hq).1.2 (wSo hw hq).2.2.1 (by omega) (by omega) ?_
      refine V_istore (pc := 35) (lo' := [(0, .ref (ad G 0)), (1, .ref (ad G (20 + 2 * q))), (2, .int fr), (3, .int n0), (4, .int sv), (5, .int mv), (6, .int rr), (7, .long sm), (9, .int k), (10, .int (I (20 + 2 * q) (fn + m)))]) dX11_proofOfRow_35 (by decide) rfl ?_
      refine V_aload_n (pc := 37) 0 dX11_proofOfRow_37 rfl rfl ?_
      refine V_iload (pc := 38) 9 dX11_proofOfRow_38 rfl ?_
      refine V_callV (pc := 40) (As := [.int (I (20 + 2 * q) (fn + m))]) (st := []) (c_X11_roadOf G X (I (20 + 2 * q) (fn + m)) hw hR) mf_X11_roadOf ml_X11_73 iv_X11_roadOf (wN hw (by decide)) (wS1 hw (by decide) rfl) (by decide) rfl dX11_proofOfRow_40 rfl rfl (by omega) (by omega) (by omega) (Nat.le_of_ble_eq_true rfl) (fun r_40_5 n_40_5 sh_40_5 I_40_5 L_40_5 R_40_5 hq_40_5 => ?_)
      obtain ⟨rfl, rfl, rfl, rfl, rfl, hq_40_5⟩ := hq_40_5
      have hrx := hcl m (by omega)
      rw [hrx] at hq_40_5
      rcases hq_40_5 with ⟨c_40_5, rfl⟩ | ⟨c_40_5, rfl⟩
      · have hnr : ¬ (0 ≤ (X 36 (32 * q + fn + m)).toInt ∧ (X 36 (32 * q + fn + m)).toInt < (X 27 1).toInt) := c_40_5
        refine V_astoreN (pc := 43) (lo' := [(0, .ref (ad G 0)), (1, .ref (ad G (20 + 2 * q))), (2, .int fr), (3, .int n0), (4, .int sv), (5, .int mv), (6, .int rr), (7, .long sm), (9, .int k), (10, .int (I (20 + 2 * q) (fn + m))), (11, .null)]) dX11_proofOfRow_43 (by decide) rfl ?_
        refine V_aloadN (pc := 45) 10 dX11_proofOfRow_45 rfl ?_
        refine V_ifnonnull_n (pc := 47) dX11_proofOfRow_47 ?_
        refine V_bipush (pc := 50) (v := (-9)) dX11_proofOfRow_50 rfl ?_
        refine V_goto (pc := 52) (tgt := 62) dX11_proofOfRow_52 (by decide) ?_
        refine V_istore (pc := 62) (lo' := [(0, .ref (ad G 0)), (1, .ref (ad G (20 + 2 * q))), (2, .int fr), (3, .int n0), (4, .int sv), (5, .int mv), (6, .int rr), (7, .long sm), (9, .int k), (10, .int (I (20 + 2 * q) (fn + m))), (11, .null), (12, .int (-9))]) dX11_proofOfRow_62 (by decide) rfl ?_
        refine V_aloadN (pc := 64) 10 dX11_proofOfRow_64 rfl ?_
        refine V_ifnull_n (pc := 66) (tgt := 86) dX11_proofOfRow_66 (by decide) ?_
        refine V_iconst (pc := 86) (v := (-1)) dX11_proofOfRow_86 rfl ?_
        refine V_iload (pc := 87) 8 dX11_proofOfRow_87 rfl ?_
        refine V_isub (pc := 89) dX11_proofOfRow_89 (fun x_89_6 e_89_6 => ?_)
        have t_89_6 : x_89_6.toInt = (-1) - k.toInt := subT e_89_6 rfl rfl (by omega) (by omega)
        refine V_i2l (pc := 90) dX11_proofOfRow_90 (fun x_90_7 e_90_7 => ?_)
        have t_90_7 : x_90_7.toInt = x_89_6.toInt := i2lT e_90_7 rfl
        have b_90_7 := fb_rng x_89_6
        refine V_lret (pc := 91) rfl dX11_proofOfRow_91 (by omega) (by omega) ?_
        refine ⟨rfl, rfl, rfl, rfl, rfl, _, rfl, ?_⟩
        rw [hF, show n0.toInt.toNat - m = (n0.toInt.toNat - (m + 1)) + 1 by omega, pvF_s, eQ, pIf_pos]
        · omega
        · exact Or.inl hnr
      · have hyr : 0 ≤ (X 36 (32 * q + fn + m)).toInt ∧ (X 36 (32 * q + fn + m)).toInt < (X 27 1).toInt := c_40_5
        obtain ⟨rn, hrn⟩ : ∃ rn : Nat, (X 36 (32 * q + fn + m)).toInt = (rn : Int) := ⟨_, (Int.toNat_of_nonneg hyr.1).symm⟩
        have hrt : (X 36 (32 * q + fn + m)).toInt.toNat = rn := by omega
        rw [hrt]
        have hN16 := hR.2.1
        have hRD := hR.2.2.1 rn (by omega)
        have h16 : rn < 16 := by omega
        have hlI := RD_16 hRD
        have hlt : (I (oj R 1 rn) 2).toInt = (X 30 rn).toInt := by rw [hlI.1]
        have hrI : (I (20 + 2 * q) (fn + m)).toInt = (rn : Int) := by rw [hrx]; exact hrn
        refine V_astore (pc := 43) (lo' := [(0, .ref (ad G 0)), (1, .ref (ad G (20 + 2 * q))), (2, .int fr), (3, .int n0), (4, .int sv), (5, .int mv), (6, .int rr), (7, .long sm), (9, .int k), (10, .int (I (20 + 2 * q) (fn + m))), (11, .ref (ad G (oj R 1 rn)))]) dX11_proofOfRow_43 (by decide) rfl ?_
        refine V_aload (pc := 45) 10 dX11_proofOfRow_45 rfl ?_
        refine V_ifnonnull_r (pc := 47) (tgt := 55) dX11_proofOfRow_47 (by decide) ?_
        refine V_aload (pc := 55) 10 dX11_proofOfRow_55 rfl ?_
        refine V_iload (pc := 57) 4 dX11_proofOfRow_57 rfl ?_
        refine V_endF (X := X) (r := rn) (pc := 59) (st := []) (s := sv) hw hRD ov_X11_362_7 ov_X11_362_6 ov_X11_362_3 dX11_proofOfRow_59 (by omega) (by omega) (by omega) (Nat.le_of_ble_eq_true rfl) (fun ev hev => ?_)
        have hl2 := le_2 hev
        refine V_istore (pc := 62) (lo' := [(0, .ref (ad G 0)), (1, .ref (ad G (20 + 2 * q))), (2, .int fr), (3, .int n0), (4, .int sv), (5, .int mv), (6, .int rr), (7, .long sm), (9, .int k), (10, .int (I (20 + 2 * q) (fn + m))), (11, .ref (ad G (oj R 1 rn))), (12, .int ev)]) dX11_proofOfRow_62 (by decide) rfl ?_
        refine V_aload (pc := 64) 10 dX11_proofOfRow_64 rfl ?_
        refine V_ifnull_r (pc := 66) dX11_proofOfRow_66 ?_
        refine V_iload (pc := 69) 11 dX11_proofOfRow_69 rfl ?_
        refine V_bipush (pc := 71) (v := (-9)) dX11_proofOfRow_71 rfl ?_
        refine V_icmp_eq (pc := 73) (tgt := 86) dX11_proofOfRow_73 (by decide) (fun c_73_9 => ?_) (fun c_73_9 => ?_)
        · have c_73_9 : ev.toInt = (-9) := c_73_9
          refine V_iconst (pc := 86) (v := (-1)) dX11_proofOfRow_86 rfl ?_
          refine V_iload (pc := 87) 8 dX11_proofOfRow_87 rfl ?_
          refine V_isub (pc := 89) dX11_proofOfRow_89 (fun x_89_10 e_89_10 => ?_)
          have t_89_10 : x_89_10.toInt = (-1) - k.toInt := subT e_89_10 rfl rfl (by omega) (by omega)
          refine V_i2l (pc := 90) dX11_proofOfRow_90 (fun x_90_11 e_90_11 => ?_)
          have t_90_11 : x_90_11.toInt = x_89_10.toInt := i2lT e_90_11 rfl
          have b_90_11 := fb_rng x_89_10
          refine V_lret (pc := 91) rfl dX11_proofOfRow_91 (by omega) (by omega) ?_
          refine ⟨rfl, rfl, rfl, rfl, rfl, _, rfl, ?_⟩
          rw [hF, show n0.toInt.toNat - m = (n0.toInt.toNat - (m + 1)) + 1 by omega, pvF_s, eQ, pIf_pos]
          · omega
          · exact Or.inr (Or.inr (by rw [hrt]; omega))
        · have c_73_9 : ev.toInt ≠ (-9) := c_73_9
          refine V_iload (pc := 76) 6 dX11_proofOfRow_76 rfl ?_
          refine V_iload (pc := 78) 9 dX11_proofOfRow_78 rfl ?_
          refine V_ishr (pc := 80) dX11_proofOfRow_80 (fun x_80_12 e_80_12 => ?_)
          refine V_iconst (pc := 81) (v := 1) dX11_proofOfRow_81 rfl ?_
          refine V_iand (pc := 82) dX11_proofOfRow_82 (fun x_82_13 e_82_13 => ?_)
          have hz := mk_test hrI h16 e_80_12 e_82_13
          refine V_if_eq (pc := 83) (tgt := 92) dX11_proofOfRow_83 (by decide) (fun c_83_14 => ?_) (fun c_83_14 => ?_)
          · have c_83_14 : x_82_13.toInt = 0 := c_83_14
            refine V_iload (pc := 92) 6 dX11_proofOfRow_92 rfl ?_
            refine V_iconst (pc := 94) (v := 1) dX11_proofOfRow_94 rfl ?_
            refine V_iload (pc := 95) 9 dX11_proofOfRow_95 rfl ?_
            refine V_ishl (pc := 97) dX11_proofOfRow_97 (fun x_97_15 e_97_15 => ?_)
            refine V_ior (pc := 98) dX11_proofOfRow_98 (fun x_98_16 e_98_16 => ?_)
            refine V_istore (pc := 99) (lo' := [(0, .ref (ad G 0)), (1, .ref (ad G (20 + 2 * q))), (2, .int fr), (3, .int n0), (4, .int sv), (5, .int mv), (6, .int x_98_16), (7, .long sm), (9, .int k), (10, .int (I (20 + 2 * q) (fn + m))), (11, .ref (ad G (oj R 1 rn))), (12, .int ev)]) dX11_proofOfRow_99 (by decide) rfl ?_
            refine V_lload (pc := 101) 7 dX11_proofOfRow_101 rfl ?_
            refine V_aload (pc := 103) 10 dX11_proofOfRow_103 rfl ?_
            refine V_gI (pc := 105) (v := (I (oj R 1 rn) 2)) rfl (fk_X11_99_s (rdcl hRD)) dX11_proofOfRow_105 hRD.2.2.1 rfl ?_
            refine V_i2l (pc := 108) dX11_proofOfRow_108 (fun x_108_17 e_108_17 => ?_)
            have t_108_17 : x_108_17.toInt = (I (oj R 1 rn) 2).toInt := i2lT e_108_17 rfl
            have b_108_17 := fb_rng (I (oj R 1 rn) 2)
            refine V_ladd (pc := 109) dX11_proofOfRow_109 (fun x_109_18 e_109_18 => ?_)
            have t_109_18 : x_109_18.toInt = sm.toInt + x_108_17.toInt := laddT e_109_18 rfl rfl (by omega) (by omega)
            refine V_lstore (pc := 110) (lo' := [(0, .ref (ad G 0)), (1, .ref (ad G (20 + 2 * q))), (2, .int fr), (3, .int n0), (4, .int sv), (5, .int mv), (6, .int x_98_16), (7, .long x_109_18), (9, .int k), (10, .int (I (20 + 2 * q) (fn + m))), (11, .ref (ad G (oj R 1 rn))), (12, .int ev)]) dX11_proofOfRow_110 (by decide) rfl ?_
            refine V_iload (pc := 112) 11 dX11_proofOfRow_112 rfl ?_
            refine V_istore (pc := 114) (lo' := [(0, .ref (ad G 0)), (1, .ref (ad G (20 + 2 * q))), (2, .int fr), (3, .int n0), (4, .int ev), (5, .int mv), (6, .int x_98_16), (7, .long x_109_18), (9, .int k), (10, .int (I (20 + 2 * q) (fn + m))), (11, .ref (ad G (oj R 1 rn))), (12, .int ev)]) dX11_proofOfRow_114 (by decide) rfl ?_
            refine V_aload_n (pc := 116) 0 dX11_proofOfRow_116 rfl rfl ?_
            refine V_getR (pc := 117) (j := 2) fk_X11_20_11 (wR hw (i := 0) (k := 2) (j := 2) rfl) dX11_proofOfRow_117 (wN hw (by decide)) (wS1 hw (by decide) rfl) ?_
            refine V_iload (pc := 120) 5 dX11_proofOfRow_120 rfl ?_
            refine V_iload (pc := 122) 11 dX11_proofOfRow_122 rfl ?_
            have hlf : ev.toInt = leadsF X rn sv.toInt ∧ 0 ≤ leadsF X rn sv.toInt := hl2.elim (fun z => absurd z.1 (by omega)) id
            refine V_callV (pc := 124) (As := [.int mv, .int ev]) (st := []) (c_X0_metAfter G mv ev hw hb0 (by omega)) mf_X0_metAfter ml_X11_336 iv_X0_metAfter (wN hw (by decide)) (wS1 hw (by decide) rfl) (by decide) rfl dX11_proofOfRow_124 rfl rfl (by omega) (by omega) (by omega) (Nat.le_of_ble_eq_true rfl) (fun r_124_19 n_124_19 sh_124_19 I_124_19 L_124_19 R_124_19 hq_124_19 => ?_)
            obtain ⟨rfl, rfl, rfl, rfl, rfl, mt, rfl, hmt0⟩ := hq_124_19
            rw [hB.1, hB.2.1, hlf.1] at hmt0
            refine V_istore (pc := 127) (lo' := [(0, .ref (ad G 0)), (1, .ref (ad G (20 + 2 * q))), (2, .int fr), (3, .int n0), (4, .int ev), (5, .int mt), (6, .int x_98_16), (7, .long x_109_18), (9, .int k), (10, .int (I (20 + 2 * q) (fn + m))), (11, .ref (ad G (oj R 1 rn))), (12, .int ev)]) dX11_proofOfRow_127 (by decide) rfl ?_
            obtain ⟨x_129_20, e_129_20⟩ : ∃ y : Int32, y = k + (1) := ⟨_, rfl⟩
            have t_129_20 : x_129_20.toInt = k.toInt + 1 := addT e_129_20 rfl rfl (by omega) (by omega)
            refine V_iinc (pc := 129) (v := x_129_20) (lo' := [(0, .ref (ad G 0)), (1, .ref (ad G (20 + 2 * q))), (2, .int fr), (3, .int n0), (4, .int ev), (5, .int mt), (6, .int x_98_16), (7, .long x_109_18), (9, .int x_129_20), (10, .int (I (20 + 2 * q) (fn + m))), (11, .ref (ad G (oj R 1 rn))), (12, .int ev)]) 8 dX11_proofOfRow_129 rfl e_129_20.symm (by decide) rfl ?_
            refine V_goto (pc := 132) (tgt := 23) dX11_proofOfRow_132 (by decide) ?_
            refine V_lo (pc := 23) (lo' := [(0, .ref (ad G 0)), (1, .ref (ad G (20 + 2 * q))), (2, .int fr), (3, .int n0), (4, .int ev), (5, .int mt), (6, .int x_98_16), (7, .long x_109_18), (9, .int x_129_20)]) [0, 1, 2, 3, 4, 5, 6, 7, 8] rfl ?_
            have hnb : exE (fun y => X 36 (32 * q + fn + y)) (rn : Int) m = false := by rw [← hM rn h16]; exact hz.mp (by omega)
            have hnc : ¬ (¬ (0 ≤ (X 36 (32 * q + fn + m)).toInt ∧ (X 36 (32 * q + fn + m)).toInt < (X 27 1).toInt) ∨ (∃ y, y < m ∧ aheadP X ((32 * q + fn : Nat) : Int) (m : Int) y) ∨ leadsF X (X 36 (32 * q + fn + m)).toInt.toNat sv.toInt < 0) := by
              rw [hrt]
              rintro (z | z | z)
              · exact z hyr
              · rw [ahe_e] at z
                rw [hrn, hnb] at z
                exact Bool.noConfusion z
              · omega
            rw [show n0.toInt.toNat - m = (n0.toInt.toNat - (m + 1)) + 1 by omega, pvF_s, eQ, pIf_neg hnc, hrt] at hF
            have hlb := leads_2 hRD hlf.2
            have hmb : mt.toInt = mv.toInt + 1 ∨ mt.toInt = mv.toInt := by rw [hmt0]; split <;> omega
            have hmc : mt.toInt ≤ (X 27 12).toInt := by rw [hmt0]; split <;> omega
            exact ih (m + 1) x_129_20 ev mt x_98_16 x_109_18 (by omega) (by omega) (by omega) (by omega) (by omega) (MB_w hM hrn (fun i hi => mk_set hrI h16 e_97_15 e_98_16 hi)) (by rw [hF, hlf.1, hmt0]; congr 1; omega) (by omega)
          · have c_83_14 : x_82_13.toInt ≠ 0 := c_83_14
            refine V_iconst (pc := 86) (v := (-1)) dX11_proofOfRow_86 rfl ?_
            refine V_iload (pc := 87) 8 dX11_proofOfRow_87 rfl ?_
            refine V_isub (pc := 89) dX11_proofOfRow_89 (fun x_89_21 e_89_21 => ?_)
            have t_89_21 : x_89_21.toInt = (-1) - k.toInt := subT e_89_21 rfl rfl (by omega) (by omega)
            refine V_i2l (pc := 90) dX11_proofOfRow_90 (fun x_90_22 e_90_22 => ?_)
            have t_90_22 : x_90_22.toInt = x_89_21.toInt := i2lT e_90_22 rfl
            have b_90_22 := fb_rng x_89_21
            refine V_lret (pc := 91) rfl dX11_proofOfRow_91 (by omega) (by omega) ?_
            refine ⟨rfl, rfl, rfl, rfl, rfl, _, rfl, ?_⟩
            rw [hF, show n0.toInt.toNat - m = (n0.toInt.toNat - (m + 1)) + 1 by omega, pvF_s, eQ, pIf_pos]
            · omega
            · refine Or.inr (Or.inl (ahe_e.mpr ?_))
              rw [hrn, ← hM rn h16]
              cases hbb : bt rr rn
              · exact absurd (hz.mpr hbb) (by omega)
              · rfl
set_option maxRecDepth 100000 in
set_option maxHeartbeats 4000000 in
theorem c_X11_proofOfRow (G : vG) {n : Nat} {sh : vS} {I : vI} {L : vL} {R : vR} (X : vI) (q fn : Nat) (fr n0 : Int32) (hw : WF n sh R) (hq : q < 4) (hfr : fr.toInt = (fn : Int)) (h0 : 0 ≤ n0.toInt) (h32 : (fn : Int) + n0.toInt ≤ 32) (hcl : ∀ y : Nat, (y : Int) < n0.toInt → I (20 + 2 * q) (fn + y) = X 36 (32 * q + fn + y)) (hR : JRd n sh I R X) (hB : JB I X) (h0b : (X 27 12).toInt ≠ 0) : CT G yX11_proofOfRow cX11_proofOfRow 13 (some .long) 6 0 0 [.ref (ad G 0), .ref (ad G (20 + 2 * q)), .int fr, .int n0] n sh I L R (PI n sh L R (fun I' o => I = I' ∧ ∃ v : Int64, o = some (.long v) ∧ v.toInt = pvF X ((32 * q + fn : Nat) : Int) n0.toInt.toNat n0.toInt.toNat 0 (X 38 0).toInt 1 0)) := by
  refine CT_of (own := RX11) (ini := false) (lo := [(0, .ref (ad G 0)), (1, .ref (ad G (20 + 2 * q))), (2, .int fr), (3, .int n0)]) mf_X11_proofOfRow (Nat.le_of_ble_eq_true rfl) rfl (fun h => by first | rfl | cases h) rfl ?_
  have h38 := (hB.2.2.2 h0b).2 0 (by have := (hB.2.2.2 h0b).1; omega)
  refine V_aload_n (pc := 0) 0 dX11_proofOfRow_0 rfl rfl ?_
  refine V_getR (pc := 1) (j := 2) fk_X11_20_11 (wR hw (i := 0) (k := 2) (j := 2) rfl) dX11_proofOfRow_1 (wN hw (by decide)) (wS1 hw (by decide) rfl) ?_
  refine V_getR (pc := 4) (j := 3) fk_X11_306_0 (wR hw (i := 2) (k := 0) (j := 3) rfl) dX11_proofOfRow_4 (wN hw (by decide)) (wS1 hw (by decide) rfl) ?_
  refine V_iconst (pc := 7) (v := 0) dX11_proofOfRow_7 rfl ?_
  refine V_ia (pc := 8) (k := 0) (v := (I 3 0)) rfl dX11_proofOfRow_8 (wN hw (by decide)) (wS hw (by decide) rfl) rfl (by omega) ?_
  refine V_istore (pc := 9) (lo' := [(0, .ref (ad G 0)), (1, .ref (ad G (20 + 2 * q))), (2, .int fr), (3, .int n0), (4, .int (I 3 0))]) dX11_proofOfRow_9 (by decide) rfl ?_
  refine V_iconst (pc := 11) (v := 1) dX11_proofOfRow_11 rfl ?_
  refine V_istore (pc := 12) (lo' := [(0, .ref (ad G 0)), (1, .ref (ad G (20 + 2 * q))), (2, .int fr), (3, .int n0), (4, .int (I 3 0)), (5, .int 1)]) dX11_proofOfRow_12 (by decide) rfl ?_
  refine V_iconst (pc := 14) (v := 0) dX11_proofOfRow_14 rfl ?_
  refine V_istore (pc := 15) (lo' := [(0, .ref (ad G 0)), (1, .ref (ad G (20 + 2 * q))), (2, .int fr), (3, .int n0), (4, .int (I 3 0)), (5, .int 1), (6, .int 0)]) dX11_proofOfRow_15 (by decide) rfl ?_
  refine V_lconst (pc := 17) (v := 0) dX11_proofOfRow_17 rfl ?_
  refine V_lstore (pc := 18) (lo' := [(0, .ref (ad G 0)), (1, .ref (ad G (20 + 2 * q))), (2, .int fr), (3, .int n0), (4, .int (I 3 0)), (5, .int 1), (6, .int 0), (7, .long 0)]) dX11_proofOfRow_18 (by decide) rfl ?_
  refine V_iconst (pc := 20) (v := 0) dX11_proofOfRow_20 rfl ?_
  refine V_istore (pc := 21) (lo' := [(0, .ref (ad G 0)), (1, .ref (ad G (20 + 2 * q))), (2, .int fr), (3, .int n0), (4, .int (I 3 0)), (5, .int 1), (6, .int 0), (7, .long 0), (9, .int 0)]) dX11_proofOfRow_21 (by decide) rfl ?_
  exact l_X11_proofOfRow G X q fn fr n0 hw hq hfr h0 h32 hcl hR hB h0b (n0.toInt.toNat + 1) 0 0 (I 3 0) 1 0 0 (by omega) rfl (by rw [hB.2.1]; exact h38) ⟨by decide, by have := (hB.2.2.2 h0b).1; show (1 : Int) ≤ _; omega, by decide⟩ ⟨by decide, by decide⟩ MB_0 (by rw [hB.2.1]; rfl) (by omega)
