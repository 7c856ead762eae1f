theorem c_X12_isOutOfOrder' (G : vG) {n : Nat} {sh : vS} {I : vI} {L : vL} {R : vR} (car c : Int32) (A Cc : Int) (hw : WF n sh R) (hA : car.toInt = A) (hC : c.toInt = Cc) (h30 : 0 ≤ (I 27 30).toInt ∧ (I 27 30).toInt ≤ 8) (h8 : 0 ≤ car.toInt ∧ car.toInt < 8) (hc : 0 ≤ c.toInt ∧ c.toInt < 8) : CT G yX12_isOutOfOrder cX12_isOutOfOrder 7 (some .boolean) 0 0 0 [.ref (ad G 27), .int car, .int c] n sh I L R (PI n sh L R (fun I' o => I = I' ∧ rb o (ooo I A Cc))) := by
  subst hA hC
  exact c_X12_isOutOfOrder G car c hw h30 h8 hc
set_option maxRecDepth 100000 in
set_option maxHeartbeats 4000000 in
theorem c_X12_pointsAt (G : vG) {n : Nat} {sh : vS} {I : vI} {L : vL} {R : vR} (car c : Int32) (A Cc : Int) (hw : WF n sh R) (hv : PV I) (hA : car.toInt = A) (hC : c.toInt = Cc) (h8 : 0 ≤ car.toInt ∧ car.toInt < 8) (hc : 0 ≤ c.toInt ∧ c.toInt < (I 27 30).toInt) : CT G yX12_pointsAt cX12_pointsAt 7 (some .int) 2 0 0 [.ref (ad G 27), .int car, .int c] n sh I L R (PI n sh L R (fun I' o => I = I' ∧ ∃ v : Int32, o = some (.int v) ∧ (v.toInt = ptsF I A Cc ∧ 0 ≤ v.toInt ∧ v.toInt ≤ 300))) := by
  refine CT_of (own := RX12) (ini := false) (lo := [(0, .ref (ad G 27)), (1, .int car), (2, .int c)]) mf_X12_pointsAt (Nat.le_of_ble_eq_true rfl) rfl (fun h => by first | rfl | cases h) rfl ?_
  subst hA hC
  obtain ⟨h30, h27, h0e, hvv, hpl, hcks, htm, hst, hclk⟩ := id hv
  have hclk1 := hclk ((8 * car.toInt) + c.toInt).toNat
  refine V_aload_n (pc := 0) 0 dX12_pointsAt_0 rfl rfl ?_
  refine V_getR (pc := 1) (j := 48) fk_X12_71_12 (wR hw (i := 27) (k := 32) (j := 48) rfl) dX12_pointsAt_1 (wN hw (by decide)) (wS1 hw (by decide) rfl) ?_
  refine V_iload_n (pc := 4) 2 dX12_pointsAt_4 rfl rfl ?_
  refine V_za (pc := 5) (k := c.toInt.toNat) (v := (I 48 c.toInt.toNat)) rfl dX12_pointsAt_5 (wN hw (by decide)) (wS hw (by decide) rfl) (by omega) (by omega) ?_
  refine V_if_eq (pc := 6) (tgt := 11) dX12_pointsAt_6 (by decide) (fun c_6_1 => ?_) (fun c_6_1 => ?_)
  · have c_6_1 : (I 48 c.toInt.toNat).toInt = 0 := c_6_1
    refine V_aload_n (pc := 11) 0 dX12_pointsAt_11 rfl rfl ?_
    refine V_getR (pc := 12) (j := 53) fk_X12_86_12 (wR hw (i := 27) (k := 39) (j := 53) rfl) dX12_pointsAt_12 (wN hw (by decide)) (wS1 hw (by decide) rfl) ?_
    refine V_bipush (pc := 15) (v := 8) dX12_pointsAt_15 rfl ?_
    refine V_iload_n (pc := 17) 1 dX12_pointsAt_17 rfl rfl ?_
    refine V_imul (pc := 18) dX12_pointsAt_18 (fun x_18_2 e_18_2 => ?_)
    have t_18_2 : x_18_2.toInt = 8 * car.toInt := mulT e_18_2 rfl rfl (by omega) (by omega)
    refine V_iload_n (pc := 19) 2 dX12_pointsAt_19 rfl rfl ?_
    refine V_iadd (pc := 20) dX12_pointsAt_20 (fun x_20_3 e_20_3 => ?_)
    have t_20_3 : x_20_3.toInt = x_18_2.toInt + c.toInt := addT e_20_3 rfl rfl (by omega) (by omega)
    refine V_ia (pc := 21) (k := ((8 * car.toInt) + c.toInt).toNat) (v := (I 53 ((8 * car.toInt) + c.toInt).toNat)) rfl dX12_pointsAt_21 (wN hw (by decide)) (wS hw (by decide) rfl) (by omega) (by omega) ?_
    refine V_if_ne (pc := 22) (tgt := 29) dX12_pointsAt_22 (by decide) (fun c_22_4 => ?_) (fun c_22_4 => ?_)
    · have c_22_4 : (I 53 ((8 * car.toInt) + c.toInt).toNat).toInt ≠ 0 := c_22_4
      refine V_aload_n (pc := 29) 0 dX12_pointsAt_29 rfl rfl ?_
      refine V_iload_n (pc := 30) 1 dX12_pointsAt_30 rfl rfl ?_
      refine V_iload_n (pc := 31) 2 dX12_pointsAt_31 rfl rfl ?_
      refine V_callV (pc := 32) (As := [.int car, .int c]) (st := []) (c_X12_isOutOfOrder' G car c car.toInt c.toInt hw (by omega) (by omega) (by first | assumption | omega) (by omega) (by omega)) mf_X12_isOutOfOrder ml_X12_255 iv_X12_isOutOfOrder (wN hw (by decide)) (wS1 hw (by decide) rfl) (by decide) rfl dX12_pointsAt_32 rfl rfl (by omega) (by omega) (by omega) (Nat.le_of_ble_eq_true rfl) (fun r_32_5 n_32_5 sh_32_5 I_32_5 L_32_5 R_32_5 hq_32_5 => ?_)
      obtain ⟨rfl, rfl, rfl, rfl, rfl, hq_32_5⟩ := hq_32_5
      rcases hq_32_5 with ⟨c_32_5, rfl⟩ | ⟨c_32_5, rfl⟩
      · have c_32_5 : ooo I car.toInt c.toInt := c_32_5
        refine V_if_eq_f (pc := 35) (tgt := 41) dX12_pointsAt_35 (by decide) (by decide) ?_
        refine V_bipush (pc := 38) (v := 100) dX12_pointsAt_38 rfl ?_
        refine V_iret (pc := 40) rfl rfl dX12_pointsAt_40 (by omega) (by omega) ?_
        refine ⟨rfl, rfl, rfl, rfl, rfl, ?_⟩
        refine ⟨_, rfl, ?_⟩
        unfold ptsF
        rw [if_neg (by omega), if_neg (by omega), pIf_pos (by assumption)]
        decide
      · have c_32_5 : ¬ (ooo I car.toInt c.toInt) := c_32_5
        refine V_if_eq_t (pc := 35) (tgt := 41) dX12_pointsAt_35 (by decide) (by decide) ?_
        refine V_aload_n (pc := 41) 0 dX12_pointsAt_41 rfl rfl ?_
        refine V_iload_n (pc := 42) 1 dX12_pointsAt_42 rfl rfl ?_
        refine V_iload_n (pc := 43) 2 dX12_pointsAt_43 rfl rfl ?_
        refine V_callV (pc := 44) (As := [.int car, .int c]) (st := []) (c_X12_errorAt G car c hw (by assumption) (by omega) (by omega)) mf_X12_errorAt ml_X12_252 iv_X12_errorAt (wN hw (by decide)) (wS1 hw (by decide) rfl) (by decide) rfl dX12_pointsAt_44 rfl rfl (by omega) (by omega) (by omega) (Nat.le_of_ble_eq_true rfl) (fun r_44_6 n_44_6 sh_44_6 I_44_6 L_44_6 R_44_6 hq_44_6 => ?_)
        obtain ⟨rfl, rfl, rfl, rfl, rfl, v_44_6, rfl, hv_44_6⟩ := hq_44_6
        refine V_lstore_n (pc := 47) (lo' := [(0, .ref (ad G 27)), (1, .int car), (2, .int c), (3, .long v_44_6)]) dX12_pointsAt_47 rfl (by decide) rfl ?_
        refine V_lload_n (pc := 48) 3 dX12_pointsAt_48 rfl rfl ?_
        refine V_lconst (pc := 49) (v := 0) dX12_pointsAt_49 rfl ?_
        refine V_lcmp (pc := 50) dX12_pointsAt_50 (fun x_50_7 e_50_7 => ?_)
        refine V_if_ge (pc := 51) (tgt := 70) dX12_pointsAt_51 (by decide) (fun c_50_7 => ?_) (fun c_50_7 => ?_)
        · have c_50_7 : 0 ≤ v_44_6.toInt := (lcT_ge e_50_7).mp c_50_7
          refine V_lload_n (pc := 70) 3 dX12_pointsAt_70 rfl rfl ?_
          refine V_ldc2 (pc := 71) dX12_pointsAt_71 kk_X12_115 ?_
          refine V_ladd (pc := 74) dX12_pointsAt_74 (fun x_74_8 e_74_8 => ?_)
          have t_74_8 : x_74_8.toInt = v_44_6.toInt + 9 := laddT e_74_8 rfl rfl (by omega) (by omega)
          refine V_ldc2 (pc := 75) dX12_pointsAt_75 kk_X12_259 ?_
          refine V_ldiv (pc := 78) dX12_pointsAt_78 (by decide) (fun x_78_9 e_78_9 => ?_)
          have t_78_9 : x_78_9.toInt = x_74_8.toInt / 10 := ldivT e_78_9 rfl rfl (by omega) (by omega)
          refine V_lstore (pc := 79) (lo' := [(0, .ref (ad G 27)), (1, .int car), (2, .int c), (3, .long v_44_6), (5, .long x_78_9)]) dX12_pointsAt_79 (by decide) rfl ?_
          refine V_lload (pc := 81) 4 dX12_pointsAt_81 rfl ?_
          refine V_ldc2 (pc := 83) dX12_pointsAt_83 kk_X12_261 ?_
          refine V_lcmp (pc := 86) dX12_pointsAt_86 (fun x_86_10 e_86_10 => ?_)
          refine V_if_le (pc := 87) (tgt := 96) dX12_pointsAt_87 (by decide) (fun c_86_10 => ?_) (fun c_86_10 => ?_)
          · have c_86_10 : x_78_9.toInt ≤ 300 := (lcT_le e_86_10).mp c_86_10
            refine V_lload (pc := 96) 4 dX12_pointsAt_96 rfl ?_
            refine V_lstore (pc := 98) (lo' := [(0, .ref (ad G 27)), (1, .int car), (2, .int c), (3, .long v_44_6), (5, .long x_78_9)]) dX12_pointsAt_98 (by decide) rfl ?_
            refine V_aload_n (pc := 100) 0 dX12_pointsAt_100 rfl rfl ?_
            refine V_getR (pc := 101) (j := 52) fk_X12_83_12 (wR hw (i := 27) (k := 37) (j := 52) rfl) dX12_pointsAt_101 (wN hw (by decide)) (wS1 hw (by decide) rfl) ?_
            refine V_iload_n (pc := 104) 1 dX12_pointsAt_104 rfl rfl ?_
            refine V_ia (pc := 105) (k := car.toInt.toNat) (v := (I 52 car.toInt.toNat)) rfl dX12_pointsAt_105 (wN hw (by decide)) (wS hw (by decide) rfl) (by omega) (by omega) ?_
            refine V_if_le (pc := 106) (tgt := 118) dX12_pointsAt_106 (by decide) (fun c_106_11 => ?_) (fun c_106_11 => ?_)
            · have c_106_11 : (I 52 car.toInt.toNat).toInt ≤ 0 := c_106_11
              refine V_lload (pc := 118) 4 dX12_pointsAt_118 rfl ?_
              refine V_lstore (pc := 120) (lo' := [(0, .ref (ad G 27)), (1, .int car), (2, .int c), (3, .long v_44_6), (5, .long x_78_9)]) dX12_pointsAt_120 (by decide) rfl ?_
              refine V_aload_n (pc := 122) 0 dX12_pointsAt_122 rfl rfl ?_
              refine V_getR (pc := 123) (j := 52) fk_X12_83_12 (wR hw (i := 27) (k := 37) (j := 52) rfl) dX12_pointsAt_123 (wN hw (by decide)) (wS1 hw (by decide) rfl) ?_
              refine V_iload_n (pc := 126) 1 dX12_pointsAt_126 rfl rfl ?_
              refine V_ia (pc := 127) (k := car.toInt.toNat) (v := (I 52 car.toInt.toNat)) rfl dX12_pointsAt_127 (wN hw (by decide)) (wS hw (by decide) rfl) (by omega) (by omega) ?_
              refine V_iconst (pc := 128) (v := 2) dX12_pointsAt_128 rfl ?_
              refine V_icmp_ne (pc := 129) (tgt := 147) dX12_pointsAt_129 (by decide) (fun c_129_12 => ?_) (fun c_129_12 => ?_)
              · have c_129_12 : (I 52 car.toInt.toNat).toInt ≠ 2 := c_129_12
                refine V_lload (pc := 147) 4 dX12_pointsAt_147 rfl ?_
                refine V_l2i (pc := 149) dX12_pointsAt_149 (fun x_149_13 e_149_13 => ?_)
                have t_149_13 : x_149_13.toInt = x_78_9.toInt := l2iT e_149_13 rfl (by omega) (by omega)
                refine V_iret (pc := 150) rfl rfl dX12_pointsAt_150 (by omega) (by omega) ?_
                refine ⟨rfl, rfl, rfl, rfl, rfl, ?_⟩
                refine ⟨_, rfl, ?_⟩
                unfold ptsF
                rw [if_neg (by omega), if_neg (by omega), pIf_neg (by assumption), ← hv_44_6.1]
                unfold ptF
                (repeat' split) <;> omega
              · have c_129_12 : (I 52 car.toInt.toNat).toInt = 2 := c_129_12
                refine V_lload (pc := 132) 4 dX12_pointsAt_132 rfl ?_
                refine V_ldc2 (pc := 134) dX12_pointsAt_134 kk_X12_263 ?_
                refine V_lcmp (pc := 137) dX12_pointsAt_137 (fun x_137_14 e_137_14 => ?_)
                refine V_if_le (pc := 138) (tgt := 147) dX12_pointsAt_138 (by decide) (fun c_137_14 => ?_) (fun c_137_14 => ?_)
                · have c_137_14 : x_78_9.toInt ≤ 50 := (lcT_le e_137_14).mp c_137_14
                  refine V_lload (pc := 147) 4 dX12_pointsAt_147 rfl ?_
                  refine V_l2i (pc := 149) dX12_pointsAt_149 (fun x_149_15 e_149_15 => ?_)
                  have t_149_15 : x_149_15.toInt = x_78_9.toInt := l2iT e_149_15 rfl (by omega) (by omega)
                  refine V_iret (pc := 150) rfl rfl dX12_pointsAt_150 (by omega) (by omega) ?_
                  refine ⟨rfl, rfl, rfl, rfl, rfl, ?_⟩
                  refine ⟨_, rfl, ?_⟩
                  unfold ptsF
                  rw [if_neg (by omega), if_neg (by omega), pIf_neg (by assumption), ← hv_44_6.1]
                  unfold ptF
                  (repeat' split) <;> omega
                · have c_137_14 : 50 < x_78_9.toInt := (lcT_gt e_137_14).mp c_137_14
                  refine V_ldc2 (pc := 141) dX12_pointsAt_141 kk_X12_263 ?_
                  refine V_goto (pc := 144) (tgt := 149) dX12_pointsAt_144 (by decide) ?_
                  refine V_l2i (pc := 149) dX12_pointsAt_149 (fun x_149_16 e_149_16 => ?_)
                  have t_149_16 : x_149_16.toInt = 50 := l2iT e_149_16 rfl (by omega) (by omega)
                  refine V_iret (pc := 150) rfl rfl dX12_pointsAt_150 (by omega) (by omega) ?_
                  refine ⟨rfl, rfl, rfl, rfl, rfl, ?_⟩
                  refine ⟨_, rfl, ?_⟩
                  unfold ptsF
                  rw [if_neg (by omega), if_neg (by omega), pIf_neg (by assumption), ← hv_44_6.1]
                  unfold ptF
                  (repeat' split) <;> omega
            · have c_106_11 : 0 < (I 52 car.toInt.toNat).toInt := c_106_11
              refine V_lload (pc := 109) 4 dX12_pointsAt_109 rfl ?_
              refine V_ldc2 (pc := 111) dX12_pointsAt_111 kk_X12_123 ?_
              refine V_ldiv (pc := 114) dX12_pointsAt_114 (by decide) (fun x_114_17 e_114_17 => ?_)
              have t_114_17 : x_114_17.toInt = x_78_9.toInt / 2 := ldivT e_114_17 rfl rfl (by omega) (by omega)
              refine V_goto (pc := 115) (tgt := 120) dX12_pointsAt_115 (by decide) ?_
              refine V_lstore (pc := 120) (lo' := [(0, .ref (ad G 27)), (1, .int car), (2, .int c), (3, .long v_44_6), (5, .long x_114_17)]) dX12_pointsAt_120 (by decide) rfl ?_
              refine V_aload_n (pc := 122) 0 dX12_pointsAt_122 rfl rfl ?_
              refine V_getR (pc := 123) (j := 52) fk_X12_83_12 (wR hw (i := 27) (k := 37) (j := 52) rfl) dX12_pointsAt_123 (wN hw (by decide)) (wS1 hw (by decide) rfl) ?_
              refine V_iload_n (pc := 126) 1 dX12_pointsAt_126 rfl rfl ?_
              refine V_ia (pc := 127) (k := car.toInt.toNat) (v := (I 52 car.toInt.toNat)) rfl dX12_pointsAt_127 (wN hw (by decide)) (wS hw (by decide) rfl) (by omega) (by omega) ?_
              refine V_iconst (pc := 128) (v := 2) dX12_pointsAt_128 rfl ?_
              refine V_icmp_ne (pc := 129) (tgt := 147) dX12_pointsAt_129 (by decide) (fun c_129_18 => ?_) (fun c_129_18 => ?_)
              · have c_129_18 : (I 52 car.toInt.toNat).toInt ≠ 2 := c_129_18
                refine V_lload (pc := 147) 4 dX12_pointsAt_147 rfl ?_
                refine V_l2i (pc := 149) dX12_pointsAt_149 (fun x_149_19 e_149_19 => ?_)
                have t_149_19 : x_149_19.toInt = x_114_17.toInt := l2iT e_149_19 rfl (by omega) (by omega)
                refine V_iret (pc := 150) rfl rfl dX12_pointsAt_150 (by omega) (by omega) ?_
                refine ⟨rfl, rfl, rfl, rfl, rfl, ?_⟩
                refine ⟨_, rfl, ?_⟩
                unfold ptsF
                rw [if_neg (by omega), if_neg (by omega), pIf_neg (by assumption), ← hv_44_6.1]
                unfold ptF
                (repeat' split) <;> omega
              · have c_129_18 : (I 52 car.toInt.toNat).toInt = 2 := c_129_18
                refine V_lload (pc := 132) 4 dX12_pointsAt_132 rfl ?_
                refine V_ldc2 (pc := 134) dX12_pointsAt_134 kk_X12_263 ?_
                refine V_lcmp (pc := 137) dX12_pointsAt_137 (fun x_137_20 e_137_20 => ?_)
                refine V_if_le (pc := 138) (tgt := 147) dX12_pointsAt_138 (by decide) (fun c_137_20 => ?_) (fun c_137_20 => ?_)
                · have c_137_20 : x_114_17.toInt ≤ 50 := (lcT_le e_137_20).mp c_137_20
                  refine V_lload (pc := 147) 4 dX12_pointsAt_147 rfl ?_
                  refine V_l2i (pc := 149) dX12_pointsAt_149 (fun x_149_21 e_149_21 => ?_)
                  have t_149_21 : x_149_21.toInt = x_114_17.toInt := l2iT e_149_21 rfl (by omega) (by omega)
                  refine V_iret (pc := 150) rfl rfl dX12_pointsAt_150 (by omega) (by omega) ?_
                  refine ⟨rfl, rfl, rfl, rfl, rfl, ?_⟩
                  refine ⟨_, rfl, ?_⟩
                  unfold ptsF
                  rw [if_neg (by omega), if_neg (by omega), pIf_neg (by assumption), ← hv_44_6.1]
                  unfold ptF
                  (repeat' split) <;> omega
                · have c_137_20 : 50 < x_114_17.toInt := (lcT_gt e_137_20).mp c_137_20
                  refine V_ldc2 (pc := 141) dX12_pointsAt_141 kk_X12_263 ?_
                  refine V_goto (pc := 144) (tgt := 149) dX12_pointsAt_144 (by decide) ?_
                  refine V_l2i (pc := 149) dX12_pointsAt_149 (fun x_149_22 e_149_22 => ?_)
                  have t_149_22 : x_149_22.toInt = 50 := l2iT e_149_22 rfl (by omega) (by omega)
                  refine V_iret (pc := 150) rfl rfl dX12_pointsAt_150 (by omega) (by omega) ?_
                  refine ⟨rfl, rfl, rfl, rfl, rfl, ?_⟩
                  refine ⟨_, rfl, ?_⟩
                  unfold ptsF
                  rw [if_neg (by omega), if_neg (by omega), pIf_neg (by assumption), ← hv_44_6.1]
                  unfold ptF
                  (repeat' split) <;> omega
          · have c_86_10 : 300 < x_78_9.toInt := (lcT_gt e_86_10).mp c_86_10
            refine V_ldc2 (pc := 90) dX12_pointsAt_90 kk_X12_261 ?_
            refine V_goto (pc := 93) (tgt := 98) dX12_pointsAt_93 (by decide) ?_
            refine V_lstore (pc := 98) (lo' := [(0, .ref (ad G 27)), (1, .int car), (2, .int c), (3, .long v_44_6), (5, .long 300)]) dX12_pointsAt_98 (by decide) rfl ?_
            refine V_aload_n (pc := 100) 0 dX12_pointsAt_100 rfl rfl ?_
            refine V_getR (pc := 101) (j := 52) fk_X12_83_12 (wR hw (i := 27) (k := 37) (j := 52) rfl) dX12_pointsAt_101 (wN hw (by decide)) (wS1 hw (by decide) rfl) ?_
            refine V_iload_n (pc := 104) 1 dX12_pointsAt_104 rfl rfl ?_
            refine V_ia (pc := 105) (k := car.toInt.toNat) (v := (I 52 car.toInt.toNat)) rfl dX12_pointsAt_105 (wN hw (by decide)) (wS hw (by decide) rfl) (by omega) (by omega) ?_
            refine V_if_le (pc := 106) (tgt := 118) dX12_pointsAt_106 (by decide) (fun c_106_23 => ?_) (fun c_106_23 => ?_)
            · have c_106_23 : (I 52 car.toInt.toNat).toInt ≤ 0 := c_106_23
              refine V_lload (pc := 118) 4 dX12_pointsAt_118 rfl ?_
              refine V_lstore (pc := 120) (lo' := [(0, .ref (ad G 27)), (1, .int car), (2, .int c), (3, .long v_44_6), (5, .long 300)]) dX12_pointsAt_120 (by decide) rfl ?_
              refine V_aload_n (pc := 122) 0 dX12_pointsAt_122 rfl rfl ?_
              refine V_getR (pc := 123) (j := 52) fk_X12_83_12 (wR hw (i := 27) (k := 37) (j := 52) rfl) dX12_pointsAt_123 (wN hw (by decide)) (wS1 hw (by decide) rfl) ?_
              refine V_iload_n (pc := 126) 1 dX12_pointsAt_126 rfl rfl ?_
              refine V_ia (pc := 127) (k := car.toInt.toNat) (v := (I 52 car.toInt.toNat)) rfl dX12_pointsAt_127 (wN hw (by decide)) (wS hw (by decide) rfl) (by omega) (by omega) ?_
              refine V_iconst (pc := 128) (v := 2) dX12_pointsAt_128 rfl ?_
              refine V_icmp_ne (pc := 129) (tgt := 147) dX12_pointsAt_129 (by decide) (fun c_129_24 => ?_) (fun c_129_24 => ?_)
              · have c_129_24 : (I 52 car.toInt.toNat).toInt ≠ 2 := c_129_24
                refine V_lload (pc := 147) 4 dX12_pointsAt_147 rfl ?_
                refine V_l2i (pc := 149) dX12_pointsAt_149 (fun x_149_25 e_149_25 => ?_)
                have t_149_25 : x_149_25.toInt = 300 := l2iT e_149_25 rfl (by omega) (by omega)
                refine V_iret (pc := 150) rfl rfl dX12_pointsAt_150 (by omega) (by omega) ?_
                refine ⟨rfl, rfl, rfl, rfl, rfl, ?_⟩
                refine ⟨_, rfl, ?_⟩
                unfold ptsF
                rw [if_neg (by omega), if_neg (by omega), pIf_neg (by assumption), ← hv_44_6.1]
                unfold ptF
                (repeat' split) <;> omega
              · have c_129_24 : (I 52 car.toInt.toNat).toInt = 2 := c_129_24
                refine V_lload (pc := 132) 4 dX12_pointsAt_132 rfl ?_
                refine V_ldc2 (pc := 134) dX12_pointsAt_134 kk_X12_263 ?_
                refine V_lcmp (pc := 137) dX12_pointsAt_137 (fun x_137_26 e_137_26 => ?_)
                refine V_if_le (pc := 138) (tgt := 147) dX12_pointsAt_138 (by decide) (fun c_137_26 => ?_) (fun c_137_26 => ?_)
                · have c_137_26 : (300 : Int) ≤ (50 : Int) := (lcT_le e_137_26).mp c_137_26
                  refine V_lload (pc := 147) 4 dX12_pointsAt_147 rfl ?_
                  refine V_l2i (pc := 149) dX12_pointsAt_149 (fun x_149_27 e_149_27 => ?_)
                  have t_149_27 : x_149_27.toInt = 300 := l2iT e_149_27 rfl (by omega) (by omega)
                  refine V_iret (pc := 150) rfl rfl dX12_pointsAt_150 (by omega) (by omega) ?_
                  refine ⟨rfl, rfl, rfl, rfl, rfl, ?_⟩
                  refine ⟨_, rfl, ?_⟩
                  unfold ptsF
                  rw [if_neg (by omega), if_neg (by omega), pIf_neg (by assumption), ← hv_44_6.1]
                  unfold ptF
                  (repeat' split) <;> omega
                · have c_137_26 : (50 : Int) < (300 : Int) := (lcT_gt e_137_26).mp c_137_26
                  refine V_ldc2 (pc := 141) dX12_pointsAt_141 kk_X12_263 ?_
                  refine V_goto (pc := 144) (tgt := 149) dX12_pointsAt_144 (by decide) ?_
                  refine V_l2i (pc := 149) dX12_pointsAt_149 (fun x_149_28 e_149_28 => ?_)
                  have t_149_28 : x_149_28.toInt = 50 := l2iT e_149_28 rfl (by omega) (by omega)
                  refine V_iret (pc := 150) rfl rfl dX12_pointsAt_150 (by omega) (by omega) ?_
                  refine ⟨rfl, rfl, rfl, rfl, rfl, ?_⟩
                  refine ⟨_, rfl, ?_⟩
                  unfold ptsF
                  rw [if_neg (by omega), if_neg (by omega), pIf_neg (by assumption), ← hv_44_6.1]
                  unfold ptF
                  (repeat' split) <;> omega
            · have c_106_23 : 0 < (I 52 car.toInt.toNat).toInt := c_106_23
              refine V_lload (pc := 109) 4 dX12_pointsAt_109 rfl ?_
              refine V_ldc2 (pc := 111) dX12_pointsAt_111 kk_X12_123 ?_
              refine V_ldiv (pc := 114) dX12_pointsAt_114 (by decide) (fun x_114_29 e_114_29 => ?_)
              have t_114_29 : x_114_29.toInt = 300 / 2 := ldivT e_114_29 rfl rfl (by omega) (by omega)
              refine V_goto (pc := 115) (tgt := 120) dX12_pointsAt_115 (by decide) ?_
              refine V_lstore (pc := 120) (lo' := [(0, .ref (ad G 27)), (1, .int car), (2, .int c), (3, .long v_44_6), (5, .long x_114_29)]) dX12_pointsAt_120 (by decide) rfl ?_
              refine V_aload_n (pc := 122) 0 dX12_pointsAt_122 rfl rfl ?_
              refine V_getR (pc := 123) (j := 52) fk_X12_83_12 (wR hw (i := 27) (k := 37) (j := 52) rfl) dX12_pointsAt_123 (wN hw (by decide)) (wS1 hw (by decide) rfl) ?_
              refine V_iload_n (pc := 126) 1 dX12_pointsAt_126 rfl rfl ?_
              refine V_ia (pc := 127) (k := car.toInt.toNat) (v := (I 52 car.toInt.toNat)) rfl dX12_pointsAt_127 (wN hw (by decide)) (wS hw (by decide) rfl) (by omega) (by omega) ?_
              refine V_iconst (pc := 128) (v := 2) dX12_pointsAt_128 rfl ?_
              refine V_icmp_ne (pc := 129) (tgt := 147) dX12_pointsAt_129 (by decide) (fun c_129_30 => ?_) (fun c_129_30 => ?_)
              · have c_129_30 : (I 52 car.toInt.toNat).toInt ≠ 2 := c_129_30
                refine V_lload (pc := 147) 4 dX12_pointsAt_147 rfl ?_
                refine V_l2i (pc := 149) dX12_pointsAt_149 (fun x_149_31 e_149_31 => ?_)
                have t_149_31 : x_149_31.toInt = x_114_29.toInt := l2iT e_149_31 rfl (by omega) (by omega)
                refine V_iret (pc := 150) rfl rfl dX12_pointsAt_150 (by omega) (by omega) ?_
                refine ⟨rfl, rfl, rfl, rfl, rfl, ?_⟩
                refine ⟨_, rfl, ?_⟩
                unfold ptsF
                rw [if_neg (by omega), if_neg (by omega), pIf_neg (by assumption), ← hv_44_6.1]
                unfold ptF
                (repeat' split) <;> omega
              · have c_129_30 : (I 52 car.toInt.toNat).toInt = 2 := c_129_30
                refine V_lload (pc := 132) 4 dX12_pointsAt_132 rfl ?_
                refine V_ldc2 (pc := 134) dX12_pointsAt_134 kk_X12_263 ?_
                refine V_lcmp (pc := 137) dX12_pointsAt_137 (fun x_137_32 e_137_32 => ?_)
                refine V_if_le (pc := 138) (tgt := 147) dX12_pointsAt_138 (by decide) (fun c_137_32 => ?_) (fun c_137_32 => ?_)
                · have c_137_32 : x_114_29.toInt ≤ 50 := (lcT_le e_137_32).mp c_137_32
                  refine V_lload (pc := 147) 4 dX12_pointsAt_147 rfl ?_
                  refine V_l2i (pc := 149) dX12_pointsAt_149 (fun x_149_33 e_149_33 => ?_)
                  have t_149_33 : x_149_33.toInt = x_114_29.toInt := l2iT e_149_33 rfl (by omega) (by omega)
                  refine V_iret (pc := 150) rfl rfl dX12_pointsAt_150 (by omega) (by omega) ?_
                  refine ⟨rfl, rfl, rfl, rfl, rfl, ?_⟩
                  refine ⟨_, rfl, ?_⟩
                  unfold ptsF
                  rw [if_neg (by omega), if_neg (by omega), pIf_neg (by assumption), ← hv_44_6.1]
                  unfold ptF
                  (repeat' split) <;> omega
                · have c_137_32 : 50 < x_114_29.toInt := (lcT_gt e_137_32).mp c_137_32
                  refine V_ldc2 (pc := 141) dX12_pointsAt_141 kk_X12_263 ?_
                  refine V_goto (pc := 144) (tgt := 149) dX12_pointsAt_144 (by decide) ?_
                  refine V_l2i (pc := 149) dX12_pointsAt_149 (fun x_149_34 e_149_34 => ?_)
                  have t_149_34 : x_149_34.toInt = 50 := l2iT e_149_34 rfl (by omega) (by omega)
                  refine V_iret (pc := 150) rfl rfl dX12_pointsAt_150 (by omega) (by omega) ?_
                  refine ⟨rfl, rfl, rfl, rfl, rfl, ?_⟩
                  refine ⟨_, rfl, ?_⟩
                  unfold ptsF
                  rw [if_neg (by omega), if_neg (by omega), pIf_neg (by assumption), ← hv_44_6.1]
                  unfold ptF
                  (repeat' split) <;> omega
        · have c_50_7 : v_44_6.toInt < 0 := (lcT_lt e_50_7).mp c_50_7
          refine V_ldc2 (pc := 54) dX12_pointsAt_54 kk_X12_123 ?_
          refine V_ldc2 (pc := 57) dX12_pointsAt_57 kk_X12_115 ?_
          refine V_lload_n (pc := 60) 3 dX12_pointsAt_60 rfl rfl ?_
          refine V_lsub (pc := 61) dX12_pointsAt_61 (fun x_61_35 e_61_35 => ?_)
          have t_61_35 : x_61_35.toInt = 9 - v_44_6.toInt := lsubT e_61_35 rfl rfl (by omega) (by omega)
          refine V_ldc2 (pc := 62) dX12_pointsAt_62 kk_X12_259 ?_
          refine V_ldiv (pc := 65) dX12_pointsAt_65 (by decide) (fun x_65_36 e_65_36 => ?_)
          have t_65_36 : x_65_36.toInt = x_61_35.toInt / 10 := ldivT e_65_36 rfl rfl (by omega) (by omega)
          refine V_lmul (pc := 66) dX12_pointsAt_66 (fun x_66_37 e_66_37 => ?_)
          have t_66_37 : x_66_37.toInt = 2 * x_65_36.toInt := lmulT e_66_37 rfl rfl (by omega) (by omega)
          refine V_goto (pc := 67) (tgt := 79) dX12_pointsAt_67 (by decide) ?_
          refine V_lstore (pc := 79) (lo' := [(0, .ref (ad G 27)), (1, .int car), (2, .int c), (3, .long v_44_6), (5, .long x_66_37)]) dX12_pointsAt_79 (by decide) rfl ?_
          refine V_lload (pc := 81) 4 dX12_pointsAt_81 rfl ?_
          refine V_ldc2 (pc := 83) dX12_pointsAt_83 kk_X12_261 ?_
          refine V_lcmp (pc := 86) dX12_pointsAt_86 (fun x_86_38 e_86_38 => ?_)
          refine V_if_le (pc := 87) (tgt := 96) dX12_pointsAt_87 (by decide) (fun c_86_38 => ?_) (fun c_86_38 => ?_)
          · have c_86_38 : x_66_37.toInt ≤ 300 := (lcT_le e_86_38).mp c_86_38
            refine V_lload (pc := 96) 4 dX12_pointsAt_96 rfl ?_
            refine V_lstore (pc := 98) (lo' := [(0, .ref (ad G 27)), (1, .int car), (2, .int c), (3, .long v_44_6), (5, .long x_66_37)]) dX12_pointsAt_98 (by decide) rfl ?_
            refine V_aload_n (pc := 100) 0 dX12_pointsAt_100 rfl rfl ?_
            refine V_getR (pc := 101) (j := 52) fk_X12_83_12 (wR hw (i := 27) (k := 37) (j := 52) rfl) dX12_pointsAt_101 (wN hw (by decide)) (wS1 hw (by decide) rfl) ?_
            refine V_iload_n (pc := 104) 1 dX12_pointsAt_104 rfl rfl ?_
            refine V_ia (pc := 105) (k := car.toInt.toNat) (v := (I 52 car.toInt.toNat)) rfl dX12_pointsAt_105 (wN hw (by decide)) (wS hw (by decide) rfl) (by omega) (by omega) ?_
            refine V_if_le (pc := 106) (tgt := 118) dX12_pointsAt_106 (by decide) (fun c_106_39 => ?_) (fun c_106_39 => ?_)
            · have c_106_39 : (I 52 car.toInt.toNat).toInt ≤ 0 := c_106_39
              refine V_lload (pc := 118) 4 dX12_pointsAt_118 rfl ?_
              refine V_lstore (pc := 120) (lo' := [(0, .ref (ad G 27)), (1, .int car), (2, .int c), (3, .long v_44_6), (5, .long x_66_37)]) dX12_pointsAt_120 (by decide) rfl ?_
              refine V_aload_n (pc := 122) 0 dX12_pointsAt_122 rfl rfl ?_
              refine V_getR (pc := 123) (j := 52) fk_X12_83_12 (wR hw (i := 27) (k := 37) (j := 52) rfl) dX12_pointsAt_123 (wN hw (by decide)) (wS1 hw (by decide) rfl) ?_
              refine V_iload_n (pc := 126) 1 dX12_pointsAt_126 rfl rfl ?_
              refine V_ia (pc := 127) (k := car.toInt.toNat) (v := (I 52 car.toInt.toNat)) rfl dX12_pointsAt_127 (wN hw (by decide)) (wS hw (by decide) rfl) (by omega) (by omega) ?_
              refine V_iconst (pc := 128) (v := 2) dX12_pointsAt_128 rfl ?_
              refine V_icmp_ne (pc := 129) (tgt := 147) dX12_pointsAt_129 (by decide) (fun c_129_40 => ?_) (fun c_129_40 => ?_)
              · have c_129_40 : (I 52 car.toInt.toNat).toInt ≠ 2 := c_129_40
                refine V_lload (pc := 147) 4 dX12_pointsAt_147 rfl ?_
                refine V_l2i (pc := 149) dX12_pointsAt_149 (fun x_149_41 e_149_41 => ?_)
                have t_149_41 : x_149_41.toInt = x_66_37.toInt := l2iT e_149_41 rfl (by omega) (by omega)
                refine V_iret (pc := 150) rfl rfl dX12_pointsAt_150 (by omega) (by omega) ?_
                refine ⟨rfl, rfl, rfl, rfl, rfl, ?_⟩
                refine ⟨_, rfl, ?_⟩
                unfold ptsF
                rw [if_neg (by omega), if_neg (by omega), pIf_neg (by assumption), ← hv_44_6.1]
                unfold ptF
                (repeat' split) <;> omega
              · have c_129_40 : (I 52 car.toInt.toNat).toInt = 2 := c_129_40
                refine V_lload (pc := 132) 4 dX12_pointsAt_132 rfl ?_
                refine V_ldc2 (pc := 134) dX12_pointsAt_134 kk_X12_263 ?_
                refine V_lcmp (pc := 137) dX12_pointsAt_137 (fun x_137_42 e_137_42 => ?_)
                refine V_if_le (pc := 138) (tgt := 147) dX12_pointsAt_138 (by decide) (fun c_137_42 => ?_) (fun c_137_42 => ?_)
                · have c_137_42 : x_66_37.toInt ≤ 50 := (lcT_le e_137_42).mp c_137_42
                  refine V_lload (pc := 147) 4 dX12_pointsAt_147 rfl ?_
                  refine V_l2i (pc := 149) dX12_pointsAt_149 (fun x_149_43 e_149_43 => ?_)
                  have t_149_43 : x_149_43.toInt = x_66_37.toInt := l2iT e_149_43 rfl (by omega) (by omega)
                  refine V_iret (pc := 150) rfl rfl dX12_pointsAt_150 (by omega) (by omega) ?_
                  refine ⟨rfl, rfl, rfl, rfl, rfl, ?_⟩
                  refine ⟨_, rfl, ?_⟩
                  unfold ptsF
                  rw [if_neg (by omega), if_neg (by omega), pIf_neg (by assumption), ← hv_44_6.1]
                  unfold ptF
                  (repeat' split) <;> omega
                · have c_137_42 : 50 < x_66_37.toInt := (lcT_gt e_137_42).mp c_137_42
                  refine V_ldc2 (pc := 141) dX12_pointsAt_141 kk_X12_263 ?_
                  refine V_goto (pc := 144) (tgt := 149) dX12_pointsAt_144 (by decide) ?_
                  refine V_l2i (pc := 149) dX12_pointsAt_149 (fun x_149_44 e_149_44 => ?_)
                  have t_149_44 : x_149_44.toInt = 50 := l2iT e_149_44 rfl (by omega) (by omega)
                  refine V_iret (pc := 150) rfl rfl dX12_pointsAt_150 (by omega) (by omega) ?_
                  refine ⟨rfl, rfl, rfl, rfl, rfl, ?_⟩
                  refine ⟨_, rfl, ?_⟩
                  unfold ptsF
                  rw [if_neg (by omega), if_neg (by omega), pIf_neg (by assumption), ← hv_44_6.1]
                  unfold ptF
                  (repeat' split) <;> omega
            · have c_106_39 : 0 < (I 52 car.toInt.toNat).toInt := c_106_39
              refine V_lload (pc := 109) 4 dX12_pointsAt_109 rfl ?_
              refine V_ldc2 (pc := 111) dX12_pointsAt_111 kk_X12_123 ?_
              refine V_ldiv (pc := 114) dX12_pointsAt_114 (by decide) (fun x_114_45 e_114_45 => ?_)
              have t_114_45 : x_114_45.toInt = x_66_37.toInt / 2 := ldivT e_114_45 rfl rfl (by omega) (by omega)
              refine V_goto (pc := 115) (tgt := 120) dX12_pointsAt_115 (by decide) ?_
              refine V_lstore (pc := 120) (lo' := [(0, .ref (ad G 27)), (1, .int car), (2, .int c), (3, .long v_44_6), (5, .long x_114_45)]) dX12_pointsAt_120 (by decide) rfl ?_
              refine V_aload_n (pc := 122) 0 dX12_pointsAt_122 rfl rfl ?_
              refine V_getR (pc := 123) (j := 52) fk_X12_83_12 (wR hw (i := 27) (k := 37) (j := 52) rfl) dX12_pointsAt_123 (wN hw (by decide)) (wS1 hw (by decide) rfl) ?_
              refine V_iload_n (pc := 126) 1 dX12_pointsAt_126 rfl rfl ?_
              refine V_ia (pc := 127) (k := car.toInt.toNat) (v := (I 52 car.toInt.toNat)) rfl dX12_pointsAt_127 (wN hw (by decide)) (wS hw (by decide) rfl) (by omega) (by omega) ?_
              refine V_iconst (pc := 128) (v := 2) dX12_pointsAt_128 rfl ?_
              refine V_icmp_ne (pc := 129) (tgt := 147) dX12_pointsAt_129 (by decide) (fun c_129_46 => ?_) (fun c_129_46 => ?_)
              · have c_129_46 : (I 52 car.toInt.toNat).toInt ≠ 2 := c_129_46
                refine V_lload (pc := 147) 4 dX12_pointsAt_147 rfl ?_
                refine V_l2i (pc := 149) dX12_pointsAt_149 (fun x_149_47 e_149_47 => ?_)
                have t_149_47 : x_149_47.toInt = x_114_45.toInt := l2iT e_149_47 rfl (by omega) (by omega)
                refine V_iret (pc := 150) rfl rfl dX12_pointsAt_150 (by omega) (by omega) ?_
                refine ⟨rfl, rfl, rfl, rfl, rfl, ?_⟩
                refine ⟨_, rfl, ?_⟩
                unfold ptsF
                rw [if_neg (by omega), if_neg (by omega), pIf_neg (by assumption), ← hv_44_6.1]
                unfold ptF
                (repeat' split) <;> omega
              · have c_129_46 : (I 52 car.toInt.toNat).toInt = 2 := c_129_46
                refine V_lload (pc := 132) 4 dX12_pointsAt_132 rfl ?_
                refine V_ldc2 (pc := 134) dX12_pointsAt_134 kk_X12_263 ?_
                refine V_lcmp (pc := 137) dX12_pointsAt_137 (fun x_137_48 e_137_48 => ?_)
                refine V_if_le (pc := 138) (tgt := 147) dX12_pointsAt_138 (by decide) (fun c_137_48 => ?_) (fun c_137_48 => ?_)
                · have c_137_48 : x_114_45.toInt ≤ 50 := (lcT_le e_137_48).mp c_137_48
                  refine V_lload (pc := 147) 4 dX12_pointsAt_147 rfl ?_
                  refine V_l2i (pc := 149) dX12_pointsAt_149 (fun x_149_49 e_149_49 => ?_)
                  have t_149_49 : x_149_49.toInt = x_114_45.toInt := l2iT e_149_49 rfl (by omega) (by omega)
                  refine V_iret (pc := 150) rfl rfl dX12_pointsAt_150 (by omega) (by omega) ?_
                  refine ⟨rfl, rfl, rfl, rfl, rfl, ?_⟩
                  refine ⟨_, rfl, ?_⟩
                  unfold ptsF
                  rw [if_neg (by omega), if_neg (by omega), pIf_neg (by assumption), ← hv_44_6.1]
                  unfold ptF
                  (repeat' split) <;> omega
                · have c_137_48 : 50 < x_114_45.toInt := (lcT_gt e_137_48).mp c_137_48
                  refine V_ldc2 (pc := 141) dX12_pointsAt_141 kk_X12_263 ?_
                  refine V_goto (pc := 144) (tgt := 149) dX12_pointsAt_144 (by decide) ?_
                  refine V_l2i (pc := 149) dX12_pointsAt_149 (fun x_149_50 e_149_50 => ?_)
                  have t_149_50 : x_149_50.toInt = 50 := l2iT e_149_50 rfl (by omega) (by omega)
                  refine V_iret (pc := 150) rfl rfl dX12_pointsAt_150 (by omega) (by omega) ?_
                  refine ⟨rfl, rfl, rfl, rfl, rfl, ?_⟩
                  refine ⟨_, rfl, ?_⟩
                  unfold ptsF
                  rw [if_neg (by omega), if_neg (by omega), pIf_neg (by assumption), ← hv_44_6.1]
                  unfold ptF
                  (repeat' split) <;> omega
          · have c_86_38 : 300 < x_66_37.toInt := (lcT_gt e_86_38).mp c_86_38
            refine V_ldc2 (pc := 90) dX12_pointsAt_90 kk_X12_261 ?_
            refine V_goto (pc := 93) (tgt := 98) dX12_pointsAt_93 (by decide) ?_
            refine V_lstore (pc := 98) (lo' := [(0, .ref (ad G 27)), (1, .int car), (2, .int c), (3, .long v_44_6), (5, .long 300)]) dX12_pointsAt_98 (by decide) rfl ?_
            refine V_aload_n (pc := 100) 0 dX12_pointsAt_100 rfl rfl ?_
            refine V_getR (pc := 101) (j := 52) fk_X12_83_12 (wR hw (i := 27) (k := 37) (j := 52) rfl) dX12_pointsAt_101 (wN hw (by decide)) (wS1 hw (by decide) rfl) ?_
            refine V_iload_n (pc := 104) 1 dX12_pointsAt_104 rfl rfl ?_
            refine V_ia (pc := 105) (k := car.toInt.toNat) (v := (I 52 car.toInt.toNat)) rfl dX12_pointsAt_105 (wN hw (by decide)) (wS hw (by decide) rfl) (by omega) (by omega) ?_
            refine V_if_le (pc := 106) (tgt := 118) dX12_pointsAt_106 (by decide) (fun c_106_51 => ?_) (fun c_106_51 => ?_)
            · have c_106_51 : (I 52 car.toInt.toNat).toInt ≤ 0 := c_106_51
              refine V_lload (pc := 118) 4 dX12_pointsAt_118 rfl ?_
              refine V_lstore (pc := 120) (lo' := [(0, .ref (ad G 27)), (1, .int car), (2, .int c), (3, .long v_44_6), (5, .long 300)]) dX12_pointsAt_120 (by decide) rfl ?_
              refine V_aload_n (pc := 122) 0 dX12_pointsAt_122 rfl rfl ?_
              refine V_getR (pc := 123) (j := 52) fk_X12_83_12 (wR hw (i := 27) (k := 37) (j := 52) rfl) dX12_pointsAt_123 (wN hw (by decide)) (wS1 hw (by decide) rfl) ?_
              refine V_iload_n (pc := 126) 1 dX12_pointsAt_126 rfl rfl ?_
              refine V_ia (pc := 127) (k := car.toInt.toNat) (v := (I 52 car.toInt.toNat)) rfl dX12_pointsAt_127 (wN hw (by decide)) (wS hw (by decide) rfl) (by omega) (by omega) ?_
              refine V_iconst (pc := 128) (v := 2) dX12_pointsAt_128 rfl ?_
              refine V_icmp_ne (pc := 129) (tgt := 147) dX12_pointsAt_129 (by decide) (fun c_129_52 => ?_) (fun c_129_52 => ?_)
              · have c_129_52 : (I 52 car.toInt.toNat).toInt ≠ 2 := c_129_52
                refine V_lload (pc := 147) 4 dX12_pointsAt_147 rfl ?_
                refine V_l2i (pc := 149) dX12_pointsAt_149 (fun x_149_53 e_149_53 => ?_)
                have t_149_53 : x_149_53.toInt = 300 := l2iT e_149_53 rfl (by omega) (by omega)
                refine V_iret (pc := 150) rfl rfl dX12_pointsAt_150 (by omega) (by omega) ?_
                refine ⟨rfl, rfl, rfl, rfl, rfl, ?_⟩
                refine ⟨_, rfl, ?_⟩
                unfold ptsF
                rw [if_neg (by omega), if_neg (by omega), pIf_neg (by assumption), ← hv_44_6.1]
                unfold ptF
                (repeat' split) <;> omega
              · have c_129_52 : (I 52 car.toInt.toNat).toInt = 2 := c_129_52
                refine V_lload (pc := 132) 4 dX12_pointsAt_132 rfl ?_
                refine V_ldc2 (pc := 134) dX12_pointsAt_134 kk_X12_263 ?_
                refine V_lcmp (pc := 137) dX12_pointsAt_137 (fun x_137_54 e_137_54 => ?_)
                refine V_if_le (pc := 138) (tgt := 147) dX12_pointsAt_138 (by decide) (fun c_137_54 => ?_) (fun c_137_54 => ?_)
                · have c_137_54 : (300 : Int) ≤ (50 : Int) := (lcT_le e_137_54).mp c_137_54
                  refine V_lload (pc := 147) 4 dX12_pointsAt_147 rfl ?_
                  refine V_l2i (pc := 149) dX12_pointsAt_149 (fun x_149_55 e_149_55 => ?_)
                  have t_149_55 : x_149_55.toInt = 300 := l2iT e_149_55 rfl (by omega) (by omega)
                  refine V_iret (pc := 150) rfl rfl dX12_pointsAt_150 (by omega) (by omega) ?_
                  refine ⟨rfl, rfl, rfl, rfl, rfl, ?_⟩
                  refine ⟨_, rfl, ?_⟩
                  unfold ptsF
                  rw [if_neg (by omega), if_neg (by omega), pIf_neg (by assumption), ← hv_44_6.1]
                  unfold ptF
                  (repeat' split) <;> omega
                · have c_137_54 : (50 : Int) < (300 : Int) := (lcT_gt e_137_54).mp c_137_54
                  refine V_ldc2 (pc := 141) dX12_pointsAt_141 kk_X12_263 ?_
                  refine V_goto (pc := 144) (tgt := 149) dX12_pointsAt_144 (by decide) ?_
                  refine V_l2i (pc := 149) dX12_pointsAt_149 (fun x_149_56 e_149_56 => ?_)
                  have t_149_56 : x_149_56.toInt = 50 := l2iT e_149_56 rfl (by omega) (by omega)
                  refine V_iret (pc := 150) rfl rfl dX12_pointsAt_150 (by omega) (by omega) ?_
                  refine ⟨rfl, rfl, rfl, rfl, rfl, ?_⟩
                  refine ⟨_, rfl, ?_⟩
                  unfold ptsF
                  rw [if_neg (by omega), if_neg (by omega), pIf_neg (by assumption), ← hv_44_6.1]
                  unfold ptF
                  (repeat' split) <;> omega
            · have c_106_51 : 0 < (I 52 car.toInt.toNat).toInt := c_106_51
              refine V_lload (pc := 109) 4 dX12_pointsAt_109 rfl ?_
              refine V_ldc2 (pc := 111) dX12_pointsAt_111 kk_X12_123 ?_
              refine V_ldiv (pc := 114) dX12_pointsAt_114 (by decide) (fun x_114_57 e_114_57 => ?_)
              have t_114_57 : x_114_57.toInt = 300 / 2 := ldivT e_114_57 rfl rfl (by omega) (by omega)
              refine V_goto (pc := 115) (tgt := 120) dX12_pointsAt_115 (by decide) ?_
              refine V_lstore (pc := 120) (lo' := [(0, .ref (ad G 27)), (1, .int car), (2, .int c), (3, .long v_44_6), (5, .long x_114_57)]) dX12_pointsAt_120 (by decide) rfl ?_
              refine V_aload_n (pc := 122) 0 dX12_pointsAt_122 rfl rfl ?_
              refine V_getR (pc := 123) (j := 52) fk_X12_83_12 (wR hw (i := 27) (k := 37) (j := 52) rfl) dX12_pointsAt_123 (wN hw (by decide)) (wS1 hw (by decide) rfl) ?_
              refine V_iload_n (pc := 126) 1 dX12_pointsAt_126 rfl rfl ?_
              refine V_ia (pc := 127) (k := car.toInt.toNat) (v := (I 52 car.toInt.toNat)) rfl dX12_pointsAt_127 (wN hw (by decide)) (wS hw (by decide) rfl) (by omega) (by omega) ?_
              refine V_iconst (pc := 128) (v := 2) dX12_pointsAt_128 rfl ?_
              refine V_icmp_ne (pc := 129) (tgt := 147) dX12_pointsAt_129 (by decide) (fun c_129_58 => ?_) (fun c_129_58 => ?_)
              · have c_129_58 : (I 52 car.toInt.toNat).toInt ≠ 2 := c_129_58
                refine V_lload (pc := 147) 4 dX12_pointsAt_147 rfl ?_
                refine V_l2i (pc := 149) dX12_pointsAt_149 (fun x_149_59 e_149_59 => ?_)
                have t_149_59 : x_149_59.toInt = x_114_57.toInt := l2iT e_149_59 rfl (by omega) (by omega)
                refine V_iret (pc := 150) rfl rfl dX12_pointsAt_150 (by omega) (by omega) ?_
                refine ⟨rfl, rfl, rfl, rfl, rfl, ?_⟩
                refine ⟨_, rfl, ?_⟩
                unfold ptsF
                rw [if_neg (by omega), if_neg (by omega), pIf_neg (by assumption), ← hv_44_6.1]
                unfold ptF
                (repeat' split) <;> omega
              · have c_129_58 : (I 52 car.toInt.toNat).toInt = 2 := c_129_58
                refine V_lload (pc := 132) 4 dX12_pointsAt_132 rfl ?_
                refine V_ldc2 (pc := 134) dX12_pointsAt_134 kk_X12_263 ?_
                refine V_lcmp (pc := 137) dX12_pointsAt_137 (fun x_137_60 e_137_60 => ?_)
                refine V_if_le (pc := 138) (tgt := 147) dX12_pointsAt_138 (by decide) (fun c_137_60 => ?_) (fun c_137_60 => ?_)
                · have c_137_60 : x_114_57.toInt ≤ 50 := (lcT_le e_137_60).mp c_137_60
                  refine V_lload (pc := 147) 4 dX12_pointsAt_147 rfl ?_
                  refine V_l2i (pc := 149) dX12_pointsAt_149 (fun x_149_61 e_149_61 => ?_)
                  have t_149_61 : x_149_61.toInt = x_114_57.toInt := l2iT e_149_61 rfl (by omega) (by omega)
                  refine V_iret (pc := 150) rfl rfl dX12_pointsAt_150 (by omega) (by omega) ?_
                  refine ⟨rfl, rfl, rfl, rfl, rfl, ?_⟩
                  refine ⟨_, rfl, ?_⟩
                  unfold ptsF
                  rw [if_neg (by omega), if_neg (by omega), pIf_neg (by assumption), ← hv_44_6.1]
                  unfold ptF
                  (repeat' split) <;> omega
                · have c_137_60 : 50 < x_114_57.toInt := (lcT_gt e_137_60).mp c_137_60
                  refine V_ldc2 (pc := 141) dX12_pointsAt_141 kk_X12_263 ?_
                  refine V_goto (pc := 144) (tgt := 149) dX12_pointsAt_144 (by decide) ?_
                  refine V_l2i (pc := 149) dX12_pointsAt_149 (fun x_149_62 e_149_62 => ?_)
                  have t_149_62 : x_149_62.toInt = 50 := l2iT e_149_62 rfl (by omega) (by omega)
                  refine V_iret (pc := 150) rfl rfl dX12_pointsAt_150 (by omega) (by omega) ?_
                  refine ⟨rfl, rfl, rfl, rfl, rfl, ?_⟩
                  refine ⟨_, rfl, ?_⟩
                  unfold ptsF
                  rw [if_neg (by omega), if_neg (by omega), pIf_neg (by assumption), ← hv_44_6.1]
                  unfold ptF
                  (repeat' split) <;> omega
    · have c_22_4 : (I 53 ((8 * car.toInt) + c.toInt).toNat).toInt = 0 := c_22_4
      refine V_sipush (pc := 25) (v := 300) dX12_pointsAt_25 rfl ?_
      refine V_iret (pc := 28) rfl rfl dX12_pointsAt_28 (by omega) (by omega) ?_
      refine ⟨rfl, rfl, rfl, rfl, rfl, ?_⟩
      refine ⟨_, rfl, ?_⟩
      unfold ptsF
      rw [if_neg (by omega), if_pos (by omega)]
      decide
  · have c_6_1 : (I 48 c.toInt.toNat).toInt ≠ 0 := c_6_1
    refine V_iconst (pc := 9) (v := 0) dX12_pointsAt_9 rfl ?_
    refine V_iret (pc := 10) rfl rfl dX12_pointsAt_10 (by omega) (by omega) ?_
    refine ⟨rfl, rfl, rfl, rfl, rfl, ?_⟩
    refine ⟨_, rfl, ?_⟩
    unfold ptsF
    rw [if_pos (by omega)]
    decide
set_option maxRecDepth 100000 in
set_option maxHeartbeats 4000000 in
theorem c_X12_points (G : vG) {n : Nat} {sh : vS} {I : vI} {L : vL} {R : vR} (car c : Int32) (hw : WF n sh R) (h27 : 0 ≤ (I 27 27).toInt ∧ (I 27 27).toInt ≤ 8) (h30 : 0 ≤ (I 27 30).toInt ∧ (I 27 30).toInt ≤ 8) (h35 : 0 ≤ (I 27 35).toInt ∧ (I 27 35).toInt ≤ 8) (hpv : hasDueP I → PV I) : CT G yX12_points cX12_points 3 (some .int) 3 0 0 [.ref (ad G 27), .int car, .int c] n sh I L R (PI n sh L R (fun I' o => I = I' ∧ ∃ v : Int32, o = some (.int v) ∧ v.toInt = sPoints I car c)) := by
  refine CT_of (own := RX12) (ini := false) (lo := [(0, .ref (ad G 27)), (1, .int car), (2, .int c)]) mf_X12_points (Nat.le_of_ble_eq_true rfl) rfl (fun h => by first | rfl | cases h) rfl ?_
  refine V_aload_n (pc := 0) 0 dX12_points_0 rfl rfl ?_
  refine V_iload_n (pc := 1) 1 dX12_points_1 rfl rfl ?_
  refine V_callV (pc := 2) (As := [.int car]) (st := []) (c_X12_noCar G car hw h35.1) mf_X12_noCar ml_X12_243 iv_X12_noCar (wN hw (by decide)) (wS1 hw (by decide) rfl) (by decide) rfl dX12_points_2 rfl rfl (by omega) (by omega) (by omega) (Nat.le_of_ble_eq_true rfl) (fun r_2_1 n_2_1 sh_2_1 I_2_1 L_2_1 R_2_1 hq_2_1 => ?_)
  obtain ⟨rfl, rfl, rfl, rfl, rfl, hq_2_1⟩ := hq_2_1
  rcases hq_2_1 with ⟨c_2_1, rfl⟩ | ⟨c_2_1, rfl⟩
  · have c_2_1 : ¬ (0 ≤ car.toInt ∧ car.toInt < (I 27 35).toInt) := c_2_1
    refine V_if_ne_t (pc := 5) (tgt := 16) dX12_points_5 (by decide) (by decide) ?_
    refine V_iconst (pc := 16) (v := (-1)) dX12_points_16 rfl ?_
    refine V_iret (pc := 17) rfl rfl dX12_points_17 (by omega) (by omega) ?_
    refine ⟨rfl, rfl, rfl, rfl, rfl, ?_⟩
    refine ⟨_, rfl, ?_⟩
    unfold sPoints isCar isCtl
    rw [if_pos (by omega)]
    rfl
  · have c_2_1 : ¬ (¬ (0 ≤ car.toInt ∧ car.toInt < (I 27 35).toInt)) := c_2_1
    refine V_if_ne_f (pc := 5) (tgt := 16) dX12_points_5 (by decide) (by decide) ?_
    refine V_aload_n (pc := 8) 0 dX12_points_8 rfl rfl ?_
    refine V_iload_n (pc := 9) 2 dX12_points_9 rfl rfl ?_
    refine V_callV (pc := 10) (As := [.int c]) (st := []) (c_X12_noControl G c hw h30.1) mf_X12_noControl ml_X12_228 iv_X12_noControl (wN hw (by decide)) (wS1 hw (by decide) rfl) (by decide) rfl dX12_points_10 rfl rfl (by omega) (by omega) (by omega) (Nat.le_of_ble_eq_true rfl) (fun r_10_2 n_10_2 sh_10_2 I_10_2 L_10_2 R_10_2 hq_10_2 => ?_)
    obtain ⟨rfl, rfl, rfl, rfl, rfl, hq_10_2⟩ := hq_10_2
    rcases hq_10_2 with ⟨c_10_2, rfl⟩ | ⟨c_10_2, rfl⟩
    · have c_10_2 : ¬ (0 ≤ c.toInt ∧ c.toInt < (I 27 30).toInt) := c_10_2
      refine V_if_eq_f (pc := 13) (tgt := 18) dX12_points_13 (by decide) (by decide) ?_
      refine V_iconst (pc := 16) (v := (-1)) dX12_points_16 rfl ?_
      refine V_iret (pc := 17) rfl rfl dX12_points_17 (by omega) (by omega) ?_
      refine ⟨rfl, rfl, rfl, rfl, rfl, ?_⟩
      refine ⟨_, rfl, ?_⟩
      unfold sPoints isCar isCtl
      rw [if_pos (by omega)]
      rfl
    · have c_10_2 : ¬ (¬ (0 ≤ c.toInt ∧ c.toInt < (I 27 30).toInt)) := c_10_2
      refine V_if_eq_t (pc := 13) (tgt := 18) dX12_points_13 (by decide) (by decide) ?_
      refine V_aload_n (pc := 18) 0 dX12_points_18 rfl rfl ?_
      refine V_callV (pc := 19) (As := []) (st := []) (c_X12_hasDue G hw (by assumption)) mf_X12_hasDue ml_X12_220 iv_X12_hasDue (wN hw (by decide)) (wS1 hw (by decide) rfl) (by decide) rfl dX12_points_19 rfl rfl (by omega) (by omega) (by omega) (Nat.le_of_ble_eq_true rfl) (fun r_19_3 n_19_3 sh_19_3 I_19_3 L_19_3 R_19_3 hq_19_3 => ?_)
      obtain ⟨rfl, rfl, rfl, rfl, rfl, hq_19_3⟩ := hq_19_3
      rcases hq_19_3 with ⟨c_19_3, rfl⟩ | ⟨c_19_3, rfl⟩
      · have c_19_3 := c_19_3
        refine V_if_eq_f (pc := 22) (tgt := 34) dX12_points_22 (by decide) (by decide) ?_
        refine V_aload_n (pc := 25) 0 dX12_points_25 rfl rfl ?_
        refine V_iload_n (pc := 26) 1 dX12_points_26 rfl rfl ?_
        refine V_iload_n (pc := 27) 2 dX12_points_27 rfl rfl ?_
        refine V_callV (pc := 28) (As := [.int car, .int c]) (st := []) (c_X12_pointsAt G car c car.toInt c.toInt hw (hpv (by assumption)) rfl rfl (by omega) (by omega)) mf_X12_pointsAt ml_X12_265 iv_X12_pointsAt (wN hw (by decide)) (wS1 hw (by decide) rfl) (by decide) rfl dX12_points_28 rfl rfl (by omega) (by omega) (by omega) (Nat.le_of_ble_eq_true rfl) (fun r_28_4 n_28_4 sh_28_4 I_28_4 L_28_4 R_28_4 hq_28_4 => ?_)
        obtain ⟨rfl, rfl, rfl, rfl, rfl, v_28_4, rfl, hv_28_4⟩ := hq_28_4
        refine V_goto (pc := 31) (tgt := 36) dX12_points_31 (by decide) ?_
        refine V_iret (pc := 36) rfl rfl dX12_points_36 (by omega) (by omega) ?_
        refine ⟨rfl, rfl, rfl, rfl, rfl, ?_⟩
        refine ⟨_, rfl, ?_⟩
        unfold sPoints isCar isCtl
        rw [if_neg (by omega), pIf_pos (by assumption)]
        omega
      · have c_19_3 := c_19_3
        refine V_if_eq_t (pc := 22) (tgt := 34) dX12_points_22 (by decide) (by decide) ?_
        refine V_bipush (pc := 34) (v := (-3)) dX12_points_34 rfl ?_
        refine V_iret (pc := 36) rfl rfl dX12_points_36 (by omega) (by omega) ?_
        refine ⟨rfl, rfl, rfl, rfl, rfl, ?_⟩
        refine ⟨_, rfl, ?_⟩
        unfold sPoints isCar isCtl
        rw [if_neg (by omega), pIf_neg (by assumption)]
        rfl
set_option maxRecDepth 100000 in
set_option maxHeartbeats 4000000 in
theorem l_X12_totalOf (G : vG) {n : Nat} {sh : vS} {I : vI} {L : vL} {R : vR} (car : Int32) (A : Int) (hw : WF n sh R) (hv : PV I) (hA : car.toInt = A) (h30 : 0 ≤ (I 27 30).toInt ∧ (I 27 30).toInt ≤ 8) (h8 : 0 ≤ car.toInt ∧ car.toInt < 8) : ∀ (f m : Nat) (k : Int32) (a : Int32) (hm : (m : Int) ≤ (I 27 30).toInt) (hk : k.toInt = (m : Int)) (ha : a.toInt = totF I A m ∧ 0 ≤ a.toInt ∧ a.toInt ≤ 300 * (m : Int)) (hf : (I 27 30).toInt < (m : Int) + f), V G RX12 cX12_totalOf (some .int) false 3 0 0 4 (PI n sh L R (fun I' o => I = I' ∧ ∃ v : Int32, o = some (.int v) ∧ (v.toInt = totF I A (I 27 30).toInt.toNat ∧ 0 ≤ v.toInt ∧ v.toInt ≤ 2400))) 4 [(0, .ref (ad G 27)), (1, .int car), (2, .int a), (3, .int k)] [] 0 0 n sh I L R := by
  intro f
  induction f with
  | zero => intro m k a hm hk ha hf; omega
  | succ f ih =>
    intro m k a hm hk ha hf
    refine V_iload_n (pc := 4) 3 dX12_totalOf_4 rfl rfl ?_
    refine V_aload_n (pc := 5) 0 dX12_totalOf_5 rfl rfl ?_
    refine V_gI (pc := 6) (v := (I 27 30)) rfl fk_X12_199_12 dX12_totalOf_6 (wN hw (by decide)) (wS1 hw (by decide) rfl) ?_
    refine V_icmp_ge (pc := 9) (tgt := 27) dX12_totalOf_9 (by decide) (fun c_9_1 => ?_) (fun c_9_1 => ?_)
    · have c_9_1 : (I 27 30).toInt ≤ k.toInt := c_9_1
      refine V_iload_n (pc := 27) 2 dX12_totalOf_27 rfl rfl ?_
      refine V_iret (pc := 28) rfl rfl dX12_totalOf_28 (by omega) (by omega) ?_
      refine ⟨rfl, rfl, rfl, rfl, rfl, ?_⟩
      have e9 : (I 27 30).toInt.toNat = m := by omega
      rw [e9]
      exact ⟨_, rfl, by omega⟩
    · have c_9_1 : k.toInt < (I 27 30).toInt := c_9_1
      refine V_iload_n (pc := 12) 2 dX12_totalOf_12 rfl rfl ?_
      refine V_aload_n (pc := 13) 0 dX12_totalOf_13 rfl rfl ?_
      refine V_iload_n (pc := 14) 1 dX12_totalOf_14 rfl rfl ?_
      refine V_iload_n (pc := 15) 3 dX12_totalOf_15 rfl rfl ?_
      refine V_callV (pc := 16) (As := [.int car, .int k]) (st := [.int a]) (c_X12_pointsAt G car k A (m : Int) hw (by assumption) (by omega) (by omega) (by omega) (by omega)) mf_X12_pointsAt ml_X12_265 iv_X12_pointsAt (wN hw (by decide)) (wS1 hw (by decide) rfl) (by decide) rfl dX12_totalOf_16 rfl rfl (by omega) (by omega) (by omega) (Nat.le_of_ble_eq_true rfl) (fun r_16_2 n_16_2 sh_16_2 I_16_2 L_16_2 R_16_2 hq_16_2 => ?_)
      obtain ⟨rfl, rfl, rfl, rfl, rfl, v_16_2, rfl, hv_16_2⟩ := hq_16_2
      refine V_iadd (pc := 19) dX12_totalOf_19 (fun x_19_3 e_19_3 => ?_)
      have t_19_3 : x_19_3.toInt = a.toInt + v_16_2.toInt := addT e_19_3 rfl rfl (by omega) (by omega)
      refine V_istore_n (pc := 20) (lo' := [(0, .ref (ad G 27)), (1, .int car), (2, .int x_19_3), (3, .int k)]) dX12_totalOf_20 rfl (by decide) rfl ?_
      obtain ⟨x_21_4, e_21_4⟩ : ∃ y : Int32, y = k + (1) := ⟨_, rfl⟩
      have t_21_4 : x_21_4.toInt = k.toInt + 1 := addT e_21_4 rfl rfl (by omega) (by omega)
      refine V_iinc (pc := 21) (v := x_21_4) (lo' := [(0, .ref (ad G 27)), (1, .int car), (2, .int x_19_3), (3, .int x_21_4)]) 3 dX12_totalOf_21 rfl e_21_4.symm (by decide) rfl ?_
      refine V_goto (pc := 24) (tgt := 4) dX12_totalOf_24 (by decide) ?_
      exact ih (m + 1) x_21_4 x_19_3 (by omega) (by omega) (by unfold totF; omega) (by omega)
set_option maxRecDepth 100000 in
set_option maxHeartbeats 4000000 in
theorem c_X12_totalOf (G : vG) {n : Nat} {sh : vS} {I : vI} {L : vL} {R : vR} (car : Int32) (A : Int) (hw : WF n sh R) (hv : PV I) (hA : car.toInt = A) (h8 : 0 ≤ car.toInt ∧ car.toInt < 8) : CT G yX12_totalOf cX12_totalOf 4 (some .int) 3 0 0 [.ref (ad G 27), .int car] n sh I L R (PI n sh L R (fun I' o => I = I' ∧ ∃ v : Int32, o = some (.int v) ∧ (v.toInt = totF I A (I 27 30).toInt.toNat ∧ 0 ≤ v.toInt ∧ v.toInt ≤ 2400))) := by
  refine CT_of (own := RX12) (ini := false) (lo := [(0, .ref (ad G 27)), (1, .int car)]) mf_X12_totalOf (Nat.le_of_ble_eq_true rfl) rfl (fun h => by first | rfl | cases h) rfl ?_
  refine V_iconst (pc := 0) (v := 0) dX12_totalOf_0 rfl ?_
  refine V_istore_n (pc := 1) (lo' := [(0, .ref (ad G 27)), (1, .int car), (2, .int 0)]) dX12_totalOf_1 rfl (by decide) rfl ?_
  refine V_iconst (pc := 2) (v := 0) dX12_totalOf_2 rfl ?_
  refine V_istore_n (pc := 3) (lo' := [(0, .ref (ad G 27)), (1, .int car), (2, .int 0), (3, .int 0)]) dX12_totalOf_3 rfl (by decide) rfl ?_
  exact l_X12_totalOf G car A hw hv hA hv.1 h8 ((I 27 30).toInt.toNat + 1) 0 0 0 (by have := hv.1; omega) rfl ⟨rfl, by decide, by decide⟩ (by omega)
set_option maxRecDepth 100000 in
set_option maxHeartbeats 4000000 in
theorem l_X12_isBetter (G : vG) {n : Nat} {sh : vS} {I : vI} {L : vL} {R : vR} (a b ta tb : Int32) (A B : Int) (hw : WF n sh R) (hv : PV I) (hA : a.toInt = A) (hB : b.toInt = B) (h30 : 0 ≤ (I 27 30).toInt ∧ (I 27 30).toInt ≤ 8) (ha8 : 0 ≤ a.toInt ∧ a.toInt < 8) (hb8 : 0 ≤ b.toInt ∧ b.toInt < 8) (htt : totF I A (I 27 30).toInt.toNat = totF I B (I 27 30).toInt.toNat) : ∀ (f m : Nat) (k : Int32) (fi : Int32) (hm : (m : Int) ≤ (I 27 30).toInt) (hk : k.toInt = (m : Int)) (hfi : fi.toInt = fbF I A B m) (hf : (I 27 30).toInt < (m : Int) + f), V G RX12 cX12_isBetter (some .boolean) false 4 0 0 8 (PI n sh L R (fun I' o => I = I' ∧ rb o (betP I A B))) 37 [(0, .ref (ad G 27)), (1, .int a), (2, .int b), (3, .int ta), (4, .int tb), (5, .int fi), (6, .int k)] [] 0 0 n sh I L R := by
  intro f
  induction f with
  | zero => intro m k fi hm hk hfi hf; omega
  | succ f ih =>
    intro m k fi hm hk hfi hf
    have hfb := fbF_b I A B m
    rw [← hfi] at hfb
    refine V_iload (pc := 37) 6 dX12_isBetter_37 rfl ?_
    refine V_aload_n (pc := 39) 0 dX12_isBetter_39 rfl rfl ?_
    refine V_gI (pc := 40) (v := (I 27 30)) rfl fk_X12_199_12 dX12_isBetter_40 (wN hw (by decide)) (wS1 hw (by decide) rfl) ?_
    refine V_icmp_ge (pc := 43) (tgt := 112) dX12_isBetter_43 (by decide) (fun c_43_1 => ?_) (fun c_43_1 => ?_)
    · have c_43_1 : (I 27 30).toInt ≤ k.toInt := c_43_1
      refine V_iload (pc := 112) 5 dX12_isBetter_112 rfl ?_
      refine V_if_ge (pc := 114) (tgt := 130) dX12_isBetter_114 (by decide) (fun c_114_2 => ?_) (fun c_114_2 => ?_)
      · have c_114_2 : 0 ≤ fi.toInt := c_114_2
        refine V_aload_n (pc := 130) 0 dX12_isBetter_130 rfl rfl ?_
        refine V_iload_n (pc := 131) 1 dX12_isBetter_131 rfl rfl ?_
        refine V_iload (pc := 132) 5 dX12_isBetter_132 rfl ?_
        refine V_callV (pc := 134) (As := [.int a, .int fi]) (st := []) (c_X12_pointsAt G a fi A fi.toInt hw (by assumption) (by omega) (by omega) (by omega) (by omega)) mf_X12_pointsAt ml_X12_265 iv_X12_pointsAt (wN hw (by decide)) (wS1 hw (by decide) rfl) (by decide) rfl dX12_isBetter_134 rfl rfl (by omega) (by omega) (by omega) (Nat.le_of_ble_eq_true rfl) (fun r_134_3 n_134_3 sh_134_3 I_134_3 L_134_3 R_134_3 hq_134_3 => ?_)
        obtain ⟨rfl, rfl, rfl, rfl, rfl, v_134_3, rfl, hv_134_3⟩ := hq_134_3
        refine V_aload_n (pc := 137) 0 dX12_isBetter_137 rfl rfl ?_
        refine V_iload_n (pc := 138) 2 dX12_isBetter_138 rfl rfl ?_
        refine V_iload (pc := 139) 5 dX12_isBetter_139 rfl ?_
        refine V_callV (pc := 141) (As := [.int b, .int fi]) (st := [.int v_134_3]) (c_X12_pointsAt G b fi B fi.toInt hw (by assumption) (by omega) (by omega) (by omega) (by omega)) mf_X12_pointsAt ml_X12_265 iv_X12_pointsAt (wN hw (by decide)) (wS1 hw (by decide) rfl) (by decide) rfl dX12_isBetter_141 rfl rfl (by omega) (by omega) (by omega) (Nat.le_of_ble_eq_true rfl) (fun r_141_4 n_141_4 sh_141_4 I_141_4 L_141_4 R_141_4 hq_141_4 => ?_)
        obtain ⟨rfl, rfl, rfl, rfl, rfl, v_141_4, rfl, hv_141_4⟩ := hq_141_4
        refine V_icmp_ge (pc := 144) (tgt := 151) dX12_isBetter_144 (by decide) (fun c_144_5 => ?_) (fun c_144_5 => ?_)
        · have c_144_5 : v_141_4.toInt ≤ v_134_3.toInt := c_144_5
          refine V_iconst (pc := 151) (v := 0) dX12_isBetter_151 rfl ?_
          refine V_iret (pc := 152) rfl rfl dX12_isBetter_152 (by omega) (by omega) ?_
          refine ⟨rfl, rfl, rfl, rfl, rfl, ?_⟩
          have e9 : (I 27 30).toInt.toNat = m := by omega
          rw [← e9] at hfi
          refine Or.inr ⟨?_, rfl⟩
          rintro (z | ⟨-, ⟨z1, z2⟩ | ⟨z1, z2⟩⟩)
          · omega
          · omega
          · first | omega | (rw [← hfi] at z2; omega)
        · have c_144_5 : v_134_3.toInt < v_141_4.toInt := c_144_5
          refine V_iconst (pc := 147) (v := 1) dX12_isBetter_147 rfl ?_
          refine V_goto (pc := 148) (tgt := 152) dX12_isBetter_148 (by decide) ?_
          refine V_iret (pc := 152) rfl rfl dX12_isBetter_152 (by omega) (by omega) ?_
          refine ⟨rfl, rfl, rfl, rfl, rfl, ?_⟩
          have e9 : (I 27 30).toInt.toNat = m := by omega
          rw [← e9] at hfi
          refine Or.inl ⟨Or.inr ⟨by omega, ?_⟩, rfl⟩
          first | exact Or.inl ⟨by omega, by omega⟩ | exact Or.inr ⟨by omega, by rw [← hfi]; omega⟩
      · have c_114_2 : fi.toInt < 0 := c_114_2
        refine V_iload_n (pc := 117) 1 dX12_isBetter_117 rfl rfl ?_
        refine V_iload_n (pc := 118) 2 dX12_isBetter_118 rfl rfl ?_
        refine V_icmp_ge (pc := 119) (tgt := 126) dX12_isBetter_119 (by decide) (fun c_119_6 => ?_) (fun c_119_6 => ?_)
        · have c_119_6 : b.toInt ≤ a.toInt := c_119_6
          refine V_iconst (pc := 126) (v := 0) dX12_isBetter_126 rfl ?_
          refine V_goto (pc := 127) (tgt := 152) dX12_isBetter_127 (by decide) ?_
          refine V_iret (pc := 152) rfl rfl dX12_isBetter_152 (by omega) (by omega) ?_
          refine ⟨rfl, rfl, rfl, rfl, rfl, ?_⟩
          have e9 : (I 27 30).toInt.toNat = m := by omega
          rw [← e9] at hfi
          refine Or.inr ⟨?_, rfl⟩
          rintro (z | ⟨-, ⟨z1, z2⟩ | ⟨z1, z2⟩⟩)
          · omega
          · omega
          · first | omega | (rw [← hfi] at z2; omega)
        · have c_119_6 : a.toInt < b.toInt := c_119_6
          refine V_iconst (pc := 122) (v := 1) dX12_isBetter_122 rfl ?_
          refine V_goto (pc := 123) (tgt := 152) dX12_isBetter_123 (by decide) ?_
          refine V_iret (pc := 152) rfl rfl dX12_isBetter_152 (by omega) (by omega) ?_
          refine ⟨rfl, rfl, rfl, rfl, rfl, ?_⟩
          have e9 : (I 27 30).toInt.toNat = m := by omega
          rw [← e9] at hfi
          refine Or.inl ⟨Or.inr ⟨by omega, ?_⟩, rfl⟩
          first | exact Or.inl ⟨by omega, by omega⟩ | exact Or.inr ⟨by omega, by rw [← hfi]; omega⟩
    · have c_43_1 : k.toInt < (I 27 30).toInt := c_43_1
      refine V_aload_n (pc := 46) 0 dX12_isBetter_46 rfl rfl ?_
      refine V_iload_n (pc := 47) 1 dX12_isBetter_47 rfl rfl ?_
      refine V_iload (pc := 48) 6 dX12_isBetter_48 rfl ?_
      refine V_callV (pc := 50) (As := [.int a, .int k]) (st := []) (c_X12_pointsAt G a k A (m : Int) hw (by assumption) (by omega) (by omega) (by omega) (by omega)) mf_X12_pointsAt ml_X12_265 iv_X12_pointsAt (wN hw (by decide)) (wS1 hw (by decide) rfl) (by decide) rfl dX12_isBetter_50 rfl rfl (by omega) (by omega) (by omega) (Nat.le_of_ble_eq_true rfl) (fun r_50_7 n_50_7 sh_50_7 I_50_7 L_50_7 R_50_7 hq_50_7 => ?_)
      obtain ⟨rfl, rfl, rfl, rfl, rfl, v_50_7, rfl, hv_50_7⟩ := hq_50_7
      refine V_aload_n (pc := 53) 0 dX12_isBetter_53 rfl rfl ?_
      refine V_iload_n (pc := 54) 2 dX12_isBetter_54 rfl rfl ?_
      refine V_iload (pc := 55) 6 dX12_isBetter_55 rfl ?_
      refine V_callV (pc := 57) (As := [.int b, .int k]) (st := [.int v_50_7]) (c_X12_pointsAt G b k B (m : Int) hw (by assumption) (by omega) (by omega) (by omega) (by omega)) mf_X12_pointsAt ml_X12_265 iv_X12_pointsAt (wN hw (by decide)) (wS1 hw (by decide) rfl) (by decide) rfl dX12_isBetter_57 rfl rfl (by omega) (by omega) (by omega) (Nat.le_of_ble_eq_true rfl) (fun r_57_8 n_57_8 sh_57_8 I_57_8 L_57_8 R_57_8 hq_57_8 => ?_)
      obtain ⟨rfl, rfl, rfl, rfl, rfl, v_57_8, rfl, hv_57_8⟩ := hq_57_8
      refine V_icmp_eq (pc := 60) (tgt := 67) dX12_isBetter_60 (by decide) (fun c_60_9 => ?_) (fun c_60_9 => ?_)
      · have c_60_9 : v_50_7.toInt = v_57_8.toInt := c_60_9
        refine V_iconst (pc := 67) (v := 0) dX12_isBetter_67 rfl ?_
        refine V_istore (pc := 68) (lo' := [(0, .ref (ad G 27)), (1, .int a), (2, .int b), (3, .int ta), (4, .int tb), (5, .int fi), (6, .int k), (7, .int 0)]) dX12_isBetter_68 (by decide) rfl ?_
        refine V_iload (pc := 70) 7 dX12_isBetter_70 rfl ?_
        refine V_if_eq_t (pc := 72) (tgt := 102) dX12_isBetter_72 (by decide) (by decide) ?_
        refine V_iload (pc := 102) 5 dX12_isBetter_102 rfl ?_
        refine V_istore (pc := 104) (lo' := [(0, .ref (ad G 27)), (1, .int a), (2, .int b), (3, .int ta), (4, .int tb), (5, .int fi), (6, .int k), (7, .int 0)]) dX12_isBetter_104 (by decide) rfl ?_
        obtain ⟨x_106_10, e_106_10⟩ : ∃ y : Int32, y = k + (1) := ⟨_, rfl⟩
        have t_106_10 : x_106_10.toInt = k.toInt + 1 := addT e_106_10 rfl rfl (by omega) (by omega)
        refine V_iinc (pc := 106) (v := x_106_10) (lo' := [(0, .ref (ad G 27)), (1, .int a), (2, .int b), (3, .int ta), (4, .int tb), (5, .int fi), (6, .int x_106_10), (7, .int 0)]) 6 dX12_isBetter_106 rfl e_106_10.symm (by decide) rfl ?_
        refine V_goto (pc := 109) (tgt := 37) dX12_isBetter_109 (by decide) ?_
        refine V_lo (pc := 37) (lo' := [(0, .ref (ad G 27)), (1, .int a), (2, .int b), (3, .int ta), (4, .int tb), (5, .int fi), (6, .int x_106_10)]) [0, 1, 2, 3, 4, 5, 6] rfl ?_
        exact ih (m + 1) x_106_10 fi (by omega) (by omega) (by unfold fbF; first | (rw [pIf_pos ⟨by omega, by rw [← hfi]; omega⟩]; omega) | (rw [pIf_neg (fun z => by rw [← hfi] at z; omega)]; omega)) (by omega)
      · have c_60_9 : v_50_7.toInt ≠ v_57_8.toInt := c_60_9
        refine V_iconst (pc := 63) (v := 1) dX12_isBetter_63 rfl ?_
        refine V_goto (pc := 64) (tgt := 68) dX12_isBetter_64 (by decide) ?_
        refine V_istore (pc := 68) (lo' := [(0, .ref (ad G 27)), (1, .int a), (2, .int b), (3, .int ta), (4, .int tb), (5, .int fi), (6, .int k), (7, .int 1)]) dX12_isBetter_68 (by decide) rfl ?_
        refine V_iload (pc := 70) 7 dX12_isBetter_70 rfl ?_
        refine V_if_eq_f (pc := 72) (tgt := 102) dX12_isBetter_72 (by decide) (by decide) ?_
        refine V_iload (pc := 75) 5 dX12_isBetter_75 rfl ?_
        refine V_if_lt (pc := 77) (tgt := 97) dX12_isBetter_77 (by decide) (fun c_77_11 => ?_) (fun c_77_11 => ?_)
        · have c_77_11 : fi.toInt < 0 := c_77_11
          refine V_iload (pc := 97) 6 dX12_isBetter_97 rfl ?_
          refine V_goto (pc := 99) (tgt := 104) dX12_isBetter_99 (by decide) ?_
          refine V_istore (pc := 104) (lo' := [(0, .ref (ad G 27)), (1, .int a), (2, .int b), (3, .int ta), (4, .int tb), (5, .int k), (6, .int k), (7, .int 1)]) dX12_isBetter_104 (by decide) rfl ?_
          obtain ⟨x_106_12, e_106_12⟩ : ∃ y : Int32, y = k + (1) := ⟨_, rfl⟩
          have t_106_12 : x_106_12.toInt = k.toInt + 1 := addT e_106_12 rfl rfl (by omega) (by omega)
          refine V_iinc (pc := 106) (v := x_106_12) (lo' := [(0, .ref (ad G 27)), (1, .int a), (2, .int b), (3, .int ta), (4, .int tb), (5, .int k), (6, .int x_106_12), (7, .int 1)]) 6 dX12_isBetter_106 rfl e_106_12.symm (by decide) rfl ?_
          refine V_goto (pc := 109) (tgt := 37) dX12_isBetter_109 (by decide) ?_
          refine V_lo (pc := 37) (lo' := [(0, .ref (ad G 27)), (1, .int a), (2, .int b), (3, .int ta), (4, .int tb), (5, .int k), (6, .int x_106_12)]) [0, 1, 2, 3, 4, 5, 6] rfl ?_
          exact ih (m + 1) x_106_12 k (by omega) (by omega) (by unfold fbF; first | (rw [pIf_pos ⟨by omega, by rw [← hfi]; omega⟩]; omega) | (rw [pIf_neg (fun z => by rw [← hfi] at z; omega)]; omega)) (by omega)
        · have c_77_11 : 0 ≤ fi.toInt := c_77_11
          refine V_aload_n (pc := 80) 0 dX12_isBetter_80 rfl rfl ?_
          refine V_getR (pc := 81) (j := 47) fk_X12_68_12 (wR hw (i := 27) (k := 31) (j := 47) rfl) dX12_isBetter_81 (wN hw (by decide)) (wS1 hw (by decide) rfl) ?_
          refine V_iload (pc := 84) 6 dX12_isBetter_84 rfl ?_
          refine V_ia (pc := 86) (k := m) (v := (I 47 m)) rfl dX12_isBetter_86 (wN hw (by decide)) (wS hw (by decide) rfl) hk (by omega) ?_
          refine V_aload_n (pc := 87) 0 dX12_isBetter_87 rfl rfl ?_
          refine V_getR (pc := 88) (j := 47) fk_X12_68_12 (wR hw (i := 27) (k := 31) (j := 47) rfl) dX12_isBetter_88 (wN hw (by decide)) (wS1 hw (by decide) rfl) ?_
          refine V_iload (pc := 91) 5 dX12_isBetter_91 rfl ?_
          refine V_ia (pc := 93) (k := fi.toInt.toNat) (v := (I 47 fi.toInt.toNat)) rfl dX12_isBetter_93 (wN hw (by decide)) (wS hw (by decide) rfl) (by omega) (by omega) ?_
          refine V_icmp_ge (pc := 94) (tgt := 102) dX12_isBetter_94 (by decide) (fun c_94_13 => ?_) (fun c_94_13 => ?_)
          · have c_94_13 : (I 47 fi.toInt.toNat).toInt ≤ (I 47 m).toInt := c_94_13
            refine V_iload (pc := 102) 5 dX12_isBetter_102 rfl ?_
            refine V_istore (pc := 104) (lo' := [(0, .ref (ad G 27)), (1, .int a), (2, .int b), (3, .int ta), (4, .int tb), (5, .int fi), (6, .int k), (7, .int 1)]) dX12_isBetter_104 (by decide) rfl ?_
            obtain ⟨x_106_14, e_106_14⟩ : ∃ y : Int32, y = k + (1) := ⟨_, rfl⟩
            have t_106_14 : x_106_14.toInt = k.toInt + 1 := addT e_106_14 rfl rfl (by omega) (by omega)
            refine V_iinc (pc := 106) (v := x_106_14) (lo' := [(0, .ref (ad G 27)), (1, .int a), (2, .int b), (3, .int ta), (4, .int tb), (5, .int fi), (6, .int x_106_14), (7, .int 1)]) 6 dX12_isBetter_106 rfl e_106_14.symm (by decide) rfl ?_
            refine V_goto (pc := 109) (tgt := 37) dX12_isBetter_109 (by decide) ?_
            refine V_lo (pc := 37) (lo' := [(0, .ref (ad G 27)), (1, .int a), (2, .int b), (3, .int ta), (4, .int tb), (5, .int fi), (6, .int x_106_14)]) [0, 1, 2, 3, 4, 5, 6] rfl ?_
            exact ih (m + 1) x_106_14 fi (by omega) (by omega) (by unfold fbF; first | (rw [pIf_pos ⟨by omega, by rw [← hfi]; omega⟩]; omega) | (rw [pIf_neg (fun z => by rw [← hfi] at z; omega)]; omega)) (by omega)
          · have c_94_13 : (I 47 m).toInt < (I 47 fi.toInt.toNat).toInt := c_94_13
            refine V_iload (pc := 97) 6 dX12_isBetter_97 rfl ?_
            refine V_goto (pc := 99) (tgt := 104) dX12_isBetter_99 (by decide) ?_
            refine V_istore (pc := 104) (lo' := [(0, .ref (ad G 27)), (1, .int a), (2, .int b), (3, .int ta), (4, .int tb), (5, .int k), (6, .int k), (7, .int 1)]) dX12_isBetter_104 (by decide) rfl ?_
            obtain ⟨x_106_15, e_106_15⟩ : ∃ y : Int32, y = k + (1) := ⟨_, rfl⟩
            have t_106_15 : x_106_15.toInt = k.toInt + 1 := addT e_106_15 rfl rfl (by omega) (by omega)
            refine V_iinc (pc := 106) (v := x_106_15) (lo' := [(0, .ref (ad G 27)), (1, .int a), (2, .int b), (3, .int ta), (4, .int tb), (5, .int k), (6, .int x_106_15), (7, .int 1)]) 6 dX12_isBetter_106 rfl e_106_15.symm (by decide) rfl ?_
            refine V_goto (pc := 109) (tgt := 37) dX12_isBetter_109 (by decide) ?_
            refine V_lo (pc := 37) (lo' := [(0, .ref (ad G 27)), (1, .int a), (2, .int b), (3, .int ta), (4, .int tb), (5, .int k), (6, .int x_106_15)]) [0, 1, 2, 3, 4, 5, 6] rfl ?_
            exact ih (m + 1) x_106_15 k (by omega) (by omega) (by unfold fbF; first | (rw [pIf_pos ⟨by omega, by rw [← hfi]; omega⟩]; omega) | (rw [pIf_neg (fun z => by rw [← hfi] at z; omega)]; omega)) (by omega)
set_option maxRecDepth 100000 in
set_option maxHeartbeats 4000000 in
theorem c_X12_isBetter (G : vG) {n : Nat} {sh : vS} {I : vI} {L : vL} {R : vR} (a b : Int32) (A B : Int) (hw : WF n sh R) (hv : PV I) (hA : a.toInt = A) (hB : b.toInt = B) (ha8 : 0 ≤ a.toInt ∧ a.toInt < 8) (hb8 : 0 ≤ b.toInt ∧ b.toInt < 8) : CT G yX12_isBetter cX12_isBetter 8 (some .boolean) 4 0 0 [.ref (ad G 27), .int a, .int b] n sh I L R (PI n sh L R (fun I' o => I = I' ∧ rb o (betP I A B))) := by
  refine CT_of (own := RX12) (ini := false) (lo := [(0, .ref (ad G 27)), (1, .int a), (2, .int b)]) mf_X12_isBetter (Nat.le_of_ble_eq_true rfl) rfl (fun h => by first | rfl | cases h) rfl ?_
  have h30 := hv.1
  refine V_aload_n (pc := 0) 0 dX12_isBetter_0 rfl rfl ?_
  refine V_iload_n (pc := 1) 1 dX12_isBetter_1 rfl rfl ?_
  refine V_callV (pc := 2) (As := [.int a]) (st := []) (c_X12_totalOf G a A hw (by assumption) (by omega) (by omega)) mf_X12_totalOf ml_X12_268 iv_X12_totalOf (wN hw (by decide)) (wS1 hw (by decide) rfl) (by decide) rfl dX12_isBetter_2 rfl rfl (by omega) (by omega) (by omega) (Nat.le_of_ble_eq_true rfl) (fun r_2_1 n_2_1 sh_2_1 I_2_1 L_2_1 R_2_1 hq_2_1 => ?_)
  obtain ⟨rfl, rfl, rfl, rfl, rfl, v_2_1, rfl, hv_2_1⟩ := hq_2_1
  refine V_istore_n (pc := 5) (lo' := [(0, .ref (ad G 27)), (1, .int a), (2, .int b), (3, .int v_2_1)]) dX12_isBetter_5 rfl (by decide) rfl ?_
  refine V_aload_n (pc := 6) 0 dX12_isBetter_6 rfl rfl ?_
  refine V_iload_n (pc := 7) 2 dX12_isBetter_7 rfl rfl ?_
  refine V_callV (pc := 8) (As := [.int b]) (st := []) (c_X12_totalOf G b B hw (by assumption) (by omega) (by omega)) mf_X12_totalOf ml_X12_268 iv_X12_totalOf (wN hw (by decide)) (wS1 hw (by decide) rfl) (by decide) rfl dX12_isBetter_8 rfl rfl (by omega) (by omega) (by omega) (Nat.le_of_ble_eq_true rfl) (fun r_8_2 n_8_2 sh_8_2 I_8_2 L_8_2 R_8_2 hq_8_2 => ?_)
  obtain ⟨rfl, rfl, rfl, rfl, rfl, v_8_2, rfl, hv_8_2⟩ := hq_8_2
  refine V_istore (pc := 11) (lo' := [(0, .ref (ad G 27)), (1, .int a), (2, .int b), (3, .int v_2_1), (4, .int v_8_2)]) dX12_isBetter_11 (by decide) rfl ?_
  refine V_iload_n (pc := 13) 3 dX12_isBetter_13 rfl rfl ?_
  refine V_iload (pc := 14) 4 dX12_isBetter_14 rfl ?_
  refine V_icmp_eq (pc := 16) (tgt := 31) dX12_isBetter_16 (by decide) (fun c_16_3 => ?_) (fun c_16_3 => ?_)
  · have c_16_3 : v_2_1.toInt = v_8_2.toInt := c_16_3
    refine V_iconst (pc := 31) (v := (-1)) dX12_isBetter_31 rfl ?_
    refine V_istore (pc := 32) (lo' := [(0, .ref (ad G 27)), (1, .int a), (2, .int b), (3, .int v_2_1), (4, .int v_8_2), (5, .int (-1))]) dX12_isBetter_32 (by decide) rfl ?_
    refine V_iconst (pc := 34) (v := 0) dX12_isBetter_34 rfl ?_
    refine V_istore (pc := 35) (lo' := [(0, .ref (ad G 27)), (1, .int a), (2, .int b), (3, .int v_2_1), (4, .int v_8_2), (5, .int (-1)), (6, .int 0)]) dX12_isBetter_35 (by decide) rfl ?_
    exact l_X12_isBetter G a b v_2_1 v_8_2 A B hw hv hA hB h30 ha8 hb8 (by omega) ((I 27 30).toInt.toNat + 1) 0 0 (-1) (by omega) rfl rfl (by omega)
  · have c_16_3 : v_2_1.toInt ≠ v_8_2.toInt := c_16_3
    refine V_iload_n (pc := 19) 3 dX12_isBetter_19 rfl rfl ?_
    refine V_iload (pc := 20) 4 dX12_isBetter_20 rfl ?_
    refine V_icmp_ge (pc := 22) (tgt := 29) dX12_isBetter_22 (by decide) (fun c_22_4 => ?_) (fun c_22_4 => ?_)
    · have c_22_4 : v_8_2.toInt ≤ v_2_1.toInt := c_22_4
      refine V_iconst (pc := 29) (v := 0) dX12_isBetter_29 rfl ?_
      refine V_iret (pc := 30) rfl rfl dX12_isBetter_30 (by omega) (by omega) ?_
      refine ⟨rfl, rfl, rfl, rfl, rfl, ?_⟩
      exact Or.inr ⟨fun z => by unfold betP at z; omega, rfl⟩
    · have c_22_4 : v_2_1.toInt < v_8_2.toInt := c_22_4
      refine V_iconst (pc := 25) (v := 1) dX12_isBetter_25 rfl ?_
      refine V_goto (pc := 26) (tgt := 30) dX12_isBetter_26 (by decide) ?_
      refine V_iret (pc := 30) rfl rfl dX12_isBetter_30 (by omega) (by omega) ?_
      refine ⟨rfl, rfl, rfl, rfl, rfl, ?_⟩
      exact Or.inl ⟨Or.inl (by omega), rfl⟩
