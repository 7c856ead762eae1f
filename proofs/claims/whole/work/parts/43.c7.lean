set_option maxRecDepth 100000 in
set_option maxHeartbeats 4000000 in
theorem c_X11_pointsForError (G : vG) {n : Nat} {sh : vS} {I : vI} {L : vL} {R : vR} (e : Int64) (he : -2000000000000 ≤ e.toInt ∧ e.toInt ≤ 2000000000000) : CT G yX11_pointsForError cX11_pointsForError 4 (some .int) 1 0 0 [.long e] n sh I L R (PI n sh L R (fun I' o => I = I' ∧ ∃ v : Int32, o = some (.int v) ∧ (v.toInt = min (if e.toInt < 0 then 2 * ((9 - e.toInt) / 10) else (e.toInt + 9) / 10) 300 ∧ 0 ≤ v.toInt))) := by
  refine CT_of (own := RX11) (ini := false) (lo := [(0, .long e)]) mf_X11_pointsForError (Nat.le_of_ble_eq_true rfl) rfl (fun h => by first | rfl | cases h) rfl ?_
  refine V_lload_n (pc := 0) 0 dX11_pointsForError_0 rfl rfl ?_
  refine V_mabsl (pc := 1) mml_X11_406 dX11_pointsForError_1 (by omega) (by omega) (by omega) (Nat.le_of_ble_eq_true rfl) (fun x_1_1 e_1_1 => ?_)
  have t_1_1 : x_1_1.toInt = if e.toInt < 0 then -e.toInt else e.toInt := absLT e_1_1 rfl (by omega)
  refine V_ldc2 (pc := 4) dX11_pointsForError_4 kk_X11_410 ?_
  refine V_ladd (pc := 7) dX11_pointsForError_7 (fun x_7_2 e_7_2 => ?_)
  have t_7_2 : x_7_2.toInt = x_1_1.toInt + 9 := laddT e_7_2 rfl rfl (by omega) (by omega)
  refine V_ldc2 (pc := 8) dX11_pointsForError_8 kk_X11_412 ?_
  refine V_ldiv (pc := 11) dX11_pointsForError_11 (by decide) (fun x_11_3 e_11_3 => ?_)
  have t_11_3 : x_11_3.toInt = x_7_2.toInt / 10 := ldivT e_11_3 rfl rfl (by omega) (by omega)
  refine V_lstore_n (pc := 12) (lo' := [(0, .long e), (2, .long x_11_3)]) dX11_pointsForError_12 rfl (by decide) rfl ?_
  refine V_lload_n (pc := 13) 0 dX11_pointsForError_13 rfl rfl ?_
  refine V_lconst (pc := 14) (v := 0) dX11_pointsForError_14 rfl ?_
  refine V_lcmp (pc := 15) dX11_pointsForError_15 (fun x_15_4 e_15_4 => ?_)
  refine V_if_ge (pc := 16) (tgt := 27) dX11_pointsForError_16 (by decide) (fun c_15_4 => ?_) (fun c_15_4 => ?_)
  · have c_15_4 : 0 ≤ e.toInt := (lcT_ge e_15_4).mp c_15_4
    refine V_lload_n (pc := 27) 1 dX11_pointsForError_27 rfl rfl ?_
    refine V_ldc2 (pc := 28) dX11_pointsForError_28 kk_X11_416 ?_
    refine V_mminl (pc := 31) mml_X11_418 dX11_pointsForError_31 (by omega) (by omega) (by omega) (Nat.le_of_ble_eq_true rfl) (fun x_31_5 e_31_5 => ?_)
    have t_31_5 : x_31_5.toInt = min x_11_3.toInt 300 := e_31_5
    refine V_l2i (pc := 34) dX11_pointsForError_34 (fun x_34_6 e_34_6 => ?_)
    have t_34_6 : x_34_6.toInt = x_31_5.toInt := l2iT e_34_6 rfl (by omega) (by omega)
    refine V_iret (pc := 35) rfl rfl dX11_pointsForError_35 (by omega) (by omega) ?_
    refine ⟨rfl, rfl, rfl, rfl, rfl, _, rfl, ?_⟩
    (repeat' split) <;> omega
  · have c_15_4 : e.toInt < 0 := (lcT_lt e_15_4).mp c_15_4
    refine V_ldc2 (pc := 19) dX11_pointsForError_19 kk_X11_414 ?_
    refine V_lload_n (pc := 22) 1 dX11_pointsForError_22 rfl rfl ?_
    refine V_lmul (pc := 23) dX11_pointsForError_23 (fun x_23_7 e_23_7 => ?_)
    have t_23_7 : x_23_7.toInt = 2 * x_11_3.toInt := lmulT e_23_7 rfl rfl (by omega) (by omega)
    refine V_goto (pc := 24) (tgt := 28) dX11_pointsForError_24 (by decide) ?_
    refine V_ldc2 (pc := 28) dX11_pointsForError_28 kk_X11_416 ?_
    refine V_mminl (pc := 31) mml_X11_418 dX11_pointsForError_31 (by omega) (by omega) (by omega) (Nat.le_of_ble_eq_true rfl) (fun x_31_8 e_31_8 => ?_)
    have t_31_8 : x_31_8.toInt = min x_23_7.toInt 300 := e_31_8
    refine V_l2i (pc := 34) dX11_pointsForError_34 (fun x_34_9 e_34_9 => ?_)
    have t_34_9 : x_34_9.toInt = x_31_8.toInt := l2iT e_34_9 rfl (by omega) (by omega)
    refine V_iret (pc := 35) rfl rfl dX11_pointsForError_35 (by omega) (by omega) ?_
    refine ⟨rfl, rfl, rfl, rfl, rfl, _, rfl, ?_⟩
    (repeat' split) <;> omega
set_option maxRecDepth 100000 in
set_option maxHeartbeats 4000000 in
theorem c_X11_errorOf (G : vG) {n : Nat} {sh : vS} {I : vI} {L : vL} {R : vR} (X : vI) (a j cn : Nat) (c : Int32) (hw : WF n sh R) (hC : JC n sh I L R X) (hK : KD n sh I R X a j) (hY : JW I X) (hV : JV X) (h0e : ∃ k, k < (X 27 27).toInt.toNat ∧ due0P X k) (hcn : c.toInt = (cn : Int)) (hcl : (cn : Int) < (X 27 30).toInt) (hclk : 0 < (X 53 (8 * a + cn)).toInt) : CT G yX11_errorOf cX11_errorOf 6 (some .long) 2 0 0 [.ref (ad G 0), .ref (ad G j), .int c] n sh I L R (PI n sh L R (fun I' o => I = I' ∧ ∃ v : Int64, o = some (.long v) ∧ (v.toInt = errF X (a : Int) (cn : Int) ∧ -2000000000000 ≤ v.toInt ∧ v.toInt ≤ 2000000000000))) := by
  refine CT_of (own := RX11) (ini := false) (lo := [(0, .ref (ad G 0)), (1, .ref (ad G j)), (2, .int c)]) mf_X11_errorOf (Nat.le_of_ble_eq_true rfl) rfl (fun h => by first | rfl | cases h) rfl ?_
  have hC1 : (I 0 6).toInt = (X 27 30).toInt := by rw [hC.1]
  have hC2 := hC.2.1
  have cc := cdF hC cn hcl
  have kd := kdF hK cn (by omega)
  obtain ⟨y1, y2, y3, y4, y5, y6, y7, y8, y9, y10, y11, y12, y13⟩ := id hY
  have hvv : ∀ k, k < (X 27 27).toInt.toNat → 1 ≤ (X 46 k).toInt ∧ (X 46 k).toInt ≤ 3000 := fun k hk => y11 k (by omega)
  have htm := hV.1 (8 * a + cn)
  have hst := hV.2.1 a
  have hIst : (I j 1).toInt = (X 51 a).toInt := by rw [hK.2.2.2.2.2.2.2.1]
  have hcf := carF_b X (a : Int) (cn : Int) (X 27 30).toInt.toNat
  have htt : (I (j + 1) cn).toInt = (X 54 (8 * a + cn)).toInt := by rw [(hK.2.2.2.2.2.2.2.2.2.2.1 cn (by omega)).2.2.2.2.2 hclk]
  refine V_aload_n (pc := 0) 0 dX11_errorOf_0 rfl rfl ?_
  refine V_getR (pc := 1) (j := 16) fk_X11_40_11 (wR hw (i := 0) (k := 5) (j := 16) rfl) dX11_errorOf_1 (wN hw (by decide)) (wS1 hw (by decide) rfl) ?_
  refine V_iload_n (pc := 4) 2 dX11_errorOf_4 rfl rfl ?_
  refine V_aalk (pc := 5) (t := 3) (N := 8) (k := cn) (j := (oj R 16 cn)) dX11_errorOf_5 (wN hw (by decide)) (wS hw (by decide) rfl) (by decide) (by decide) hcn (by omega) (hC.2.2.1 cn (by omega)).1 ?_
  refine V_gI (pc := 6) (v := (I (oj R 16 cn) 0)) rfl fk_X11_367_2 dX11_errorOf_6 (hC.2.2.1 cn (by omega)).2.2.1 (by rw [(hC.2.2.1 cn (by omega)).2.2.2.1]) ?_
  refine V_istore_n (pc := 9) (lo' := [(0, .ref (ad G 0)), (1, .ref (ad G j)), (2, .int c), (3, .int (I (oj R 16 cn) 0))]) dX11_errorOf_9 rfl (by decide) rfl ?_
  refine V_aload_n (pc := 10) 0 dX11_errorOf_10 rfl rfl ?_
  refine V_getR (pc := 11) (j := 16) fk_X11_40_11 (wR hw (i := 0) (k := 5) (j := 16) rfl) dX11_errorOf_11 (wN hw (by decide)) (wS1 hw (by decide) rfl) ?_
  refine V_iload_n (pc := 14) 2 dX11_errorOf_14 rfl rfl ?_
  refine V_aalk (pc := 15) (t := 3) (N := 8) (k := cn) (j := (oj R 16 cn)) dX11_errorOf_15 (wN hw (by decide)) (wS hw (by decide) rfl) (by decide) (by decide) hcn (by omega) (hC.2.2.1 cn (by omega)).1 ?_
  refine V_aload_n (pc := 16) 1 dX11_errorOf_16 rfl rfl ?_
  refine V_getR (pc := 17) (j := (j + 1)) (fk_X11_378_s (kdS hK).1.2) (kdS hK).2.1.1 dX11_errorOf_17 (kdS hK).1.1 rfl ?_
  refine V_iload_n (pc := 20) 2 dX11_errorOf_20 rfl rfl ?_
  refine V_ia (pc := 21) (k := cn) (v := (I (j + 1) cn)) rfl dX11_errorOf_21 (kdS hK).2.2.1.1 (kdS hK).2.2.2.1 hcn (by omega) ?_
  refine V_callV (pc := 22) (As := [.int (I (j + 1) cn)]) (st := []) (c_X2_putRight G X (oj R 16 cn) cn (I (j + 1) cn) hw (hC.2.2.1 cn hcl).2.2.1 (by rw [(hC.2.2.1 cn hcl).2.2.2.1]) (hC.2.2.1 cn hcl).2.2.2.2.2.2.2.1 (hC.2.2.1 cn hcl).2.2.2.2.2.2.1 (by omega)) mf_X2_putRight ml_X11_207 iv_X2_putRight (hC.2.2.1 cn (by omega)).2.2.1 (by rw [(hC.2.2.1 cn (by omega)).2.2.2.1]) (by decide) rfl dX11_errorOf_22 rfl rfl (by omega) (by omega) (by omega) (Nat.le_of_ble_eq_true rfl) (fun r_22_1 n_22_1 sh_22_1 I_22_1 L_22_1 R_22_1 hq_22_1 => ?_)
  obtain ⟨rfl, rfl, rfl, rfl, rfl, v_22_1, rfl, hv_22_1⟩ := hq_22_1
  refine V_aload_n (pc := 25) 1 dX11_errorOf_25 rfl rfl ?_
  refine V_gI (pc := 26) (v := (I j 1)) rfl (fk_X11_381_s (kdS hK).1.2) dX11_errorOf_26 (kdS hK).1.1 rfl ?_
  refine V_i2l (pc := 29) dX11_errorOf_29 (fun x_29_2 e_29_2 => ?_)
  have t_29_2 : x_29_2.toInt = (I j 1).toInt := i2lT e_29_2 rfl
  have b_29_2 := fb_rng (I j 1)
  refine V_lsub (pc := 30) dX11_errorOf_30 (fun x_30_3 e_30_3 => ?_)
  have t_30_3 : x_30_3.toInt = v_22_1.toInt - x_29_2.toInt := lsubT e_30_3 rfl rfl (by omega) (by omega)
  refine V_aload_n (pc := 31) 0 dX11_errorOf_31 rfl rfl ?_
  refine V_getR (pc := 32) (j := 11) fk_X11_34_11 (wR hw (i := 0) (k := 4) (j := 11) rfl) dX11_errorOf_32 (wN hw (by decide)) (wS1 hw (by decide) rfl) ?_
  refine V_iload_n (pc := 35) 3 dX11_errorOf_35 rfl rfl ?_
  refine V_callV (pc := 36) (As := [.int (I (oj R 16 cn) 0)]) (st := [.long x_30_3]) (c_X10_dueAt G X (I (oj R 16 cn) 0) hw y9 y3 y5 y6 hvv (by omega) h0e) mf_X10_dueAt ml_X11_177 iv_X10_dueAt (wN hw (by decide)) (wS1 hw (by decide) rfl) (by decide) rfl dX11_errorOf_36 rfl rfl (by omega) (by omega) (by omega) (Nat.le_of_ble_eq_true rfl) (fun r_36_4 n_36_4 sh_36_4 I_36_4 L_36_4 R_36_4 hq_36_4 => ?_)
  obtain ⟨rfl, rfl, rfl, rfl, rfl, v_36_4, rfl, hv_36_4⟩ := hq_36_4
  refine V_lsub (pc := 39) dX11_errorOf_39 (fun x_39_5 e_39_5 => ?_)
  have t_39_5 : x_39_5.toInt = x_30_3.toInt - v_36_4.toInt := lsubT e_39_5 rfl rfl (by omega) (by omega)
  refine V_lstore (pc := 40) (lo' := [(0, .ref (ad G 0)), (1, .ref (ad G j)), (2, .int c), (3, .int (I (oj R 16 cn) 0)), (4, .long x_39_5)]) dX11_errorOf_40 (by decide) rfl ?_
  refine V_lload (pc := 42) 4 dX11_errorOf_42 rfl ?_
  refine V_lconst (pc := 44) (v := 0) dX11_errorOf_44 rfl ?_
  refine V_lcmp (pc := 45) dX11_errorOf_45 (fun x_45_6 e_45_6 => ?_)
  refine V_if_le (pc := 46) (tgt := 66) dX11_errorOf_46 (by decide) (fun c_45_6 => ?_) (fun c_45_6 => ?_)
  · have c_45_6 : x_39_5.toInt ≤ 0 := (lcT_le e_45_6).mp c_45_6
    refine V_lload (pc := 66) 4 dX11_errorOf_66 rfl ?_
    refine V_lret (pc := 68) rfl dX11_errorOf_68 (by omega) (by omega) ?_
    refine ⟨rfl, rfl, rfl, rfl, rfl, ?_⟩
    refine ⟨_, rfl, ?_⟩
    have ed : dueF X (I (oj R 16 cn) 0) 10 0 = dueF X (X 47 cn) 10 0 := by rw [(hC.2.2.1 cn hcl).2.2.2.2.1]
    have er : rightF X (cn : Int) (I (j + 1) cn).toInt = rightF X (cn : Int) (X 54 (8 * a + cn)).toInt := by rw [htt]
    have e9 : errE X (a : Int) (cn : Int) = x_39_5.toInt := by
      unfold errE
      rw [i8, Int.toNat_natCast, Int.toNat_natCast]
      omega
    unfold errF
    rw [e9]
    (repeat' split) <;> omega
  · have c_45_6 : 0 < x_39_5.toInt := (lcT_gt e_45_6).mp c_45_6
    refine V_lconst (pc := 49) (v := 0) dX11_errorOf_49 rfl ?_
    refine V_lload (pc := 50) 4 dX11_errorOf_50 rfl ?_
    refine V_aload_n (pc := 52) 0 dX11_errorOf_52 rfl rfl ?_
    refine V_aload_n (pc := 53) 1 dX11_errorOf_53 rfl rfl ?_
    refine V_iload_n (pc := 54) 3 dX11_errorOf_54 rfl rfl ?_
    refine V_callV (pc := 55) (As := [.ref (ad G j), .int (I (oj R 16 cn) 0)]) (st := [.long x_39_5, .long 0]) (c_X11_carriedTo G X a j cn (I (oj R 16 cn) 0) hw hC hK (by omega)) mf_X11_carriedTo ml_X11_384 iv_X11_carriedTo (wN hw (by decide)) (wS1 hw (by decide) rfl) (by decide) rfl dX11_errorOf_55 rfl rfl (by omega) (by omega) (by omega) (Nat.le_of_ble_eq_true rfl) (fun r_55_7 n_55_7 sh_55_7 I_55_7 L_55_7 R_55_7 hq_55_7 => ?_)
    obtain ⟨rfl, rfl, rfl, rfl, rfl, v_55_7, rfl, hv_55_7⟩ := hq_55_7
    refine V_i2l (pc := 58) dX11_errorOf_58 (fun x_58_8 e_58_8 => ?_)
    have t_58_8 : x_58_8.toInt = v_55_7.toInt := i2lT e_58_8 rfl
    have b_58_8 := fb_rng v_55_7
    refine V_lsub (pc := 59) dX11_errorOf_59 (fun x_59_9 e_59_9 => ?_)
    have t_59_9 : x_59_9.toInt = x_39_5.toInt - x_58_8.toInt := lsubT e_59_9 rfl rfl (by omega) (by omega)
    refine V_mmaxl (pc := 60) mml_X11_387 dX11_errorOf_60 (by omega) (by omega) (by omega) (Nat.le_of_ble_eq_true rfl) (fun x_60_10 e_60_10 => ?_)
    have t_60_10 : x_60_10.toInt = max 0 x_59_9.toInt := maxLT e_60_10 rfl rfl
    refine V_goto (pc := 63) (tgt := 68) dX11_errorOf_63 (by decide) ?_
    refine V_lret (pc := 68) rfl dX11_errorOf_68 (by omega) (by omega) ?_
    refine ⟨rfl, rfl, rfl, rfl, rfl, ?_⟩
    refine ⟨_, rfl, ?_⟩
    have ed : dueF X (I (oj R 16 cn) 0) 10 0 = dueF X (X 47 cn) 10 0 := by rw [(hC.2.2.1 cn hcl).2.2.2.2.1]
    have er : rightF X (cn : Int) (I (j + 1) cn).toInt = rightF X (cn : Int) (X 54 (8 * a + cn)).toInt := by rw [htt]
    have e9 : errE X (a : Int) (cn : Int) = x_39_5.toInt := by
      unfold errE
      rw [i8, Int.toNat_natCast, Int.toNat_natCast]
      omega
    unfold errF
    rw [e9]
    (repeat' split) <;> omega
set_option maxRecDepth 100000 in
set_option maxHeartbeats 4000000 in
theorem c_X11_pointsOf (G : vG) {n : Nat} {sh : vS} {I : vI} {L : vL} {R : vR} (X : vI) (a j cn : Nat) (c : Int32) (hw : WF n sh R) (hC : JC n sh I L R X) (hK : KD n sh I R X a j) (hY : JW I X) (hV : JV X) (h0e : ∃ k, k < (X 27 27).toInt.toNat ∧ due0P X k) (hcn : c.toInt = (cn : Int)) (hcl : (cn : Int) < (X 27 30).toInt) : CT G yX11_pointsOf cX11_pointsOf 3 (some .int) 4 0 0 [.ref (ad G 0), .ref (ad G j), .int c] n sh I L R (PI n sh L R (fun I' o => I = I' ∧ ∃ v : Int32, o = some (.int v) ∧ (v.toInt = ptsF X (a : Int) (cn : Int) ∧ 0 ≤ v.toInt ∧ v.toInt ≤ 300))) := by
  refine CT_of (own := RX11) (ini := false) (lo := [(0, .ref (ad G 0)), (1, .ref (ad G j)), (2, .int c)]) mf_X11_pointsOf (Nat.le_of_ble_eq_true rfl) rfl (fun h => by first | rfl | cases h) rfl ?_
  have hC1 : (I 0 6).toInt = (X 27 30).toInt := by rw [hC.1]
  have hC2 := hC.2.1
  have cc := cdF hC cn hcl
  have kd := kdF hK cn (by omega)
  obtain ⟨y1, y2, y3, y4, y5, y6, y7, y8, y9, y10, y11, y12, y13⟩ := id hY
  have hvv : ∀ k, k < (X 27 27).toInt.toNat → 1 ≤ (X 46 k).toInt ∧ (X 46 k).toInt ≤ 3000 := fun k hk => y11 k (by omega)
  have htm := hV.1 (8 * a + cn)
  have hst := hV.2.1 a
  have hIst : (I j 1).toInt = (X 51 a).toInt := by rw [hK.2.2.2.2.2.2.2.1]
  have hcf := carF_b X (a : Int) (cn : Int) (X 27 30).toInt.toNat
  refine V_aload_n (pc := 0) 0 dX11_pointsOf_0 rfl rfl ?_
  refine V_getR (pc := 1) (j := 16) fk_X11_40_11 (wR hw (i := 0) (k := 5) (j := 16) rfl) dX11_pointsOf_1 (wN hw (by decide)) (wS1 hw (by decide) rfl) ?_
  refine V_iload_n (pc := 4) 2 dX11_pointsOf_4 rfl rfl ?_
  refine V_aalk (pc := 5) (t := 3) (N := 8) (k := cn) (j := (oj R 16 cn)) dX11_pointsOf_5 (wN hw (by decide)) (wS hw (by decide) rfl) (by decide) (by decide) hcn (by omega) (hC.2.2.1 cn (by omega)).1 ?_
  refine V_gI (pc := 6) (v := (I (oj R 16 cn) 1)) rfl fk_X11_210_2 dX11_pointsOf_6 (hC.2.2.1 cn (by omega)).2.2.1 (by rw [(hC.2.2.1 cn (by omega)).2.2.2.1]) ?_
  refine V_if_eq (pc := 9) (tgt := 14) dX11_pointsOf_9 (by decide) (fun c_9_1 => ?_) (fun c_9_1 => ?_)
  · have c_9_1 : (I (oj R 16 cn) 1).toInt = 0 := c_9_1
    refine V_aload_n (pc := 14) 1 dX11_pointsOf_14 rfl rfl ?_
    refine V_iload_n (pc := 15) 2 dX11_pointsOf_15 rfl rfl ?_
    rcases (kdS hK).1.2 with hsj | hsj | hsj
    · refine V_callO (pc := 16) (As := [.int c]) (st := []) (c_X1_isClockedAt G j c hw (kdS hK).1.1 (kdS hK).1.2 (kdS hK).2.1 (kdS hK).2.2.1 (kdS hK).2.2.2 (by omega)) mf_X1_isClockedAt ov_X11_225_1 (kdS hK).1.1 hsj (by decide) rfl dX11_pointsOf_16 rfl rfl (by omega) (by omega) (by omega) (Nat.le_of_ble_eq_true rfl) (fun r_16_3 n_16_3 sh_16_3 I_16_3 L_16_3 R_16_3 hq_16_3 => ?_)
      obtain ⟨rfl, rfl, rfl, rfl, rfl, hq_16_3⟩ := hq_16_3
      have eq_16_3 : c.toInt.toNat = cn := by omega
      rw [eq_16_3] at hq_16_3
      rcases hq_16_3 with ⟨c_16_3, rfl⟩ | ⟨c_16_3, rfl⟩
      · skip
        refine V_if_ne_t (pc := 19) (tgt := 26) dX11_pointsOf_19 (by decide) (by decide) ?_
        refine V_aload_n (pc := 26) 0 dX11_pointsOf_26 rfl rfl ?_
        refine V_aload_n (pc := 27) 1 dX11_pointsOf_27 rfl rfl ?_
        refine V_iload_n (pc := 28) 2 dX11_pointsOf_28 rfl rfl ?_
        refine V_callV (pc := 29) (As := [.ref (ad G j), .int c]) (st := []) (c_X11_isOutOfOrder G X a j cn c hw hC hK hcn (by omega)) mf_X11_isOutOfOrder ml_X11_396 iv_X11_isOutOfOrder (wN hw (by decide)) (wS1 hw (by decide) rfl) (by decide) rfl dX11_pointsOf_29 rfl rfl (by omega) (by omega) (by omega) (Nat.le_of_ble_eq_true rfl) (fun r_29_4 n_29_4 sh_29_4 I_29_4 L_29_4 R_29_4 hq_29_4 => ?_)
        obtain ⟨rfl, rfl, rfl, rfl, rfl, hq_29_4⟩ := hq_29_4
        rcases hq_29_4 with ⟨c_29_4, rfl⟩ | ⟨c_29_4, rfl⟩
        · have c_29_4 := c_29_4
          refine V_if_eq_f (pc := 32) (tgt := 38) dX11_pointsOf_32 (by decide) (by decide) ?_
          refine V_bipush (pc := 35) (v := 100) dX11_pointsOf_35 rfl ?_
          refine V_iret (pc := 37) rfl rfl dX11_pointsOf_37 (by omega) (by omega) ?_
          refine ⟨rfl, rfl, rfl, rfl, rfl, ?_⟩
          refine ⟨_, rfl, ?_⟩
          unfold ptsF
          rw [i8, Int.toNat_natCast, Int.toNat_natCast]
          rw [if_neg (by omega), if_neg (by omega), pIf_pos (by assumption)]
          decide
        · have c_29_4 := c_29_4
          refine V_if_eq_t (pc := 32) (tgt := 38) dX11_pointsOf_32 (by decide) (by decide) ?_
          refine V_aload_n (pc := 38) 1 dX11_pointsOf_38 rfl rfl ?_
          refine V_aload_n (pc := 39) 0 dX11_pointsOf_39 rfl rfl ?_
          refine V_aload_n (pc := 40) 1 dX11_pointsOf_40 rfl rfl ?_
          refine V_iload_n (pc := 41) 2 dX11_pointsOf_41 rfl rfl ?_
          refine V_callV (pc := 42) (As := [.ref (ad G j), .int c]) (st := [.ref (ad G j)]) (c_X11_errorOf G X a j cn c hw hC hK hY hV h0e hcn hcl (by omega)) mf_X11_errorOf ml_X11_234 iv_X11_errorOf (wN hw (by decide)) (wS1 hw (by decide) rfl) (by decide) rfl dX11_pointsOf_42 rfl rfl (by omega) (by omega) (by omega) (Nat.le_of_ble_eq_true rfl) (fun r_42_5 n_42_5 sh_42_5 I_42_5 L_42_5 R_42_5 hq_42_5 => ?_)
          obtain ⟨rfl, rfl, rfl, rfl, rfl, v_42_5, rfl, hv_42_5⟩ := hq_42_5
          refine V_callS (pc := 45) (As := [.long v_42_5]) (st := [.ref (ad G j)]) (c_X11_pointsForError G v_42_5 (by omega)) mf_X11_pointsForError ml_X11_399 st_X11_pointsForError dX11_pointsOf_45 rfl rfl (by omega) (by omega) (by omega) (Nat.le_of_ble_eq_true rfl) (fun r_45_6 n_45_6 sh_45_6 I_45_6 L_45_6 R_45_6 hq_45_6 => ?_)
          obtain ⟨rfl, rfl, rfl, rfl, rfl, v_45_6, rfl, hv_45_6⟩ := hq_45_6
          rcases kdC hK with ⟨hso, hsj⟩ | ⟨hso, hsj⟩ | ⟨hso, hsj⟩
          · refine V_callO (pc := 48) (As := [.int v_45_6]) (st := []) (c_X1_share G j v_45_6 hw) mf_X1_share ov_X11_403_1 (kdS hK).1.1 hsj (by decide) rfl dX11_pointsOf_48 rfl rfl (by omega) (by omega) (by omega) (Nat.le_of_ble_eq_true rfl) (fun r_48_7 n_48_7 sh_48_7 I_48_7 L_48_7 R_48_7 hq_48_7 => ?_)
            obtain ⟨rfl, rfl, rfl, rfl, rfl, hq_48_7⟩ := hq_48_7
            obtain rfl := hq_48_7
            refine V_iret (pc := 51) rfl rfl dX11_pointsOf_51 (by omega) (by omega) ?_
            refine ⟨rfl, rfl, rfl, rfl, rfl, ?_⟩
            refine ⟨_, rfl, ?_⟩
            unfold ptsF
            rw [i8, Int.toNat_natCast, Int.toNat_natCast]
            rw [if_neg (by omega), if_neg (by omega), pIf_neg (by assumption), ← hv_42_5.1]
            unfold ptF
            (repeat' split) <;> omega
          · refine V_callO (pc := 48) (As := [.int v_45_6]) (st := []) (c_X5_share G j v_45_6 hw (by omega)) mf_X5_share ov_X11_403_5 (kdS hK).1.1 hsj (by decide) rfl dX11_pointsOf_48 rfl rfl (by omega) (by omega) (by omega) (Nat.le_of_ble_eq_true rfl) (fun r_48_8 n_48_8 sh_48_8 I_48_8 L_48_8 R_48_8 hq_48_8 => ?_)
            obtain ⟨rfl, rfl, rfl, rfl, rfl, hq_48_8⟩ := hq_48_8
            obtain ⟨v5, rfl, hv5⟩ := hq_48_8
            refine V_iret (pc := 51) rfl rfl dX11_pointsOf_51 (by omega) (by omega) ?_
            refine ⟨rfl, rfl, rfl, rfl, rfl, ?_⟩
            refine ⟨_, rfl, ?_⟩
            unfold ptsF
            rw [i8, Int.toNat_natCast, Int.toNat_natCast]
            rw [if_neg (by omega), if_neg (by omega), pIf_neg (by assumption), ← hv_42_5.1]
            unfold ptF
            (repeat' split) <;> omega
          · refine V_callO (pc := 48) (As := [.int v_45_6]) (st := []) (c_X4_share G j v_45_6 hw (kdS hK).1.1 hsj hK.2.1 (by omega)) mf_X4_share ov_X11_403_4 (kdS hK).1.1 hsj (by decide) rfl dX11_pointsOf_48 rfl rfl (by omega) (by omega) (by omega) (Nat.le_of_ble_eq_true rfl) (fun r_48_9 n_48_9 sh_48_9 I_48_9 L_48_9 R_48_9 hq_48_9 => ?_)
            obtain ⟨rfl, rfl, rfl, rfl, rfl, hq_48_9⟩ := hq_48_9
            obtain ⟨v5, rfl, hv5⟩ := hq_48_9
            refine V_iret (pc := 51) rfl rfl dX11_pointsOf_51 (by omega) (by omega) ?_
            refine ⟨rfl, rfl, rfl, rfl, rfl, ?_⟩
            refine ⟨_, rfl, ?_⟩
            unfold ptsF
            rw [i8, Int.toNat_natCast, Int.toNat_natCast]
            rw [if_neg (by omega), if_neg (by omega), pIf_neg (by assumption), ← hv_42_5.1]
            unfold ptF
            (repeat' split) <;> omega
      · skip
        refine V_if_ne_f (pc := 19) (tgt := 26) dX11_pointsOf_19 (by decide) (by decide) ?_
        refine V_sipush (pc := 22) (v := 300) dX11_pointsOf_22 rfl ?_
        refine V_iret (pc := 25) rfl rfl dX11_pointsOf_25 (by omega) (by omega) ?_
        refine ⟨rfl, rfl, rfl, rfl, rfl, ?_⟩
        refine ⟨_, rfl, ?_⟩
        unfold ptsF
        rw [i8, Int.toNat_natCast, Int.toNat_natCast]
        rw [if_neg (by omega), if_pos (by omega)]
        decide
    · refine V_callO (pc := 16) (As := [.int c]) (st := []) (c_X1_isClockedAt G j c hw (kdS hK).1.1 (kdS hK).1.2 (kdS hK).2.1 (kdS hK).2.2.1 (kdS hK).2.2.2 (by omega)) mf_X1_isClockedAt ov_X11_225_5 (kdS hK).1.1 hsj (by decide) rfl dX11_pointsOf_16 rfl rfl (by omega) (by omega) (by omega) (Nat.le_of_ble_eq_true rfl) (fun r_16_10 n_16_10 sh_16_10 I_16_10 L_16_10 R_16_10 hq_16_10 => ?_)
      obtain ⟨rfl, rfl, rfl, rfl, rfl, hq_16_10⟩ := hq_16_10
      have eq_16_10 : c.toInt.toNat = cn := by omega
      rw [eq_16_10] at hq_16_10
      rcases hq_16_10 with ⟨c_16_10, rfl⟩ | ⟨c_16_10, rfl⟩
      · skip
        refine V_if_ne_t (pc := 19) (tgt := 26) dX11_pointsOf_19 (by decide) (by decide) ?_
        refine V_aload_n (pc := 26) 0 dX11_pointsOf_26 rfl rfl ?_
        refine V_aload_n (pc := 27) 1 dX11_pointsOf_27 rfl rfl ?_
        refine V_iload_n (pc := 28) 2 dX11_pointsOf_28 rfl rfl ?_
        refine V_callV (pc := 29) (As := [.ref (ad G j), .int c]) (st := []) (c_X11_isOutOfOrder G X a j cn c hw hC hK hcn (by omega)) mf_X11_isOutOfOrder ml_X11_396 iv_X11_isOutOfOrder (wN hw (by decide)) (wS1 hw (by decide) rfl) (by decide) rfl dX11_pointsOf_29 rfl rfl (by omega) (by omega) (by omega) (Nat.le_of_ble_eq_true rfl) (fun r_29_11 n_29_11 sh_29_11 I_29_11 L_29_11 R_29_11 hq_29_11 => ?_)
        obtain ⟨rfl, rfl, rfl, rfl, rfl, hq_29_11⟩ := hq_29_11
        rcases hq_29_11 with ⟨c_29_11, rfl⟩ | ⟨c_29_11, rfl⟩
        · have c_29_11 := c_29_11
          refine V_if_eq_f (pc := 32) (tgt := 38) dX11_pointsOf_32 (by decide) (by decide) ?_
          refine V_bipush (pc := 35) (v := 100) dX11_pointsOf_35 rfl ?_
          refine V_iret (pc := 37) rfl rfl dX11_pointsOf_37 (by omega) (by omega) ?_
          refine ⟨rfl, rfl, rfl, rfl, rfl, ?_⟩
          refine ⟨_, rfl, ?_⟩
          unfold ptsF
          rw [i8, Int.toNat_natCast, Int.toNat_natCast]
          rw [if_neg (by omega), if_neg (by omega), pIf_pos (by assumption)]
          decide
        · have c_29_11 := c_29_11
          refine V_if_eq_t (pc := 32) (tgt := 38) dX11_pointsOf_32 (by decide) (by decide) ?_
          refine V_aload_n (pc := 38) 1 dX11_pointsOf_38 rfl rfl ?_
          refine V_aload_n (pc := 39) 0 dX11_pointsOf_39 rfl rfl ?_
          refine V_aload_n (pc := 40) 1 dX11_pointsOf_40 rfl rfl ?_
          refine V_iload_n (pc := 41) 2 dX11_pointsOf_41 rfl rfl ?_
          refine V_callV (pc := 42) (As := [.ref (ad G j), .int c]) (st := [.ref (ad G j)]) (c_X11_errorOf G X a j cn c hw hC hK hY hV h0e hcn hcl (by omega)) mf_X11_errorOf ml_X11_234 iv_X11_errorOf (wN hw (by decide)) (wS1 hw (by decide) rfl) (by decide) rfl dX11_pointsOf_42 rfl rfl (by omega) (by omega) (by omega) (Nat.le_of_ble_eq_true rfl) (fun r_42_12 n_42_12 sh_42_12 I_42_12 L_42_12 R_42_12 hq_42_12 => ?_)
          obtain ⟨rfl, rfl, rfl, rfl, rfl, v_42_12, rfl, hv_42_12⟩ := hq_42_12
          refine V_callS (pc := 45) (As := [.long v_42_12]) (st := [.ref (ad G j)]) (c_X11_pointsForError G v_42_12 (by omega)) mf_X11_pointsForError ml_X11_399 st_X11_pointsForError dX11_pointsOf_45 rfl rfl (by omega) (by omega) (by omega) (Nat.le_of_ble_eq_true rfl) (fun r_45_13 n_45_13 sh_45_13 I_45_13 L_45_13 R_45_13 hq_45_13 => ?_)
          obtain ⟨rfl, rfl, rfl, rfl, rfl, v_45_13, rfl, hv_45_13⟩ := hq_45_13
          rcases kdC hK with ⟨hso, hsj⟩ | ⟨hso, hsj⟩ | ⟨hso, hsj⟩
          · refine V_callO (pc := 48) (As := [.int v_45_13]) (st := []) (c_X1_share G j v_45_13 hw) mf_X1_share ov_X11_403_1 (kdS hK).1.1 hsj (by decide) rfl dX11_pointsOf_48 rfl rfl (by omega) (by omega) (by omega) (Nat.le_of_ble_eq_true rfl) (fun r_48_14 n_48_14 sh_48_14 I_48_14 L_48_14 R_48_14 hq_48_14 => ?_)
            obtain ⟨rfl, rfl, rfl, rfl, rfl, hq_48_14⟩ := hq_48_14
            obtain rfl := hq_48_14
            refine V_iret (pc := 51) rfl rfl dX11_pointsOf_51 (by omega) (by omega) ?_
            refine ⟨rfl, rfl, rfl, rfl, rfl, ?_⟩
            refine ⟨_, rfl, ?_⟩
            unfold ptsF
            rw [i8, Int.toNat_natCast, Int.toNat_natCast]
            rw [if_neg (by omega), if_neg (by omega), pIf_neg (by assumption), ← hv_42_12.1]
            unfold ptF
            (repeat' split) <;> omega
          · refine V_callO (pc := 48) (As := [.int v_45_13]) (st := []) (c_X5_share G j v_45_13 hw (by omega)) mf_X5_share ov_X11_403_5 (kdS hK).1.1 hsj (by decide) rfl dX11_pointsOf_48 rfl rfl (by omega) (by omega) (by omega) (Nat.le_of_ble_eq_true rfl) (fun r_48_15 n_48_15 sh_48_15 I_48_15 L_48_15 R_48_15 hq_48_15 => ?_)
            obtain ⟨rfl, rfl, rfl, rfl, rfl, hq_48_15⟩ := hq_48_15
            obtain ⟨v5, rfl, hv5⟩ := hq_48_15
            refine V_iret (pc := 51) rfl rfl dX11_pointsOf_51 (by omega) (by omega) ?_
            refine ⟨rfl, rfl, rfl, rfl, rfl, ?_⟩
            refine ⟨_, rfl, ?_⟩
            unfold ptsF
            rw [i8, Int.toNat_natCast, Int.toNat_natCast]
            rw [if_neg (by omega), if_neg (by omega), pIf_neg (by assumption), ← hv_42_12.1]
            unfold ptF
            (repeat' split) <;> omega
          · refine V_callO (pc := 48) (As := [.int v_45_13]) (st := []) (c_X4_share G j v_45_13 hw (kdS hK).1.1 hsj hK.2.1 (by omega)) mf_X4_share ov_X11_403_4 (kdS hK).1.1 hsj (by decide) rfl dX11_pointsOf_48 rfl rfl (by omega) (by omega) (by omega) (Nat.le_of_ble_eq_true rfl) (fun r_48_16 n_48_16 sh_48_16 I_48_16 L_48_16 R_48_16 hq_48_16 => ?_)
            obtain ⟨rfl, rfl, rfl, rfl, rfl, hq_48_16⟩ := hq_48_16
            obtain ⟨v5, rfl, hv5⟩ := hq_48_16
            refine V_iret (pc := 51) rfl rfl dX11_pointsOf_51 (by omega) (by omega) ?_
            refine ⟨rfl, rfl, rfl, rfl, rfl, ?_⟩
            refine ⟨_, rfl, ?_⟩
            unfold ptsF
            rw [i8, Int.toNat_natCast, Int.toNat_natCast]
            rw [if_neg (by omega), if_neg (by omega), pIf_neg (by assumption), ← hv_42_12.1]
            unfold ptF
            (repeat' split) <;> omega
      · skip
        refine V_if_ne_f (pc := 19) (tgt := 26) dX11_pointsOf_19 (by decide) (by decide) ?_
        refine V_sipush (pc := 22) (v := 300) dX11_pointsOf_22 rfl ?_
        refine V_iret (pc := 25) rfl rfl dX11_pointsOf_25 (by omega) (by omega) ?_
        refine ⟨rfl, rfl, rfl, rfl, rfl, ?_⟩
        refine ⟨_, rfl, ?_⟩
        unfold ptsF
        rw [i8, Int.toNat_natCast, Int.toNat_natCast]
        rw [if_neg (by omega), if_pos (by omega)]
        decide
    · refine V_callO (pc := 16) (As := [.int c]) (st := []) (c_X1_isClockedAt G j c hw (kdS hK).1.1 (kdS hK).1.2 (kdS hK).2.1 (kdS hK).2.2.1 (kdS hK).2.2.2 (by omega)) mf_X1_isClockedAt ov_X11_225_4 (kdS hK).1.1 hsj (by decide) rfl dX11_pointsOf_16 rfl rfl (by omega) (by omega) (by omega) (Nat.le_of_ble_eq_true rfl) (fun r_16_17 n_16_17 sh_16_17 I_16_17 L_16_17 R_16_17 hq_16_17 => ?_)
      obtain ⟨rfl, rfl, rfl, rfl, rfl, hq_16_17⟩ := hq_16_17
      have eq_16_17 : c.toInt.toNat = cn := by omega
      rw [eq_16_17] at hq_16_17
      rcases hq_16_17 with ⟨c_16_17, rfl⟩ | ⟨c_16_17, rfl⟩
      · skip
        refine V_if_ne_t (pc := 19) (tgt := 26) dX11_pointsOf_19 (by decide) (by decide) ?_
        refine V_aload_n (pc := 26) 0 dX11_pointsOf_26 rfl rfl ?_
        refine V_aload_n (pc := 27) 1 dX11_pointsOf_27 rfl rfl ?_
        refine V_iload_n (pc := 28) 2 dX11_pointsOf_28 rfl rfl ?_
        refine V_callV (pc := 29) (As := [.ref (ad G j), .int c]) (st := []) (c_X11_isOutOfOrder G X a j cn c hw hC hK hcn (by omega)) mf_X11_isOutOfOrder ml_X11_396 iv_X11_isOutOfOrder (wN hw (by decide)) (wS1 hw (by decide) rfl) (by decide) rfl dX11_pointsOf_29 rfl rfl (by omega) (by omega) (by omega) (Nat.le_of_ble_eq_true rfl) (fun r_29_18 n_29_18 sh_29_18 I_29_18 L_29_18 R_29_18 hq_29_18 => ?_)
        obtain ⟨rfl, rfl, rfl, rfl, rfl, hq_29_18⟩ := hq_29_18
        rcases hq_29_18 with ⟨c_29_18, rfl⟩ | ⟨c_29_18, rfl⟩
        · have c_29_18 := c_29_18
          refine V_if_eq_f (pc := 32) (tgt := 38) dX11_pointsOf_32 (by decide) (by decide) ?_
          refine V_bipush (pc := 35) (v := 100) dX11_pointsOf_35 rfl ?_
          refine V_iret (pc := 37) rfl rfl dX11_pointsOf_37 (by omega) (by omega) ?_
          refine ⟨rfl, rfl, rfl, rfl, rfl, ?_⟩
          refine ⟨_, rfl, ?_⟩
          unfold ptsF
          rw [i8, Int.toNat_natCast, Int.toNat_natCast]
          rw [if_neg (by omega), if_neg (by omega), pIf_pos (by assumption)]
          decide
        · have c_29_18 := c_29_18
          refine V_if_eq_t (pc := 32) (tgt := 38) dX11_pointsOf_32 (by decide) (by decide) ?_
          refine V_aload_n (pc := 38) 1 dX11_pointsOf_38 rfl rfl ?_
          refine V_aload_n (pc := 39) 0 dX11_pointsOf_39 rfl rfl ?_
          refine V_aload_n (pc := 40) 1 dX11_pointsOf_40 rfl rfl ?_
          refine V_iload_n (pc := 41) 2 dX11_pointsOf_41 rfl rfl ?_
          refine V_callV (pc := 42) (As := [.ref (ad G j), .int c]) (st := [.ref (ad G j)]) (c_X11_errorOf G X a j cn c hw hC hK hY hV h0e hcn hcl (by omega)) mf_X11_errorOf ml_X11_234 iv_X11_errorOf (wN hw (by decide)) (wS1 hw (by decide) rfl) (by decide) rfl dX11_pointsOf_42 rfl rfl (by omega) (by omega) (by omega) (Nat.le_of_ble_eq_true rfl) (fun r_42_19 n_42_19 sh_42_19 I_42_19 L_42_19 R_42_19 hq_42_19 => ?_)
          obtain ⟨rfl, rfl, rfl, rfl, rfl, v_42_19, rfl, hv_42_19⟩ := hq_42_19
          refine V_callS (pc := 45) (As := [.long v_42_19]) (st := [.ref (ad G j)]) (c_X11_pointsForError G v_42_19 (by omega)) mf_X11_pointsForError ml_X11_399 st_X11_pointsForError dX11_pointsOf_45 rfl rfl (by omega) (by omega) (by omega) (Nat.le_of_ble_eq_true rfl) (fun r_45_20 n_45_20 sh_45_20 I_45_20 L_45_20 R_45_20 hq_45_20 => ?_)
          obtain ⟨rfl, rfl, rfl, rfl, rfl, v_45_20, rfl, hv_45_20⟩ := hq_45_20
          rcases kdC hK with ⟨hso, hsj⟩ | ⟨hso, hsj⟩ | ⟨hso, hsj⟩
          · refine V_callO (pc := 48) (As := [.int v_45_20]) (st := []) (c_X1_share G j v_45_20 hw) mf_X1_share ov_X11_403_1 (kdS hK).1.1 hsj (by decide) rfl dX11_pointsOf_48 rfl rfl (by omega) (by omega) (by omega) (Nat.le_of_ble_eq_true rfl) (fun r_48_21 n_48_21 sh_48_21 I_48_21 L_48_21 R_48_21 hq_48_21 => ?_)
            obtain ⟨rfl, rfl, rfl, rfl, rfl, hq_48_21⟩ := hq_48_21
            obtain rfl := hq_48_21
            refine V_iret (pc := 51) rfl rfl dX11_pointsOf_51 (by omega) (by omega) ?_
            refine ⟨rfl, rfl, rfl, rfl, rfl, ?_⟩
            refine ⟨_, rfl, ?_⟩
            unfold ptsF
            rw [i8, Int.toNat_natCast, Int.toNat_natCast]
            rw [if_neg (by omega), if_neg (by omega), pIf_neg (by assumption), ← hv_42_19.1]
            unfold ptF
            (repeat' split) <;> omega
          · refine V_callO (pc := 48) (As := [.int v_45_20]) (st := []) (c_X5_share G j v_45_20 hw (by omega)) mf_X5_share ov_X11_403_5 (kdS hK).1.1 hsj (by decide) rfl dX11_pointsOf_48 rfl rfl (by omega) (by omega) (by omega) (Nat.le_of_ble_eq_true rfl) (fun r_48_22 n_48_22 sh_48_22 I_48_22 L_48_22 R_48_22 hq_48_22 => ?_)
            obtain ⟨rfl, rfl, rfl, rfl, rfl, hq_48_22⟩ := hq_48_22
            obtain ⟨v5, rfl, hv5⟩ := hq_48_22
            refine V_iret (pc := 51) rfl rfl dX11_pointsOf_51 (by omega) (by omega) ?_
            refine ⟨rfl, rfl, rfl, rfl, rfl, ?_⟩
            refine ⟨_, rfl, ?_⟩
            unfold ptsF
            rw [i8, Int.toNat_natCast, Int.toNat_natCast]
            rw [if_neg (by omega), if_neg (by omega), pIf_neg (by assumption), ← hv_42_19.1]
            unfold ptF
            (repeat' split) <;> omega
          · refine V_callO (pc := 48) (As := [.int v_45_20]) (st := []) (c_X4_share G j v_45_20 hw (kdS hK).1.1 hsj hK.2.1 (by omega)) mf_X4_share ov_X11_403_4 (kdS hK).1.1 hsj (by decide) rfl dX11_pointsOf_48 rfl rfl (by omega) (by omega) (by omega) (Nat.le_of_ble_eq_true rfl) (fun r_48_23 n_48_23 sh_48_23 I_48_23 L_48_23 R_48_23 hq_48_23 => ?_)
            obtain ⟨rfl, rfl, rfl, rfl, rfl, hq_48_23⟩ := hq_48_23
            obtain ⟨v5, rfl, hv5⟩ := hq_48_23
            refine V_iret (pc := 51) rfl rfl dX11_pointsOf_51 (by omega) (by omega) ?_
            refine ⟨rfl, rfl, rfl, rfl, rfl, ?_⟩
            refine ⟨_, rfl, ?_⟩
            unfold ptsF
            rw [i8, Int.toNat_natCast, Int.toNat_natCast]
            rw [if_neg (by omega), if_neg (by omega), pIf_neg (by assumption), ← hv_42_19.1]
            unfold ptF
            (repeat' split) <;> omega
      · skip
        refine V_if_ne_f (pc := 19) (tgt := 26) dX11_pointsOf_19 (by decide) (by decide) ?_
        refine V_sipush (pc := 22) (v := 300) dX11_pointsOf_22 rfl ?_
        refine V_iret (pc := 25) rfl rfl dX11_pointsOf_25 (by omega) (by omega) ?_
        refine ⟨rfl, rfl, rfl, rfl, rfl, ?_⟩
        refine ⟨_, rfl, ?_⟩
        unfold ptsF
        rw [i8, Int.toNat_natCast, Int.toNat_natCast]
        rw [if_neg (by omega), if_pos (by omega)]
        decide
  · have c_9_1 : (I (oj R 16 cn) 1).toInt ≠ 0 := c_9_1
    refine V_iconst (pc := 12) (v := 0) dX11_pointsOf_12 rfl ?_
    refine V_iret (pc := 13) rfl rfl dX11_pointsOf_13 (by omega) (by omega) ?_
    refine ⟨rfl, rfl, rfl, rfl, rfl, ?_⟩
    refine ⟨_, rfl, ?_⟩
    unfold ptsF
    rw [i8, Int.toNat_natCast, Int.toNat_natCast]
    rw [if_pos (by omega)]
    decide
set_option maxRecDepth 100000 in
set_option maxHeartbeats 4000000 in
theorem l_X11_totalOf (G : vG) {n : Nat} {sh : vS} {I : vI} {L : vL} {R : vR} (X : vI) (a j : Nat) (hw : WF n sh R) (hC : JC n sh I L R X) (hK : KD n sh I R X a j) (hY : JW I X) (hV : JV X) (h0e : ∃ k, k < (X 27 27).toInt.toNat ∧ due0P X k) : ∀ (f m : Nat) (k : Int32) (s : Int32) (hm : (m : Int) ≤ (X 27 30).toInt) (hk : k.toInt = (m : Int)) (hs : s.toInt = totF X (a : Int) m ∧ 0 ≤ s.toInt ∧ s.toInt ≤ 300 * (m : Int)) (hf : (X 27 30).toInt < (m : Int) + f), V G RX11 cX11_totalOf (some .int) false 5 0 0 4 (PI n sh L R (fun I' o => I = I' ∧ ∃ v : Int32, o = some (.int v) ∧ (v.toInt = totF X (a : Int) (X 27 30).toInt.toNat ∧ 0 ≤ v.toInt ∧ v.toInt ≤ 2400))) 4 [(0, .ref (ad G 0)), (1, .ref (ad G j)), (2, .int s), (3, .int k)] [] 0 0 n sh I L R := by
  intro f
  induction f with
  | zero => intro m k s hm hk hs hf; omega
  | succ f ih =>
    intro m k s hm hk hs hf
    have hC1 : (I 0 6).toInt = (X 27 30).toInt := by rw [hC.1]
    have hC2 := hC.2.1
    refine V_iload_n (pc := 4) 3 dX11_totalOf_4 rfl rfl ?_
    refine V_aload_n (pc := 5) 0 dX11_totalOf_5 rfl rfl ?_
    refine V_gI (pc := 6) (v := (I 0 6)) rfl fk_X11_186_11 dX11_totalOf_6 (wN hw (by decide)) (wS1 hw (by decide) rfl) ?_
    refine V_icmp_ge (pc := 9) (tgt := 27) dX11_totalOf_9 (by decide) (fun c_9_1 => ?_) (fun c_9_1 => ?_)
    · have c_9_1 : (I 0 6).toInt ≤ k.toInt := c_9_1
      refine V_iload_n (pc := 27) 2 dX11_totalOf_27 rfl rfl ?_
      refine V_iret (pc := 28) rfl rfl dX11_totalOf_28 (by omega) (by omega) ?_
      refine ⟨rfl, rfl, rfl, rfl, rfl, ?_⟩
      have e1 : (X 27 30).toInt.toNat = m := by omega
      rw [e1]
      exact ⟨_, rfl, by omega⟩
    · have c_9_1 : k.toInt < (I 0 6).toInt := c_9_1
      refine V_iload_n (pc := 12) 2 dX11_totalOf_12 rfl rfl ?_
      refine V_aload_n (pc := 13) 0 dX11_totalOf_13 rfl rfl ?_
      refine V_aload_n (pc := 14) 1 dX11_totalOf_14 rfl rfl ?_
      refine V_iload_n (pc := 15) 3 dX11_totalOf_15 rfl rfl ?_
      refine V_callV (pc := 16) (As := [.ref (ad G j), .int k]) (st := [.int s]) (c_X11_pointsOf G X a j m k hw hC hK hY hV h0e hk (by omega)) mf_X11_pointsOf ml_X11_238 iv_X11_pointsOf (wN hw (by decide)) (wS1 hw (by decide) rfl) (by decide) rfl dX11_totalOf_16 rfl rfl (by omega) (by omega) (by omega) (Nat.le_of_ble_eq_true rfl) (fun r_16_2 n_16_2 sh_16_2 I_16_2 L_16_2 R_16_2 hq_16_2 => ?_)
      obtain ⟨rfl, rfl, rfl, rfl, rfl, v_16_2, rfl, hv_16_2⟩ := hq_16_2
      refine V_iadd (pc := 19) dX11_totalOf_19 (fun x_19_3 e_19_3 => ?_)
      have t_19_3 : x_19_3.toInt = s.toInt + v_16_2.toInt := addT e_19_3 rfl rfl (by omega) (by omega)
      refine V_istore_n (pc := 20) (lo' := [(0, .ref (ad G 0)), (1, .ref (ad G j)), (2, .int x_19_3), (3, .int k)]) dX11_totalOf_20 rfl (by decide) rfl ?_
      obtain ⟨x_21_4, e_21_4⟩ : ∃ y : Int32, y = k + (1) := ⟨_, rfl⟩
      have t_21_4 : x_21_4.toInt = k.toInt + 1 := addT e_21_4 rfl rfl (by omega) (by omega)
      refine V_iinc (pc := 21) (v := x_21_4) (lo' := [(0, .ref (ad G 0)), (1, .ref (ad G j)), (2, .int x_19_3), (3, .int x_21_4)]) 3 dX11_totalOf_21 rfl e_21_4.symm (by decide) rfl ?_
      refine V_goto (pc := 24) (tgt := 4) dX11_totalOf_24 (by decide) ?_
      exact ih (m + 1) x_21_4 x_19_3 (by omega) (by omega) (by unfold totF; omega) (by omega)
set_option maxRecDepth 100000 in
set_option maxHeartbeats 4000000 in
theorem c_X11_totalOf (G : vG) {n : Nat} {sh : vS} {I : vI} {L : vL} {R : vR} (X : vI) (a j : Nat) (hw : WF n sh R) (hC : JC n sh I L R X) (hK : KD n sh I R X a j) (hY : JW I X) (hV : JV X) (h0e : ∃ k, k < (X 27 27).toInt.toNat ∧ due0P X k) : CT G yX11_totalOf cX11_totalOf 4 (some .int) 5 0 0 [.ref (ad G 0), .ref (ad G j)] n sh I L R (PI n sh L R (fun I' o => I = I' ∧ ∃ v : Int32, o = some (.int v) ∧ (v.toInt = totF X (a : Int) (X 27 30).toInt.toNat ∧ 0 ≤ v.toInt ∧ v.toInt ≤ 2400))) := by
  refine CT_of (own := RX11) (ini := false) (lo := [(0, .ref (ad G 0)), (1, .ref (ad G j))]) mf_X11_totalOf (Nat.le_of_ble_eq_true rfl) rfl (fun h => by first | rfl | cases h) rfl ?_
  refine V_iconst (pc := 0) (v := 0) dX11_totalOf_0 rfl ?_
  refine V_istore_n (pc := 1) (lo' := [(0, .ref (ad G 0)), (1, .ref (ad G j)), (2, .int 0)]) dX11_totalOf_1 rfl (by decide) rfl ?_
  refine V_iconst (pc := 2) (v := 0) dX11_totalOf_2 rfl ?_
  refine V_istore_n (pc := 3) (lo' := [(0, .ref (ad G 0)), (1, .ref (ad G j)), (2, .int 0), (3, .int 0)]) dX11_totalOf_3 rfl (by decide) rfl ?_
  exact l_X11_totalOf G X a j hw hC hK hY hV h0e ((X 27 30).toInt.toNat + 1) 0 0 0 (by have := hC.2.1; omega) rfl ⟨rfl, by decide, by decide⟩ (by omega)
