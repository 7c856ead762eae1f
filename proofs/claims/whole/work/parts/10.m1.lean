set_option maxRecDepth 100000 in
set_option maxHeartbeats 4000000 in
theorem c_X12_in (G : vG) {n : Nat} {sh : vS} {I : vI} {L : vL} {R : vR} (a b c : Int64)  : CT G yX12_in cX12_in 6 (some .boolean) 0 0 0 [.long a, .long b, .long c] n sh I L R (PI n sh L R (fun I' r => I = I' ∧ rb r (b.toInt ≤ a.toInt ∧ a.toInt ≤ c.toInt))) := by
  refine CT_of (own := RX12) (ini := false) (lo := [(0, .long a), (2, .long b), (4, .long c)]) mf_X12_in (Nat.le_of_ble_eq_true rfl) rfl (fun h => by first | rfl | cases h) rfl ?_
  refine V_lload_n (pc := 0) 0 dX12_in_0 rfl rfl ?_
  refine V_lload_n (pc := 1) 1 dX12_in_1 rfl rfl ?_
  refine V_lcmp (pc := 2) dX12_in_2 (fun x_2_1 e_2_1 => ?_)
  refine V_if_lt (pc := 3) (tgt := 17) dX12_in_3 (by decide) (fun c_2_1 => ?_) (fun c_2_1 => ?_)
  · have c_2_1 : a.toInt < b.toInt := (lcT_lt e_2_1).mp c_2_1
    refine V_iconst (pc := 17) (v := 0) dX12_in_17 rfl ?_
    refine V_iret (pc := 18) rfl rfl dX12_in_18 (by omega) (by omega) ?_
    exact ⟨rfl, rfl, rfl, rfl, rfl, Or.inr ⟨by omega, rfl⟩⟩
  · have c_2_1 : b.toInt ≤ a.toInt := (lcT_ge e_2_1).mp c_2_1
    refine V_lload_n (pc := 6) 0 dX12_in_6 rfl rfl ?_
    refine V_lload (pc := 7) 2 dX12_in_7 rfl ?_
    refine V_lcmp (pc := 9) dX12_in_9 (fun x_9_2 e_9_2 => ?_)
    refine V_if_gt (pc := 10) (tgt := 17) dX12_in_10 (by decide) (fun c_9_2 => ?_) (fun c_9_2 => ?_)
    · have c_9_2 : c.toInt < a.toInt := (lcT_gt e_9_2).mp c_9_2
      refine V_iconst (pc := 17) (v := 0) dX12_in_17 rfl ?_
      refine V_iret (pc := 18) rfl rfl dX12_in_18 (by omega) (by omega) ?_
      exact ⟨rfl, rfl, rfl, rfl, rfl, Or.inr ⟨by omega, rfl⟩⟩
    · have c_9_2 : a.toInt ≤ c.toInt := (lcT_le e_9_2).mp c_9_2
      refine V_iconst (pc := 13) (v := 1) dX12_in_13 rfl ?_
      refine V_goto (pc := 14) (tgt := 18) dX12_in_14 (by decide) ?_
      refine V_iret (pc := 18) rfl rfl dX12_in_18 (by omega) (by omega) ?_
      exact ⟨rfl, rfl, rfl, rfl, rfl, Or.inl ⟨by omega, rfl⟩⟩
set_option maxRecDepth 100000 in
set_option maxHeartbeats 4000000 in
theorem c_X12_lost (G : vG) {n : Nat} {sh : vS} {I : vI} {L : vL} {R : vR}   : CT G yX12_lost cX12_lost 0 (some .long) 0 0 0 [] n sh I L R (PI n sh L R (fun I' r => I = I' ∧ r = some (.long (-9223372036854775808)))) := by
  refine CT_of (own := RX12) (ini := false) (lo := []) mf_X12_lost (Nat.le_of_ble_eq_true rfl) rfl (fun h => by first | rfl | cases h) rfl ?_
  refine V_ldc2 (pc := 0) dX12_lost_0 kk_X12_99 ?_
  refine V_lret (pc := 3) rfl dX12_lost_3 (by omega) (by omega) ?_
  exact ⟨rfl, rfl, rfl, rfl, rfl, rfl⟩
set_option maxRecDepth 100000 in
set_option maxHeartbeats 4000000 in
theorem c_X12_refused (G : vG) {n : Nat} {sh : vS} {I : vI} {L : vL} {R : vR} (a : Int32) (hw : WF n sh R) : CT G yX12_refused cX12_refused 2 (some .int) 0 0 0 [.ref (ad G 27), .int a] n sh I L R (PI n sh L R (fun I' r => up2 I 27 0 0 = I' ∧ r = some (.int a))) := by
  refine CT_of (own := RX12) (ini := false) (lo := [(0, .ref (ad G 27)), (1, .int a)]) mf_X12_refused (Nat.le_of_ble_eq_true rfl) rfl (fun h => by first | rfl | cases h) rfl ?_
  refine V_aload_n (pc := 0) 0 dX12_refused_0 rfl rfl ?_
  refine V_iconst (pc := 1) (v := 0) dX12_refused_1 rfl ?_
  refine V_putI (pc := 2) fw_X12_101_12 rfl rfl dX12_refused_2 (wN hw (by decide)) (wS1 hw (by decide) rfl) ?_
  refine V_iload_n (pc := 5) 1 dX12_refused_5 rfl rfl ?_
  refine V_iret (pc := 6) rfl rfl dX12_refused_6 (by omega) (by omega) ?_
  exact ⟨rfl, rfl, rfl, rfl, rfl, rfl⟩
set_option maxRecDepth 100000 in
set_option maxHeartbeats 4000000 in
theorem c_X12_failed (G : vG) {n : Nat} {sh : vS} {I : vI} {L : vL} {R : vR} (a : Int32) (hw : WF n sh R) : CT G yX12_failed cX12_failed 2 (some .int) 0 0 0 [.ref (ad G 27), .int a] n sh I L R (PI n sh L R (fun I' r => up2 I 27 0 a = I' ∧ r = some (.int (-10 - a)))) := by
  refine CT_of (own := RX12) (ini := false) (lo := [(0, .ref (ad G 27)), (1, .int a)]) mf_X12_failed (Nat.le_of_ble_eq_true rfl) rfl (fun h => by first | rfl | cases h) rfl ?_
  refine V_aload_n (pc := 0) 0 dX12_failed_0 rfl rfl ?_
  refine V_iload_n (pc := 1) 1 dX12_failed_1 rfl rfl ?_
  refine V_putI (pc := 2) fw_X12_101_12 rfl rfl dX12_failed_2 (wN hw (by decide)) (wS1 hw (by decide) rfl) ?_
  refine V_bipush (pc := 5) (v := (-10)) dX12_failed_5 rfl ?_
  refine V_iload_n (pc := 7) 1 dX12_failed_7 rfl rfl ?_
  refine V_isub (pc := 8) dX12_failed_8 (fun x_8_1 e_8_1 => ?_)
  refine V_iret (pc := 9) rfl rfl dX12_failed_9 (by omega) (by omega) ?_
  exact ⟨rfl, rfl, rfl, rfl, rfl, by rw [e_8_1]⟩
set_option maxRecDepth 100000 in
set_option maxHeartbeats 4000000 in
theorem c_X12_failedLong (G : vG) {n : Nat} {sh : vS} {I : vI} {L : vL} {R : vR} (a : Int32) (hw : WF n sh R) : CT G yX12_failedLong cX12_failedLong 2 (some .long) 1 0 0 [.ref (ad G 27), .int a] n sh I L R (PI n sh L R (fun I' r => up2 I 27 0 a = I' ∧ r = some (.long (-9223372036854775808)))) := by
  refine CT_of (own := RX12) (ini := false) (lo := [(0, .ref (ad G 27)), (1, .int a)]) mf_X12_failedLong (Nat.le_of_ble_eq_true rfl) rfl (fun h => by first | rfl | cases h) rfl ?_
  refine V_aload_n (pc := 0) 0 dX12_failedLong_0 rfl rfl ?_
  refine V_iload_n (pc := 1) 1 dX12_failedLong_1 rfl rfl ?_
  refine V_putI (pc := 2) fw_X12_101_12 rfl rfl dX12_failedLong_2 (wN hw (by decide)) (wS1 hw (by decide) rfl) ?_
  refine V_callS (pc := 5) (As := []) (st := []) (c_X12_lost G) mf_X12_lost ml_X12_104 st_X12_lost dX12_failedLong_5 rfl rfl (by omega) (by omega) (by omega) (Nat.le_of_ble_eq_true rfl) (fun r_5_1 n_5_1 sh_5_1 I_5_1 L_5_1 R_5_1 hq_5_1 => ?_)
  obtain ⟨rfl, rfl, rfl, rfl, rfl, rfl⟩ := hq_5_1
  refine V_lret (pc := 8) rfl dX12_failedLong_8 (by omega) (by omega) ?_
  exact ⟨rfl, rfl, rfl, rfl, rfl, rfl⟩
set_option maxRecDepth 100000 in
set_option maxHeartbeats 4000000 in
theorem c_X12_noRoad (G : vG) {n : Nat} {sh : vS} {I : vI} {L : vL} {R : vR} (a : Int32) (hw : WF n sh R) (h0 : 0 ≤ (I 27 1).toInt) : CT G yX12_noRoad cX12_noRoad 2 (some .boolean) 1 0 0 [.ref (ad G 27), .int a] n sh I L R (PI n sh L R (fun I' r => I = I' ∧ rb r (¬ (0 ≤ a.toInt ∧ a.toInt < (I 27 1).toInt)))) := by
  refine CT_of (own := RX12) (ini := false) (lo := [(0, .ref (ad G 27)), (1, .int a)]) mf_X12_noRoad (Nat.le_of_ble_eq_true rfl) rfl (fun h => by first | rfl | cases h) rfl ?_
  refine V_iload_n (pc := 0) 1 dX12_noRoad_0 rfl rfl ?_
  refine V_i2l (pc := 1) dX12_noRoad_1 (fun x_1_1 e_1_1 => ?_)
  have t_1_1 : x_1_1.toInt = a.toInt := i2lT e_1_1 rfl
  have b_1_1 := fb_rng a
  refine V_lconst (pc := 2) (v := 0) dX12_noRoad_2 rfl ?_
  refine V_aload_n (pc := 3) 0 dX12_noRoad_3 rfl rfl ?_
  refine V_gI (pc := 4) (v := (I 27 1)) rfl fk_X12_108_12 dX12_noRoad_4 (wN hw (by decide)) (wS1 hw (by decide) rfl) ?_
  refine V_i2l (pc := 7) dX12_noRoad_7 (fun x_7_2 e_7_2 => ?_)
  have t_7_2 : x_7_2.toInt = (I 27 1).toInt := i2lT e_7_2 rfl
  have b_7_2 := fb_rng (I 27 1)
  refine V_lconst (pc := 8) (v := 1) dX12_noRoad_8 rfl ?_
  refine V_lsub (pc := 9) dX12_noRoad_9 (fun x_9_3 e_9_3 => ?_)
  have t_9_3 : x_9_3.toInt = x_7_2.toInt - 1 := lsubT e_9_3 rfl rfl (by omega) (by omega)
  refine V_callS (pc := 10) (As := [.long x_1_1, .long 0, .long x_9_3]) (st := []) (c_X12_in G x_1_1 0 x_9_3) mf_X12_in ml_X12_111 st_X12_in dX12_noRoad_10 rfl rfl (by omega) (by omega) (by omega) (Nat.le_of_ble_eq_true rfl) (fun r_10_4 n_10_4 sh_10_4 I_10_4 L_10_4 R_10_4 hq_10_4 => ?_)
  obtain ⟨rfl, rfl, rfl, rfl, rfl, hq_10_4⟩ := hq_10_4
  rcases hq_10_4 with ⟨c_10_4, rfl⟩ | ⟨c_10_4, rfl⟩
  · have c_10_4 : 0 ≤ x_1_1.toInt ∧ x_1_1.toInt ≤ x_9_3.toInt := c_10_4
    refine V_if_ne_t (pc := 13) (tgt := 20) dX12_noRoad_13 (by decide) (by decide) ?_
    refine V_iconst (pc := 20) (v := 0) dX12_noRoad_20 rfl ?_
    refine V_iret (pc := 21) rfl rfl dX12_noRoad_21 (by omega) (by omega) ?_
    exact ⟨rfl, rfl, rfl, rfl, rfl, Or.inr ⟨by omega, rfl⟩⟩
  · have c_10_4 : ¬ (0 ≤ x_1_1.toInt ∧ x_1_1.toInt ≤ x_9_3.toInt) := c_10_4
    refine V_if_ne_f (pc := 13) (tgt := 20) dX12_noRoad_13 (by decide) (by decide) ?_
    refine V_iconst (pc := 16) (v := 1) dX12_noRoad_16 rfl ?_
    refine V_goto (pc := 17) (tgt := 21) dX12_noRoad_17 (by decide) ?_
    refine V_iret (pc := 21) rfl rfl dX12_noRoad_21 (by omega) (by omega) ?_
    exact ⟨rfl, rfl, rfl, rfl, rfl, Or.inl ⟨by omega, rfl⟩⟩
set_option maxRecDepth 100000 in
set_option maxHeartbeats 4000000 in
theorem c_X12_noControl (G : vG) {n : Nat} {sh : vS} {I : vI} {L : vL} {R : vR} (a : Int32) (hw : WF n sh R) (h0 : 0 ≤ (I 27 30).toInt) : CT G yX12_noControl cX12_noControl 2 (some .boolean) 1 0 0 [.ref (ad G 27), .int a] n sh I L R (PI n sh L R (fun I' r => I = I' ∧ rb r (¬ (0 ≤ a.toInt ∧ a.toInt < (I 27 30).toInt)))) := by
  refine CT_of (own := RX12) (ini := false) (lo := [(0, .ref (ad G 27)), (1, .int a)]) mf_X12_noControl (Nat.le_of_ble_eq_true rfl) rfl (fun h => by first | rfl | cases h) rfl ?_
  refine V_iload_n (pc := 0) 1 dX12_noControl_0 rfl rfl ?_
  refine V_i2l (pc := 1) dX12_noControl_1 (fun x_1_1 e_1_1 => ?_)
  have t_1_1 : x_1_1.toInt = a.toInt := i2lT e_1_1 rfl
  have b_1_1 := fb_rng a
  refine V_lconst (pc := 2) (v := 0) dX12_noControl_2 rfl ?_
  refine V_aload_n (pc := 3) 0 dX12_noControl_3 rfl rfl ?_
  refine V_gI (pc := 4) (v := (I 27 30)) rfl fk_X12_199_12 dX12_noControl_4 (wN hw (by decide)) (wS1 hw (by decide) rfl) ?_
  refine V_i2l (pc := 7) dX12_noControl_7 (fun x_7_2 e_7_2 => ?_)
  have t_7_2 : x_7_2.toInt = (I 27 30).toInt := i2lT e_7_2 rfl
  have b_7_2 := fb_rng (I 27 30)
  refine V_lconst (pc := 8) (v := 1) dX12_noControl_8 rfl ?_
  refine V_lsub (pc := 9) dX12_noControl_9 (fun x_9_3 e_9_3 => ?_)
  have t_9_3 : x_9_3.toInt = x_7_2.toInt - 1 := lsubT e_9_3 rfl rfl (by omega) (by omega)
  refine V_callS (pc := 10) (As := [.long x_1_1, .long 0, .long x_9_3]) (st := []) (c_X12_in G x_1_1 0 x_9_3) mf_X12_in ml_X12_111 st_X12_in dX12_noControl_10 rfl rfl (by omega) (by omega) (by omega) (Nat.le_of_ble_eq_true rfl) (fun r_10_4 n_10_4 sh_10_4 I_10_4 L_10_4 R_10_4 hq_10_4 => ?_)
  obtain ⟨rfl, rfl, rfl, rfl, rfl, hq_10_4⟩ := hq_10_4
  rcases hq_10_4 with ⟨c_10_4, rfl⟩ | ⟨c_10_4, rfl⟩
  · have c_10_4 : 0 ≤ x_1_1.toInt ∧ x_1_1.toInt ≤ x_9_3.toInt := c_10_4
    refine V_if_ne_t (pc := 13) (tgt := 20) dX12_noControl_13 (by decide) (by decide) ?_
    refine V_iconst (pc := 20) (v := 0) dX12_noControl_20 rfl ?_
    refine V_iret (pc := 21) rfl rfl dX12_noControl_21 (by omega) (by omega) ?_
    exact ⟨rfl, rfl, rfl, rfl, rfl, Or.inr ⟨by omega, rfl⟩⟩
  · have c_10_4 : ¬ (0 ≤ x_1_1.toInt ∧ x_1_1.toInt ≤ x_9_3.toInt) := c_10_4
    refine V_if_ne_f (pc := 13) (tgt := 20) dX12_noControl_13 (by decide) (by decide) ?_
    refine V_iconst (pc := 16) (v := 1) dX12_noControl_16 rfl ?_
    refine V_goto (pc := 17) (tgt := 21) dX12_noControl_17 (by decide) ?_
    refine V_iret (pc := 21) rfl rfl dX12_noControl_21 (by omega) (by omega) ?_
    exact ⟨rfl, rfl, rfl, rfl, rfl, Or.inl ⟨by omega, rfl⟩⟩
set_option maxRecDepth 100000 in
set_option maxHeartbeats 4000000 in
theorem c_X12_noCar (G : vG) {n : Nat} {sh : vS} {I : vI} {L : vL} {R : vR} (a : Int32) (hw : WF n sh R) (h0 : 0 ≤ (I 27 35).toInt) : CT G yX12_noCar cX12_noCar 2 (some .boolean) 1 0 0 [.ref (ad G 27), .int a] n sh I L R (PI n sh L R (fun I' r => I = I' ∧ rb r (¬ (0 ≤ a.toInt ∧ a.toInt < (I 27 35).toInt)))) := by
  refine CT_of (own := RX12) (ini := false) (lo := [(0, .ref (ad G 27)), (1, .int a)]) mf_X12_noCar (Nat.le_of_ble_eq_true rfl) rfl (fun h => by first | rfl | cases h) rfl ?_
  refine V_iload_n (pc := 0) 1 dX12_noCar_0 rfl rfl ?_
  refine V_i2l (pc := 1) dX12_noCar_1 (fun x_1_1 e_1_1 => ?_)
  have t_1_1 : x_1_1.toInt = a.toInt := i2lT e_1_1 rfl
  have b_1_1 := fb_rng a
  refine V_lconst (pc := 2) (v := 0) dX12_noCar_2 rfl ?_
  refine V_aload_n (pc := 3) 0 dX12_noCar_3 rfl rfl ?_
  refine V_gI (pc := 4) (v := (I 27 35)) rfl fk_X12_238_12 dX12_noCar_4 (wN hw (by decide)) (wS1 hw (by decide) rfl) ?_
  refine V_i2l (pc := 7) dX12_noCar_7 (fun x_7_2 e_7_2 => ?_)
  have t_7_2 : x_7_2.toInt = (I 27 35).toInt := i2lT e_7_2 rfl
  have b_7_2 := fb_rng (I 27 35)
  refine V_lconst (pc := 8) (v := 1) dX12_noCar_8 rfl ?_
  refine V_lsub (pc := 9) dX12_noCar_9 (fun x_9_3 e_9_3 => ?_)
  have t_9_3 : x_9_3.toInt = x_7_2.toInt - 1 := lsubT e_9_3 rfl rfl (by omega) (by omega)
  refine V_callS (pc := 10) (As := [.long x_1_1, .long 0, .long x_9_3]) (st := []) (c_X12_in G x_1_1 0 x_9_3) mf_X12_in ml_X12_111 st_X12_in dX12_noCar_10 rfl rfl (by omega) (by omega) (by omega) (Nat.le_of_ble_eq_true rfl) (fun r_10_4 n_10_4 sh_10_4 I_10_4 L_10_4 R_10_4 hq_10_4 => ?_)
  obtain ⟨rfl, rfl, rfl, rfl, rfl, hq_10_4⟩ := hq_10_4
  rcases hq_10_4 with ⟨c_10_4, rfl⟩ | ⟨c_10_4, rfl⟩
  · have c_10_4 : 0 ≤ x_1_1.toInt ∧ x_1_1.toInt ≤ x_9_3.toInt := c_10_4
    refine V_if_ne_t (pc := 13) (tgt := 20) dX12_noCar_13 (by decide) (by decide) ?_
    refine V_iconst (pc := 20) (v := 0) dX12_noCar_20 rfl ?_
    refine V_iret (pc := 21) rfl rfl dX12_noCar_21 (by omega) (by omega) ?_
    exact ⟨rfl, rfl, rfl, rfl, rfl, Or.inr ⟨by omega, rfl⟩⟩
  · have c_10_4 : ¬ (0 ≤ x_1_1.toInt ∧ x_1_1.toInt ≤ x_9_3.toInt) := c_10_4
    refine V_if_ne_f (pc := 13) (tgt := 20) dX12_noCar_13 (by decide) (by decide) ?_
    refine V_iconst (pc := 16) (v := 1) dX12_noCar_16 rfl ?_
    refine V_goto (pc := 17) (tgt := 21) dX12_noCar_17 (by decide) ?_
    refine V_iret (pc := 21) rfl rfl dX12_noCar_21 (by omega) (by omega) ?_
    exact ⟨rfl, rfl, rfl, rfl, rfl, Or.inl ⟨by omega, rfl⟩⟩
set_option maxRecDepth 100000 in
set_option maxHeartbeats 4000000 in
theorem c_X12_isSpot (G : vG) {n : Nat} {sh : vS} {I : vI} {L : vL} {R : vR} (a : Int32)  : CT G yX12_isSpot cX12_isSpot 1 (some .boolean) 1 0 0 [.int a] n sh I L R (PI n sh L R (fun I' r => I = I' ∧ rb r (0 ≤ a.toInt ∧ a.toInt ≤ 9))) := by
  refine CT_of (own := RX12) (ini := false) (lo := [(0, .int a)]) mf_X12_isSpot (Nat.le_of_ble_eq_true rfl) rfl (fun h => by first | rfl | cases h) rfl ?_
  refine V_iload_n (pc := 0) 0 dX12_isSpot_0 rfl rfl ?_
  refine V_i2l (pc := 1) dX12_isSpot_1 (fun x_1_1 e_1_1 => ?_)
  have t_1_1 : x_1_1.toInt = a.toInt := i2lT e_1_1 rfl
  have b_1_1 := fb_rng a
  refine V_lconst (pc := 2) (v := 0) dX12_isSpot_2 rfl ?_
  refine V_ldc2 (pc := 3) dX12_isSpot_3 kk_X12_115 ?_
  refine V_callS (pc := 6) (As := [.long x_1_1, .long 0, .long 9]) (st := []) (c_X12_in G x_1_1 0 9) mf_X12_in ml_X12_111 st_X12_in dX12_isSpot_6 rfl rfl (by omega) (by omega) (by omega) (Nat.le_of_ble_eq_true rfl) (fun r_6_2 n_6_2 sh_6_2 I_6_2 L_6_2 R_6_2 hq_6_2 => ?_)
  obtain ⟨rfl, rfl, rfl, rfl, rfl, hq_6_2⟩ := hq_6_2
  rcases hq_6_2 with ⟨c_6_2, rfl⟩ | ⟨c_6_2, rfl⟩
  · have c_6_2 : 0 ≤ x_1_1.toInt ∧ x_1_1.toInt ≤ 9 := c_6_2
    refine V_iret (pc := 9) rfl rfl dX12_isSpot_9 (by omega) (by omega) ?_
    exact ⟨rfl, rfl, rfl, rfl, rfl, Or.inl ⟨by omega, rfl⟩⟩
  · have c_6_2 : ¬ (0 ≤ x_1_1.toInt ∧ x_1_1.toInt ≤ 9) := c_6_2
    refine V_iret (pc := 9) rfl rfl dX12_isSpot_9 (by omega) (by omega) ?_
    exact ⟨rfl, rfl, rfl, rfl, rfl, Or.inr ⟨by omega, rfl⟩⟩
set_option maxRecDepth 100000 in
set_option maxHeartbeats 4000000 in
theorem c_X12_isTime (G : vG) {n : Nat} {sh : vS} {I : vI} {L : vL} {R : vR} (a : Int32)  : CT G yX12_isTime cX12_isTime 1 (some .boolean) 1 0 0 [.int a] n sh I L R (PI n sh L R (fun I' r => I = I' ∧ rb r (0 ≤ a.toInt ∧ a.toInt ≤ 1000000))) := by
  refine CT_of (own := RX12) (ini := false) (lo := [(0, .int a)]) mf_X12_isTime (Nat.le_of_ble_eq_true rfl) rfl (fun h => by first | rfl | cases h) rfl ?_
  refine V_iload_n (pc := 0) 0 dX12_isTime_0 rfl rfl ?_
  refine V_i2l (pc := 1) dX12_isTime_1 (fun x_1_1 e_1_1 => ?_)
  have t_1_1 : x_1_1.toInt = a.toInt := i2lT e_1_1 rfl
  have b_1_1 := fb_rng a
  refine V_lconst (pc := 2) (v := 0) dX12_isTime_2 rfl ?_
  refine V_ldc2 (pc := 3) dX12_isTime_3 kk_X12_226 ?_
  refine V_callS (pc := 6) (As := [.long x_1_1, .long 0, .long 1000000]) (st := []) (c_X12_in G x_1_1 0 1000000) mf_X12_in ml_X12_111 st_X12_in dX12_isTime_6 rfl rfl (by omega) (by omega) (by omega) (Nat.le_of_ble_eq_true rfl) (fun r_6_2 n_6_2 sh_6_2 I_6_2 L_6_2 R_6_2 hq_6_2 => ?_)
  obtain ⟨rfl, rfl, rfl, rfl, rfl, hq_6_2⟩ := hq_6_2
  rcases hq_6_2 with ⟨c_6_2, rfl⟩ | ⟨c_6_2, rfl⟩
  · have c_6_2 : 0 ≤ x_1_1.toInt ∧ x_1_1.toInt ≤ 1000000 := c_6_2
    refine V_iret (pc := 9) rfl rfl dX12_isTime_9 (by omega) (by omega) ?_
    exact ⟨rfl, rfl, rfl, rfl, rfl, Or.inl ⟨by omega, rfl⟩⟩
  · have c_6_2 : ¬ (0 ≤ x_1_1.toInt ∧ x_1_1.toInt ≤ 1000000) := c_6_2
    refine V_iret (pc := 9) rfl rfl dX12_isTime_9 (by omega) (by omega) ?_
    exact ⟨rfl, rfl, rfl, rfl, rfl, Or.inr ⟨by omega, rfl⟩⟩
set_option maxRecDepth 100000 in
set_option maxHeartbeats 4000000 in
theorem c_X12_noSheet (G : vG) {n : Nat} {sh : vS} {I : vI} {L : vL} {R : vR} (a : Int32)  : CT G yX12_noSheet cX12_noSheet 1 (some .boolean) 1 0 0 [.int a] n sh I L R (PI n sh L R (fun I' r => I = I' ∧ rb r (¬ (0 ≤ a.toInt ∧ a.toInt ≤ 3)))) := by
  refine CT_of (own := RX12) (ini := false) (lo := [(0, .int a)]) mf_X12_noSheet (Nat.le_of_ble_eq_true rfl) rfl (fun h => by first | rfl | cases h) rfl ?_
  refine V_iload_n (pc := 0) 0 dX12_noSheet_0 rfl rfl ?_
  refine V_i2l (pc := 1) dX12_noSheet_1 (fun x_1_1 e_1_1 => ?_)
  have t_1_1 : x_1_1.toInt = a.toInt := i2lT e_1_1 rfl
  have b_1_1 := fb_rng a
  refine V_lconst (pc := 2) (v := 0) dX12_noSheet_2 rfl ?_
  refine V_ldc2 (pc := 3) dX12_noSheet_3 kk_X12_135 ?_
  refine V_callS (pc := 6) (As := [.long x_1_1, .long 0, .long 3]) (st := []) (c_X12_in G x_1_1 0 3) mf_X12_in ml_X12_111 st_X12_in dX12_noSheet_6 rfl rfl (by omega) (by omega) (by omega) (Nat.le_of_ble_eq_true rfl) (fun r_6_2 n_6_2 sh_6_2 I_6_2 L_6_2 R_6_2 hq_6_2 => ?_)
  obtain ⟨rfl, rfl, rfl, rfl, rfl, hq_6_2⟩ := hq_6_2
  rcases hq_6_2 with ⟨c_6_2, rfl⟩ | ⟨c_6_2, rfl⟩
  · have c_6_2 : 0 ≤ x_1_1.toInt ∧ x_1_1.toInt ≤ 3 := c_6_2
    refine V_if_ne_t (pc := 9) (tgt := 16) dX12_noSheet_9 (by decide) (by decide) ?_
    refine V_iconst (pc := 16) (v := 0) dX12_noSheet_16 rfl ?_
    refine V_iret (pc := 17) rfl rfl dX12_noSheet_17 (by omega) (by omega) ?_
    exact ⟨rfl, rfl, rfl, rfl, rfl, Or.inr ⟨by omega, rfl⟩⟩
  · have c_6_2 : ¬ (0 ≤ x_1_1.toInt ∧ x_1_1.toInt ≤ 3) := c_6_2
    refine V_if_ne_f (pc := 9) (tgt := 16) dX12_noSheet_9 (by decide) (by decide) ?_
    refine V_iconst (pc := 12) (v := 1) dX12_noSheet_12 rfl ?_
    refine V_goto (pc := 13) (tgt := 17) dX12_noSheet_13 (by decide) ?_
    refine V_iret (pc := 17) rfl rfl dX12_noSheet_17 (by omega) (by omega) ?_
    exact ⟨rfl, rfl, rfl, rfl, rfl, Or.inl ⟨by omega, rfl⟩⟩
