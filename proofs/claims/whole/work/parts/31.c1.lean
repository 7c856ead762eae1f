set_option maxRecDepth 100000 in
set_option maxHeartbeats 4000000 in
theorem c_X11_isWithin (G : vG) {n : Nat} {sh : vS} {I : vI} {L : vL} {R : vR} (v a b : Int32)  : CT G yX11_isWithin cX11_isWithin 3 (some .boolean) 0 0 0 [.int v, .int a, .int b] n sh I L R (PI n sh L R (fun I' r => I = I' ∧ rb r (a.toInt ≤ v.toInt ∧ v.toInt ≤ b.toInt))) := by
  refine CT_of (own := RX11) (ini := false) (lo := [(0, .int v), (1, .int a), (2, .int b)]) mf_X11_isWithin (Nat.le_of_ble_eq_true rfl) rfl (fun h => by first | rfl | cases h) rfl ?_
  refine V_iload_n (pc := 0) 0 dX11_isWithin_0 rfl rfl ?_
  refine V_iload_n (pc := 1) 1 dX11_isWithin_1 rfl rfl ?_
  refine V_icmp_lt (pc := 2) (tgt := 14) dX11_isWithin_2 (by decide) (fun c_2_1 => ?_) (fun c_2_1 => ?_)
  · have c_2_1 : v.toInt < a.toInt := c_2_1
    refine V_iconst (pc := 14) (v := 0) dX11_isWithin_14 rfl ?_
    refine V_iret (pc := 15) rfl rfl dX11_isWithin_15 (by omega) (by omega) ?_
    exact ⟨rfl, rfl, rfl, rfl, rfl, Or.inr ⟨by omega, rfl⟩⟩
  · have c_2_1 : a.toInt ≤ v.toInt := c_2_1
    refine V_iload_n (pc := 5) 0 dX11_isWithin_5 rfl rfl ?_
    refine V_iload_n (pc := 6) 2 dX11_isWithin_6 rfl rfl ?_
    refine V_icmp_gt (pc := 7) (tgt := 14) dX11_isWithin_7 (by decide) (fun c_7_2 => ?_) (fun c_7_2 => ?_)
    · have c_7_2 : b.toInt < v.toInt := c_7_2
      refine V_iconst (pc := 14) (v := 0) dX11_isWithin_14 rfl ?_
      refine V_iret (pc := 15) rfl rfl dX11_isWithin_15 (by omega) (by omega) ?_
      exact ⟨rfl, rfl, rfl, rfl, rfl, Or.inr ⟨by omega, rfl⟩⟩
    · have c_7_2 : v.toInt ≤ b.toInt := c_7_2
      refine V_iconst (pc := 10) (v := 1) dX11_isWithin_10 rfl ?_
      refine V_goto (pc := 11) (tgt := 15) dX11_isWithin_11 (by decide) ?_
      refine V_iret (pc := 15) rfl rfl dX11_isWithin_15 (by omega) (by omega) ?_
      exact ⟨rfl, rfl, rfl, rfl, rfl, Or.inl ⟨by omega, rfl⟩⟩
set_option maxRecDepth 100000 in
set_option maxHeartbeats 4000000 in
theorem c_X11_isSpot (G : vG) {n : Nat} {sh : vS} {I : vI} {L : vL} {R : vR} (a : Int32)  : CT G yX11_isSpot cX11_isSpot 1 (some .boolean) 1 0 0 [.int a] n sh I L R (PI n sh L R (fun I' r => I = I' ∧ rb r (0 ≤ a.toInt ∧ a.toInt ≤ 9))) := by
  refine CT_of (own := RX11) (ini := false) (lo := [(0, .int a)]) mf_X11_isSpot (Nat.le_of_ble_eq_true rfl) rfl (fun h => by first | rfl | cases h) rfl ?_
  refine V_iload_n (pc := 0) 0 dX11_isSpot_0 rfl rfl ?_
  refine V_iconst (pc := 1) (v := 0) dX11_isSpot_1 rfl ?_
  refine V_bipush (pc := 2) (v := 9) dX11_isSpot_2 rfl ?_
  refine V_callS (pc := 4) (As := [.int a, .int 0, .int 9]) (st := []) (c_X11_isWithin G a 0 9) mf_X11_isWithin ml_X11_61 st_X11_isWithin dX11_isSpot_4 rfl rfl (by omega) (by omega) (by omega) (Nat.le_of_ble_eq_true rfl) (fun r_4_1 n_4_1 sh_4_1 I_4_1 L_4_1 R_4_1 hq_4_1 => ?_)
  obtain ⟨rfl, rfl, rfl, rfl, rfl, hq_4_1⟩ := hq_4_1
  rcases hq_4_1 with ⟨c_4_1, rfl⟩ | ⟨c_4_1, rfl⟩
  · have c_4_1 : 0 ≤ a.toInt ∧ a.toInt ≤ 9 := c_4_1
    refine V_iret (pc := 7) rfl rfl dX11_isSpot_7 (by omega) (by omega) ?_
    exact ⟨rfl, rfl, rfl, rfl, rfl, Or.inl ⟨by omega, rfl⟩⟩
  · have c_4_1 : ¬ (0 ≤ a.toInt ∧ a.toInt ≤ 9) := c_4_1
    refine V_iret (pc := 7) rfl rfl dX11_isSpot_7 (by omega) (by omega) ?_
    exact ⟨rfl, rfl, rfl, rfl, rfl, Or.inr ⟨by omega, rfl⟩⟩
set_option maxRecDepth 100000 in
set_option maxHeartbeats 4000000 in
theorem c_X11_isLane (G : vG) {n : Nat} {sh : vS} {I : vI} {L : vL} {R : vR} (a : Int32)  : CT G yX11_isLane cX11_isLane 1 (some .boolean) 1 0 0 [.int a] n sh I L R (PI n sh L R (fun I' r => I = I' ∧ rb r (0 ≤ a.toInt ∧ a.toInt ≤ 2))) := by
  refine CT_of (own := RX11) (ini := false) (lo := [(0, .int a)]) mf_X11_isLane (Nat.le_of_ble_eq_true rfl) rfl (fun h => by first | rfl | cases h) rfl ?_
  refine V_iload_n (pc := 0) 0 dX11_isLane_0 rfl rfl ?_
  refine V_iconst (pc := 1) (v := 0) dX11_isLane_1 rfl ?_
  refine V_iconst (pc := 2) (v := 2) dX11_isLane_2 rfl ?_
  refine V_callS (pc := 3) (As := [.int a, .int 0, .int 2]) (st := []) (c_X11_isWithin G a 0 2) mf_X11_isWithin ml_X11_61 st_X11_isWithin dX11_isLane_3 rfl rfl (by omega) (by omega) (by omega) (Nat.le_of_ble_eq_true rfl) (fun r_3_1 n_3_1 sh_3_1 I_3_1 L_3_1 R_3_1 hq_3_1 => ?_)
  obtain ⟨rfl, rfl, rfl, rfl, rfl, hq_3_1⟩ := hq_3_1
  rcases hq_3_1 with ⟨c_3_1, rfl⟩ | ⟨c_3_1, rfl⟩
  · have c_3_1 : 0 ≤ a.toInt ∧ a.toInt ≤ 2 := c_3_1
    refine V_iret (pc := 6) rfl rfl dX11_isLane_6 (by omega) (by omega) ?_
    exact ⟨rfl, rfl, rfl, rfl, rfl, Or.inl ⟨by omega, rfl⟩⟩
  · have c_3_1 : ¬ (0 ≤ a.toInt ∧ a.toInt ≤ 2) := c_3_1
    refine V_iret (pc := 6) rfl rfl dX11_isLane_6 (by omega) (by omega) ?_
    exact ⟨rfl, rfl, rfl, rfl, rfl, Or.inr ⟨by omega, rfl⟩⟩
set_option maxRecDepth 100000 in
set_option maxHeartbeats 4000000 in
theorem c_X11_isTime (G : vG) {n : Nat} {sh : vS} {I : vI} {L : vL} {R : vR} (a : Int32)  : CT G yX11_isTime cX11_isTime 1 (some .boolean) 1 0 0 [.int a] n sh I L R (PI n sh L R (fun I' r => I = I' ∧ rb r (0 ≤ a.toInt ∧ a.toInt ≤ 1000000))) := by
  refine CT_of (own := RX11) (ini := false) (lo := [(0, .int a)]) mf_X11_isTime (Nat.le_of_ble_eq_true rfl) rfl (fun h => by first | rfl | cases h) rfl ?_
  refine V_iload_n (pc := 0) 0 dX11_isTime_0 rfl rfl ?_
  refine V_iconst (pc := 1) (v := 0) dX11_isTime_1 rfl ?_
  refine V_ldcw (pc := 2) dX11_isTime_2 kk_X11_294 ?_
  refine V_callS (pc := 5) (As := [.int a, .int 0, .int 1000000]) (st := []) (c_X11_isWithin G a 0 1000000) mf_X11_isWithin ml_X11_61 st_X11_isWithin dX11_isTime_5 rfl rfl (by omega) (by omega) (by omega) (Nat.le_of_ble_eq_true rfl) (fun r_5_1 n_5_1 sh_5_1 I_5_1 L_5_1 R_5_1 hq_5_1 => ?_)
  obtain ⟨rfl, rfl, rfl, rfl, rfl, hq_5_1⟩ := hq_5_1
  rcases hq_5_1 with ⟨c_5_1, rfl⟩ | ⟨c_5_1, rfl⟩
  · have c_5_1 : 0 ≤ a.toInt ∧ a.toInt ≤ 1000000 := c_5_1
    refine V_iret (pc := 8) rfl rfl dX11_isTime_8 (by omega) (by omega) ?_
    exact ⟨rfl, rfl, rfl, rfl, rfl, Or.inl ⟨by omega, rfl⟩⟩
  · have c_5_1 : ¬ (0 ≤ a.toInt ∧ a.toInt ≤ 1000000) := c_5_1
    refine V_iret (pc := 8) rfl rfl dX11_isTime_8 (by omega) (by omega) ?_
    exact ⟨rfl, rfl, rfl, rfl, rfl, Or.inr ⟨by omega, rfl⟩⟩
set_option maxRecDepth 100000 in
set_option maxHeartbeats 4000000 in
theorem c_X11_isSpanOfTime (G : vG) {n : Nat} {sh : vS} {I : vI} {L : vL} {R : vR} (a b : Int32)  : CT G yX11_isSpanOfTime cX11_isSpanOfTime 2 (some .boolean) 2 0 0 [.int a, .int b] n sh I L R (PI n sh L R (fun I' r => I = I' ∧ rb r (0 ≤ a.toInt ∧ a.toInt < b.toInt ∧ b.toInt ≤ 1000000))) := by
  refine CT_of (own := RX11) (ini := false) (lo := [(0, .int a), (1, .int b)]) mf_X11_isSpanOfTime (Nat.le_of_ble_eq_true rfl) rfl (fun h => by first | rfl | cases h) rfl ?_
  refine V_iload_n (pc := 0) 0 dX11_isSpanOfTime_0 rfl rfl ?_
  refine V_callS (pc := 1) (As := [.int a]) (st := []) (c_X11_isTime G a) mf_X11_isTime ml_X11_204 st_X11_isTime dX11_isSpanOfTime_1 rfl rfl (by omega) (by omega) (by omega) (Nat.le_of_ble_eq_true rfl) (fun r_1_1 n_1_1 sh_1_1 I_1_1 L_1_1 R_1_1 hq_1_1 => ?_)
  obtain ⟨rfl, rfl, rfl, rfl, rfl, hq_1_1⟩ := hq_1_1
  rcases hq_1_1 with ⟨c_1_1, rfl⟩ | ⟨c_1_1, rfl⟩
  · have c_1_1 : 0 ≤ a.toInt ∧ a.toInt ≤ 1000000 := c_1_1
    refine V_if_eq_f (pc := 4) (tgt := 23) dX11_isSpanOfTime_4 (by decide) (by decide) ?_
    refine V_iload_n (pc := 7) 1 dX11_isSpanOfTime_7 rfl rfl ?_
    refine V_callS (pc := 8) (As := [.int b]) (st := []) (c_X11_isTime G b) mf_X11_isTime ml_X11_204 st_X11_isTime dX11_isSpanOfTime_8 rfl rfl (by omega) (by omega) (by omega) (Nat.le_of_ble_eq_true rfl) (fun r_8_2 n_8_2 sh_8_2 I_8_2 L_8_2 R_8_2 hq_8_2 => ?_)
    obtain ⟨rfl, rfl, rfl, rfl, rfl, hq_8_2⟩ := hq_8_2
    rcases hq_8_2 with ⟨c_8_2, rfl⟩ | ⟨c_8_2, rfl⟩
    · have c_8_2 : 0 ≤ b.toInt ∧ b.toInt ≤ 1000000 := c_8_2
      refine V_if_eq_f (pc := 11) (tgt := 23) dX11_isSpanOfTime_11 (by decide) (by decide) ?_
      refine V_iload_n (pc := 14) 0 dX11_isSpanOfTime_14 rfl rfl ?_
      refine V_iload_n (pc := 15) 1 dX11_isSpanOfTime_15 rfl rfl ?_
      refine V_icmp_ge (pc := 16) (tgt := 23) dX11_isSpanOfTime_16 (by decide) (fun c_16_3 => ?_) (fun c_16_3 => ?_)
      · have c_16_3 : b.toInt ≤ a.toInt := c_16_3
        refine V_iconst (pc := 23) (v := 0) dX11_isSpanOfTime_23 rfl ?_
        refine V_iret (pc := 24) rfl rfl dX11_isSpanOfTime_24 (by omega) (by omega) ?_
        exact ⟨rfl, rfl, rfl, rfl, rfl, Or.inr ⟨by omega, rfl⟩⟩
      · have c_16_3 : a.toInt < b.toInt := c_16_3
        refine V_iconst (pc := 19) (v := 1) dX11_isSpanOfTime_19 rfl ?_
        refine V_goto (pc := 20) (tgt := 24) dX11_isSpanOfTime_20 (by decide) ?_
        refine V_iret (pc := 24) rfl rfl dX11_isSpanOfTime_24 (by omega) (by omega) ?_
        exact ⟨rfl, rfl, rfl, rfl, rfl, Or.inl ⟨by omega, rfl⟩⟩
    · have c_8_2 : ¬ (0 ≤ b.toInt ∧ b.toInt ≤ 1000000) := c_8_2
      refine V_if_eq_t (pc := 11) (tgt := 23) dX11_isSpanOfTime_11 (by decide) (by decide) ?_
      refine V_iconst (pc := 23) (v := 0) dX11_isSpanOfTime_23 rfl ?_
      refine V_iret (pc := 24) rfl rfl dX11_isSpanOfTime_24 (by omega) (by omega) ?_
      exact ⟨rfl, rfl, rfl, rfl, rfl, Or.inr ⟨by omega, rfl⟩⟩
  · have c_1_1 : ¬ (0 ≤ a.toInt ∧ a.toInt ≤ 1000000) := c_1_1
    refine V_if_eq_t (pc := 4) (tgt := 23) dX11_isSpanOfTime_4 (by decide) (by decide) ?_
    refine V_iconst (pc := 23) (v := 0) dX11_isSpanOfTime_23 rfl ?_
    refine V_iret (pc := 24) rfl rfl dX11_isSpanOfTime_24 (by omega) (by omega) ?_
    exact ⟨rfl, rfl, rfl, rfl, rfl, Or.inr ⟨by omega, rfl⟩⟩
set_option maxRecDepth 100000 in
set_option maxHeartbeats 4000000 in
theorem c_X11_cutToLane (G : vG) {n : Nat} {sh : vS} {I : vI} {L : vL} {R : vR} (v l : Int32)  : CT G yX11_cutToLane cX11_cutToLane 2 (some .int) 0 0 0 [.int v, .int l] n sh I L R (PI n sh L R (fun I' r => I = I' ∧ r = some (.int (laneF l v)))) := by
  refine CT_of (own := RX11) (ini := false) (lo := [(0, .int v), (1, .int l)]) mf_X11_cutToLane (Nat.le_of_ble_eq_true rfl) rfl (fun h => by first | rfl | cases h) rfl ?_
  refine V_iload_n (pc := 0) 1 dX11_cutToLane_0 rfl rfl ?_
  refine V_if_ne (pc := 1) (tgt := 7) dX11_cutToLane_1 (by decide) (fun c_1_1 => ?_) (fun c_1_1 => ?_)
  · have c_1_1 : l.toInt ≠ 0 := c_1_1
    refine V_iload_n (pc := 7) 1 dX11_cutToLane_7 rfl rfl ?_
    refine V_iconst (pc := 8) (v := 1) dX11_cutToLane_8 rfl ?_
    refine V_icmp_ne (pc := 9) (tgt := 17) dX11_cutToLane_9 (by decide) (fun c_9_2 => ?_) (fun c_9_2 => ?_)
    · have c_9_2 : l.toInt ≠ 1 := c_9_2
      refine V_iload_n (pc := 17) 0 dX11_cutToLane_17 rfl rfl ?_
      refine V_iret (pc := 18) rfl rfl dX11_cutToLane_18 (by omega) (by omega) ?_
      subst_vars
      refine ⟨rfl, rfl, rfl, rfl, rfl, ?_⟩
      unfold laneF
      (repeat' split) <;> first | rfl | (exfalso; omega)
    · have c_9_2 : l.toInt = 1 := c_9_2
      refine V_iload_n (pc := 12) 0 dX11_cutToLane_12 rfl rfl ?_
      refine V_i2s (pc := 13) dX11_cutToLane_13 (fun x_13_3 e_13_3 => ?_)
      refine V_goto (pc := 14) (tgt := 18) dX11_cutToLane_14 (by decide) ?_
      refine V_iret (pc := 18) rfl rfl dX11_cutToLane_18 (by omega) (by omega) ?_
      subst_vars
      refine ⟨rfl, rfl, rfl, rfl, rfl, ?_⟩
      unfold laneF
      (repeat' split) <;> first | rfl | (exfalso; omega)
  · have c_1_1 : l.toInt = 0 := c_1_1
    refine V_iload_n (pc := 4) 0 dX11_cutToLane_4 rfl rfl ?_
    refine V_i2b (pc := 5) dX11_cutToLane_5 (fun x_5_4 e_5_4 => ?_)
    refine V_iret (pc := 6) rfl rfl dX11_cutToLane_6 (by omega) (by omega) ?_
    subst_vars
    refine ⟨rfl, rfl, rfl, rfl, rfl, ?_⟩
    unfold laneF
    (repeat' split) <;> first | rfl | (exfalso; omega)
set_option maxRecDepth 100000 in
set_option maxHeartbeats 4000000 in
theorem c_X11_answerOfFault (G : vG) {n : Nat} {sh : vS} {I : vI} {L : vL} {R : vR} (f : Int32) (hw : WF n sh R) : CT G yX11_answerOfFault cX11_answerOfFault 2 (some .int) 0 0 0 [.ref (ad G 0), .int f] n sh I L R (PI n sh L R (fun I' r => up2 I 0 11 f = I' ∧ r = some (.int (-10 - f)))) := by
  refine CT_of (own := RX11) (ini := false) (lo := [(0, .ref (ad G 0)), (1, .int f)]) mf_X11_answerOfFault (Nat.le_of_ble_eq_true rfl) rfl (fun h => by first | rfl | cases h) rfl ?_
  refine V_aload_n (pc := 0) 0 dX11_answerOfFault_0 rfl rfl ?_
  refine V_iload_n (pc := 1) 1 dX11_answerOfFault_1 rfl rfl ?_
  refine V_putI (pc := 2) fw_X11_81_11 rfl rfl dX11_answerOfFault_2 (wN hw (by decide)) (wS1 hw (by decide) rfl) ?_
  refine V_bipush (pc := 5) (v := (-10)) dX11_answerOfFault_5 rfl ?_
  refine V_iload_n (pc := 7) 1 dX11_answerOfFault_7 rfl rfl ?_
  refine V_isub (pc := 8) dX11_answerOfFault_8 (fun x_8_1 e_8_1 => ?_)
  refine V_iret (pc := 9) rfl rfl dX11_answerOfFault_9 (by omega) (by omega) ?_
  subst_vars
  refine ⟨rfl, rfl, rfl, rfl, rfl, ?_⟩
  rfl
set_option maxRecDepth 100000 in
set_option maxHeartbeats 4000000 in
theorem c_X11_lostByFault (G : vG) {n : Nat} {sh : vS} {I : vI} {L : vL} {R : vR} (f : Int32) (hw : WF n sh R) : CT G yX11_lostByFault cX11_lostByFault 2 (some .long) 0 0 0 [.ref (ad G 0), .int f] n sh I L R (PI n sh L R (fun I' r => up2 I 0 11 f = I' ∧ r = some (.long (-9223372036854775808)))) := by
  refine CT_of (own := RX11) (ini := false) (lo := [(0, .ref (ad G 0)), (1, .int f)]) mf_X11_lostByFault (Nat.le_of_ble_eq_true rfl) rfl (fun h => by first | rfl | cases h) rfl ?_
  refine V_aload_n (pc := 0) 0 dX11_lostByFault_0 rfl rfl ?_
  refine V_iload_n (pc := 1) 1 dX11_lostByFault_1 rfl rfl ?_
  refine V_putI (pc := 2) fw_X11_81_11 rfl rfl dX11_lostByFault_2 (wN hw (by decide)) (wS1 hw (by decide) rfl) ?_
  refine V_ldc2 (pc := 5) dX11_lostByFault_5 kk_X11_154 ?_
  refine V_lret (pc := 8) rfl dX11_lostByFault_8 (by omega) (by omega) ?_
  refine ⟨rfl, rfl, rfl, rfl, rfl, ?_⟩
  rfl
set_option maxRecDepth 100000 in
set_option maxHeartbeats 4000000 in
theorem c_X11_leaveNumber (G : vG) {n : Nat} {sh : vS} {I : vI} {L : vL} {R : vR} (v : Int32) (hw : WF n sh R) : CT G yX11_leaveNumber cX11_leaveNumber 2 (none) 0 0 0 [.ref (ad G 0), .int v] n sh I L R (PI n sh L R (fun I' r => up2 I 0 10 (31 * I 0 10 + v) = I' ∧ r = none)) := by
  refine CT_of (own := RX11) (ini := false) (lo := [(0, .ref (ad G 0)), (1, .int v)]) mf_X11_leaveNumber (Nat.le_of_ble_eq_true rfl) rfl (fun h => by first | rfl | cases h) rfl ?_
  refine V_aload_n (pc := 0) 0 dX11_leaveNumber_0 rfl rfl ?_
  refine V_bipush (pc := 1) (v := 31) dX11_leaveNumber_1 rfl ?_
  refine V_aload_n (pc := 3) 0 dX11_leaveNumber_3 rfl rfl ?_
  refine V_gI (pc := 4) (v := (I 0 10)) rfl fk_X11_288_11 dX11_leaveNumber_4 (wN hw (by decide)) (wS1 hw (by decide) rfl) ?_
  refine V_imul (pc := 7) dX11_leaveNumber_7 (fun x_7_1 e_7_1 => ?_)
  refine V_iload_n (pc := 8) 1 dX11_leaveNumber_8 rfl rfl ?_
  refine V_iadd (pc := 9) dX11_leaveNumber_9 (fun x_9_2 e_9_2 => ?_)
  refine V_putI (pc := 10) fw_X11_288_11 rfl rfl dX11_leaveNumber_10 (wN hw (by decide)) (wS1 hw (by decide) rfl) ?_
  refine V_vret (pc := 13) rfl dX11_leaveNumber_13 (by omega) (by omega) ?_
  subst_vars
  exact ⟨rfl, rfl, rfl, rfl, rfl, rfl⟩
set_option maxRecDepth 100000 in
set_option maxHeartbeats 4000000 in
theorem c_X0_metAfter (G : vG) {n : Nat} {sh : vS} {I : vI} {L : vL} {R : vR} (m e : Int32) (hw : WF n sh R) (hb : 0 ≤ (I 2 1).toInt ∧ (I 2 1).toInt ≤ 8) (hm : 0 ≤ m.toInt) : CT G yX0_metAfter cX0_metAfter 3 (some .int) 0 0 0 [.ref (ad G 2), .int m, .int e] n sh I L R (PI n sh L R (fun I' r => I = I' ∧ ∃ v : Int32, r = some (.int v) ∧ v.toInt = m.toInt + (if m.toInt < (I 2 1).toInt ∧ (I 3 m.toInt.toNat).toInt = e.toInt then 1 else 0))) := by
  refine CT_of (own := RX0) (ini := false) (lo := [(0, .ref (ad G 2)), (1, .int m), (2, .int e)]) mf_X0_metAfter (Nat.le_of_ble_eq_true rfl) rfl (fun h => by first | rfl | cases h) rfl ?_
  refine V_iload_n (pc := 0) 1 dX0_metAfter_0 rfl rfl ?_
  refine V_aload_n (pc := 1) 0 dX0_metAfter_1 rfl rfl ?_
  refine V_gI (pc := 2) (v := (I 2 1)) rfl fk_X0_15_0 dX0_metAfter_2 (wN hw (by decide)) (wS1 hw (by decide) rfl) ?_
  refine V_icmp_ge (pc := 5) (tgt := 24) dX0_metAfter_5 (by decide) (fun c_5_1 => ?_) (fun c_5_1 => ?_)
  · have c_5_1 : (I 2 1).toInt ≤ m.toInt := c_5_1
    refine V_iload_n (pc := 24) 1 dX0_metAfter_24 rfl rfl ?_
    refine V_iret (pc := 25) rfl rfl dX0_metAfter_25 (by omega) (by omega) ?_
    refine ⟨rfl, rfl, rfl, rfl, rfl, ?_⟩
    refine ⟨_, rfl, ?_⟩
    split <;> omega
  · have c_5_1 : m.toInt < (I 2 1).toInt := c_5_1
    refine V_aload_n (pc := 8) 0 dX0_metAfter_8 rfl rfl ?_
    refine V_getR (pc := 9) (j := 3) fk_X0_9_0 (wR hw (i := 2) (k := 0) (j := 3) rfl) dX0_metAfter_9 (wN hw (by decide)) (wS1 hw (by decide) rfl) ?_
    refine V_iload_n (pc := 12) 1 dX0_metAfter_12 rfl rfl ?_
    refine V_ia (pc := 13) (k := m.toInt.toNat) (v := (I 3 m.toInt.toNat)) rfl dX0_metAfter_13 (wN hw (by decide)) (wS hw (by decide) rfl) (by omega) (by omega) ?_
    refine V_iload_n (pc := 14) 2 dX0_metAfter_14 rfl rfl ?_
    refine V_icmp_ne (pc := 15) (tgt := 24) dX0_metAfter_15 (by decide) (fun c_15_2 => ?_) (fun c_15_2 => ?_)
    · have c_15_2 : (I 3 m.toInt.toNat).toInt ≠ e.toInt := c_15_2
      refine V_iload_n (pc := 24) 1 dX0_metAfter_24 rfl rfl ?_
      refine V_iret (pc := 25) rfl rfl dX0_metAfter_25 (by omega) (by omega) ?_
      refine ⟨rfl, rfl, rfl, rfl, rfl, ?_⟩
      refine ⟨_, rfl, ?_⟩
      split <;> omega
    · have c_15_2 : (I 3 m.toInt.toNat).toInt = e.toInt := c_15_2
      refine V_iload_n (pc := 18) 1 dX0_metAfter_18 rfl rfl ?_
      refine V_iconst (pc := 19) (v := 1) dX0_metAfter_19 rfl ?_
      refine V_iadd (pc := 20) dX0_metAfter_20 (fun x_20_3 e_20_3 => ?_)
      have t_20_3 : x_20_3.toInt = m.toInt + 1 := addT e_20_3 rfl rfl (by omega) (by omega)
      refine V_goto (pc := 21) (tgt := 25) dX0_metAfter_21 (by decide) ?_
      refine V_iret (pc := 25) rfl rfl dX0_metAfter_25 (by omega) (by omega) ?_
      refine ⟨rfl, rfl, rfl, rfl, rfl, ?_⟩
      refine ⟨_, rfl, ?_⟩
      split <;> omega
set_option maxRecDepth 100000 in
set_option maxHeartbeats 4000000 in
theorem c_X0_isPassed (G : vG) {n : Nat} {sh : vS} {I : vI} {L : vL} {R : vR} (m e : Int32) (hw : WF n sh R) (hb : 0 ≤ (I 2 1).toInt ∧ (I 2 1).toInt ≤ 8) (h1 : 1 ≤ (I 2 1).toInt) : CT G yX0_isPassed cX0_isPassed 3 (some .boolean) 0 0 0 [.ref (ad G 2), .int m, .int e] n sh I L R (PI n sh L R (fun I' r => I = I' ∧ rb r (m.toInt = (I 2 1).toInt ∧ (I 3 ((I 2 1).toInt - 1).toNat).toInt = e.toInt))) := by
  refine CT_of (own := RX0) (ini := false) (lo := [(0, .ref (ad G 2)), (1, .int m), (2, .int e)]) mf_X0_isPassed (Nat.le_of_ble_eq_true rfl) rfl (fun h => by first | rfl | cases h) rfl ?_
  refine V_iload_n (pc := 0) 1 dX0_isPassed_0 rfl rfl ?_
  refine V_aload_n (pc := 1) 0 dX0_isPassed_1 rfl rfl ?_
  refine V_gI (pc := 2) (v := (I 2 1)) rfl fk_X0_15_0 dX0_isPassed_2 (wN hw (by decide)) (wS1 hw (by decide) rfl) ?_
  refine V_icmp_ne (pc := 5) (tgt := 27) dX0_isPassed_5 (by decide) (fun c_5_1 => ?_) (fun c_5_1 => ?_)
  · have c_5_1 : m.toInt ≠ (I 2 1).toInt := c_5_1
    refine V_iconst (pc := 27) (v := 0) dX0_isPassed_27 rfl ?_
    refine V_iret (pc := 28) rfl rfl dX0_isPassed_28 (by omega) (by omega) ?_
    exact ⟨rfl, rfl, rfl, rfl, rfl, Or.inr ⟨by omega, rfl⟩⟩
  · have c_5_1 : m.toInt = (I 2 1).toInt := c_5_1
    refine V_aload_n (pc := 8) 0 dX0_isPassed_8 rfl rfl ?_
    refine V_getR (pc := 9) (j := 3) fk_X0_9_0 (wR hw (i := 2) (k := 0) (j := 3) rfl) dX0_isPassed_9 (wN hw (by decide)) (wS1 hw (by decide) rfl) ?_
    refine V_aload_n (pc := 12) 0 dX0_isPassed_12 rfl rfl ?_
    refine V_gI (pc := 13) (v := (I 2 1)) rfl fk_X0_15_0 dX0_isPassed_13 (wN hw (by decide)) (wS1 hw (by decide) rfl) ?_
    refine V_iconst (pc := 16) (v := 1) dX0_isPassed_16 rfl ?_
    refine V_isub (pc := 17) dX0_isPassed_17 (fun x_17_2 e_17_2 => ?_)
    have t_17_2 : x_17_2.toInt = (I 2 1).toInt - 1 := subT e_17_2 rfl rfl (by omega) (by omega)
    refine V_ia (pc := 18) (k := ((I 2 1).toInt - 1).toNat) (v := (I 3 ((I 2 1).toInt - 1).toNat)) rfl dX0_isPassed_18 (wN hw (by decide)) (wS hw (by decide) rfl) (by omega) (by omega) ?_
    refine V_iload_n (pc := 19) 2 dX0_isPassed_19 rfl rfl ?_
    refine V_icmp_ne (pc := 20) (tgt := 27) dX0_isPassed_20 (by decide) (fun c_20_3 => ?_) (fun c_20_3 => ?_)
    · have c_20_3 : (I 3 ((I 2 1).toInt - 1).toNat).toInt ≠ e.toInt := c_20_3
      refine V_iconst (pc := 27) (v := 0) dX0_isPassed_27 rfl ?_
      refine V_iret (pc := 28) rfl rfl dX0_isPassed_28 (by omega) (by omega) ?_
      exact ⟨rfl, rfl, rfl, rfl, rfl, Or.inr ⟨by omega, rfl⟩⟩
    · have c_20_3 : (I 3 ((I 2 1).toInt - 1).toNat).toInt = e.toInt := c_20_3
      refine V_iconst (pc := 23) (v := 1) dX0_isPassed_23 rfl ?_
      refine V_goto (pc := 24) (tgt := 28) dX0_isPassed_24 (by decide) ?_
      refine V_iret (pc := 28) rfl rfl dX0_isPassed_28 (by omega) (by omega) ?_
      exact ⟨rfl, rfl, rfl, rfl, rfl, Or.inl ⟨by omega, rfl⟩⟩
