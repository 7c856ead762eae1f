set_option maxRecDepth 100000 in
set_option maxHeartbeats 4000000 in
theorem c_X2_putRight (G : vG) {n : Nat} {sh : vS} {I : vI} {L : vL} {R : vR} (X : vI) (j c : Nat) (t : Int32) (hw : WF n sh R) (hj : j < n) (hsj : (sh j).1 = 2) (hk : ckOK X (c : Int)) (hJ : JCw I L X j c) (ht : 0 ≤ t.toInt ∧ t.toInt ≤ 1000000) : CT G yX2_putRight cX2_putRight 2 (some .long) 0 0 0 [.ref (ad G j), .int t] n sh I L R (PI n sh L R (fun I' o => I = I' ∧ ∃ v : Int64, o = some (.long v) ∧ (v.toInt = rightF X (c : Int) t.toInt ∧ -1000001000000 ≤ v.toInt ∧ v.toInt ≤ 1000001000000))) := by
  refine CT_of (own := RX2) (ini := false) (lo := [(0, .ref (ad G j)), (1, .int t)]) mf_X2_putRight (Nat.le_of_ble_eq_true rfl) rfl (fun h => by first | rfl | cases h) rfl ?_
  have n1 : (4 * (c : Int)).toNat = 4 * c := by omega
  have n2 : ((4 * (c : Int)) + 1).toNat = 4 * c + 1 := by omega
  have n3 : ((4 * (c : Int)) + 2).toNat = 4 * c + 2 := by omega
  have n4 : ((4 * (c : Int)) + 3).toNat = 4 * c + 3 := by omega
  unfold ckOK at hk
  simp only [n1, n2, n3, n4, Int.toNat_natCast] at hk
  have hJ1 : ((X 49 c).toInt = 0 ∧ (L j 5).toInt = 0) ∨ ((X 49 c).toInt = 1 ∧ (I j 2).toInt = (X 50 (4 * c)).toInt ∧ (L j 3).toInt = (X 50 (4 * c + 1)).toInt - (X 50 (4 * c)).toInt ∧ (I j 4).toInt = (X 50 (4 * c + 2)).toInt ∧ (L j 5).toInt = (X 50 (4 * c + 3)).toInt - (X 50 (4 * c + 2)).toInt) := by
    rcases hJ with z | ⟨z1, z2, z3, z4, z5⟩
    · exact Or.inl z
    · exact Or.inr ⟨z1, by rw [z2], z3, by rw [z4], z5⟩
  refine V_aload_n (pc := 0) 0 dX2_putRight_0 rfl rfl ?_
  refine V_gL (pc := 1) (v := (L j 5)) rfl fk_X2_23_2 dX2_putRight_1 hj hsj ?_
  refine V_lconst (pc := 4) (v := 0) dX2_putRight_4 rfl ?_
  refine V_lcmp (pc := 5) dX2_putRight_5 (fun x_5_1 e_5_1 => ?_)
  refine V_if_le (pc := 6) (tgt := 35) dX2_putRight_6 (by decide) (fun c_5_1 => ?_) (fun c_5_1 => ?_)
  · have c_5_1 : (L j 5).toInt ≤ 0 := (lcT_le e_5_1).mp c_5_1
    refine V_iload_n (pc := 35) 1 dX2_putRight_35 rfl rfl ?_
    refine V_i2l (pc := 36) dX2_putRight_36 (fun x_36_2 e_36_2 => ?_)
    have t_36_2 : x_36_2.toInt = t.toInt := i2lT e_36_2 rfl
    have b_36_2 := fb_rng t
    refine V_lret (pc := 37) rfl dX2_putRight_37 (by omega) (by omega) ?_
    refine ⟨rfl, rfl, rfl, rfl, rfl, _, rfl, ?_⟩
    unfold rightF
    rw [if_pos (by simp only [Int.toNat_natCast]; omega)]
    omega
  · have c_5_1 : 0 < (L j 5).toInt := (lcT_gt e_5_1).mp c_5_1
    refine V_aload_n (pc := 9) 0 dX2_putRight_9 rfl rfl ?_
    refine V_gI (pc := 10) (v := (I j 2)) rfl fk_X2_13_2 dX2_putRight_10 hj hsj ?_
    refine V_i2l (pc := 13) dX2_putRight_13 (fun x_13_3 e_13_3 => ?_)
    have t_13_3 : x_13_3.toInt = (I j 2).toInt := i2lT e_13_3 rfl
    have b_13_3 := fb_rng (I j 2)
    refine V_iload_n (pc := 14) 1 dX2_putRight_14 rfl rfl ?_
    refine V_aload_n (pc := 15) 0 dX2_putRight_15 rfl rfl ?_
    refine V_gI (pc := 16) (v := (I j 4)) rfl fk_X2_20_2 dX2_putRight_16 hj hsj ?_
    refine V_isub (pc := 19) dX2_putRight_19 (fun x_19_4 e_19_4 => ?_)
    have t_19_4 : x_19_4.toInt = t.toInt - (I j 4).toInt := subT e_19_4 rfl rfl (by omega) (by omega)
    refine V_i2l (pc := 20) dX2_putRight_20 (fun x_20_5 e_20_5 => ?_)
    have t_20_5 : x_20_5.toInt = x_19_4.toInt := i2lT e_20_5 rfl
    have b_20_5 := fb_rng x_19_4
    refine V_aload_n (pc := 21) 0 dX2_putRight_21 rfl rfl ?_
    refine V_gL (pc := 22) (v := (L j 3)) rfl fk_X2_16_2 dX2_putRight_22 hj hsj ?_
    refine V_lmul (pc := 25) dX2_putRight_25 (fun x_25_6 e_25_6 => ?_)
    have m_25_6 := mulB (a := x_20_5.toInt) (b := (L j 3).toInt) (M := 1000000) (N := 1000000) (by omega) (by omega) (by omega) (by omega)
    have u_25_6 : x_20_5.toInt = t.toInt - (X 50 (4 * c + 2)).toInt := by omega
    have w_25_6 : (L j 3).toInt = (X 50 (4 * c + 1)).toInt - (X 50 (4 * c)).toInt := by omega
    have t_25_6 : x_25_6.toInt = x_20_5.toInt * (L j 3).toInt := lmulT e_25_6 rfl rfl (by omega) (by omega)
    refine V_aload_n (pc := 26) 0 dX2_putRight_26 rfl rfl ?_
    refine V_gL (pc := 27) (v := (L j 5)) rfl fk_X2_23_2 dX2_putRight_27 hj hsj ?_
    refine V_ldiv (pc := 30) dX2_putRight_30 (nzL (b := (L j 5).toInt) rfl (by omega)) (fun x_30_7 e_30_7 => ?_)
    have q_30_7 := tdivT e_30_7 rfl rfl 1000000000000 (by omega) (by omega) (by omega) (by omega)
    have r_30_7 : (L j 5).toInt = (X 50 (4 * c + 3)).toInt - (X 50 (4 * c + 2)).toInt := by omega
    have t_30_7 := q_30_7.1
    refine V_ladd (pc := 31) dX2_putRight_31 (fun x_31_8 e_31_8 => ?_)
    have t_31_8 : x_31_8.toInt = x_13_3.toInt + x_30_7.toInt := laddT e_31_8 rfl rfl (by omega) (by omega)
    refine V_goto (pc := 32) (tgt := 37) dX2_putRight_32 (by decide) ?_
    refine V_lret (pc := 37) rfl dX2_putRight_37 (by omega) (by omega) ?_
    refine ⟨rfl, rfl, rfl, rfl, rfl, _, rfl, ?_⟩
    unfold rightF
    rw [if_neg (by simp only [Int.toNat_natCast]; omega)]
    simp only [n1, n2, n3, n4]
    have e1 := t_30_7
    rw [t_25_6, u_25_6, w_25_6, r_30_7] at e1
    have e2 : (x_30_7.toInt : Int) = ((t.toInt - (X 50 (4 * c + 2)).toInt) * ((X 50 (4 * c + 1)).toInt - (X 50 (4 * c)).toInt)).tdiv ((X 50 (4 * c + 3)).toInt - (X 50 (4 * c + 2)).toInt) := e1
    omega
set_option maxRecDepth 100000 in
set_option maxHeartbeats 4000000 in
theorem c_X2_check (G : vG) {n : Nat} {sh : vS} {I : vI} {L : vL} {R : vR} (j : Nat) (a b x y : Int32) (hw : WF n sh R) (hj : j < n) (hsj : (sh j).1 = 2) (hab : 0 ≤ a.toInt ∧ a.toInt < b.toInt ∧ b.toInt ≤ 1000000) (hxy : 0 ≤ x.toInt ∧ x.toInt < y.toInt ∧ y.toInt ≤ 1000000) : CT G yX2_check cX2_check 5 (none) 0 0 0 [.ref (ad G j), .int a, .int b, .int x, .int y] n sh I L R (PIL n sh R (fun I' L' r => up2 (up2 I j 2 a) j 4 x = I' ∧ (∃ u v : Int64, u.toInt = b.toInt - a.toInt ∧ v.toInt = y.toInt - x.toInt ∧ up2 (up2 L j 3 u) j 5 v = L') ∧ r = none)) := by
  refine CT_of (own := RX2) (ini := false) (lo := [(0, .ref (ad G j)), (1, .int a), (2, .int b), (3, .int x), (4, .int y)]) mf_X2_check (Nat.le_of_ble_eq_true rfl) rfl (fun h => by first | rfl | cases h) rfl ?_
  refine V_aload_n (pc := 0) 0 dX2_check_0 rfl rfl ?_
  refine V_iload_n (pc := 1) 1 dX2_check_1 rfl rfl ?_
  refine V_putI (pc := 2) fw_X2_13_2 rfl rfl dX2_check_2 hj hsj ?_
  refine V_aload_n (pc := 5) 0 dX2_check_5 rfl rfl ?_
  refine V_iload_n (pc := 6) 2 dX2_check_6 rfl rfl ?_
  refine V_iload_n (pc := 7) 1 dX2_check_7 rfl rfl ?_
  refine V_isub (pc := 8) dX2_check_8 (fun x_8_1 e_8_1 => ?_)
  have t_8_1 : x_8_1.toInt = b.toInt - a.toInt := subT e_8_1 rfl rfl (by omega) (by omega)
  refine V_i2l (pc := 9) dX2_check_9 (fun x_9_2 e_9_2 => ?_)
  have t_9_2 : x_9_2.toInt = x_8_1.toInt := i2lT e_9_2 rfl
  have b_9_2 := fb_rng x_8_1
  refine V_putL (pc := 10) fw_X2_16_2 rfl rfl dX2_check_10 hj hsj ?_
  refine V_aload_n (pc := 13) 0 dX2_check_13 rfl rfl ?_
  refine V_iload_n (pc := 14) 3 dX2_check_14 rfl rfl ?_
  refine V_putI (pc := 15) fw_X2_20_2 rfl rfl dX2_check_15 hj hsj ?_
  refine V_aload_n (pc := 18) 0 dX2_check_18 rfl rfl ?_
  refine V_iload (pc := 19) 4 dX2_check_19 rfl ?_
  refine V_iload_n (pc := 21) 3 dX2_check_21 rfl rfl ?_
  refine V_isub (pc := 22) dX2_check_22 (fun x_22_3 e_22_3 => ?_)
  have t_22_3 : x_22_3.toInt = y.toInt - x.toInt := subT e_22_3 rfl rfl (by omega) (by omega)
  refine V_i2l (pc := 23) dX2_check_23 (fun x_23_4 e_23_4 => ?_)
  have t_23_4 : x_23_4.toInt = x_22_3.toInt := i2lT e_23_4 rfl
  have b_23_4 := fb_rng x_22_3
  refine V_putL (pc := 24) fw_X2_23_2 rfl rfl dX2_check_24 hj hsj ?_
  refine V_vret (pc := 27) rfl dX2_check_27 (by omega) (by omega) ?_
  exact ⟨rfl, rfl, rfl, rfl, ⟨_, _, by omega, by omega, rfl⟩, rfl⟩
set_option maxRecDepth 100000 in
set_option maxHeartbeats 4000000 in
theorem c_X7_isOpen (G : vG) {n : Nat} {sh : vS} {I : vI} {L : vL} {R : vR} (j : Nat) (hw : WF n sh R) (hj : j < n) (hcj : (sh j).1 = 7 ∨ (sh j).1 = 6 ∨ (sh j).1 = 3) (h56 : 56 ≤ j) : CT G yX7_isOpen cX7_isOpen 1 (some .boolean) 0 0 0 [.ref (ad G j)] n sh I L R (PI n sh L R (fun I' r => I = I' ∧ rb r ((I j 4).toInt = 0))) := by
  refine CT_of (own := RX7) (ini := false) (lo := [(0, .ref (ad G j))]) mf_X7_isOpen (Nat.le_of_ble_eq_true rfl) rfl (fun h => by first | rfl | cases h) rfl ?_
  refine V_aload_n (pc := 0) 0 dX7_isOpen_0 rfl rfl ?_
  refine V_gI (pc := 1) (v := (I j 4)) rfl (fk_X7_24_s hcj) dX7_isOpen_1 hj rfl ?_
  refine V_if_ne (pc := 4) (tgt := 11) dX7_isOpen_4 (by decide) (fun c_4_1 => ?_) (fun c_4_1 => ?_)
  · have c_4_1 : (I j 4).toInt ≠ 0 := c_4_1
    refine V_iconst (pc := 11) (v := 0) dX7_isOpen_11 rfl ?_
    refine V_iret (pc := 12) rfl rfl dX7_isOpen_12 (by omega) (by omega) ?_
    exact ⟨rfl, rfl, rfl, rfl, rfl, Or.inr ⟨by omega, rfl⟩⟩
  · have c_4_1 : (I j 4).toInt = 0 := c_4_1
    refine V_iconst (pc := 7) (v := 1) dX7_isOpen_7 rfl ?_
    refine V_goto (pc := 8) (tgt := 12) dX7_isOpen_8 (by decide) ?_
    refine V_iret (pc := 12) rfl rfl dX7_isOpen_12 (by omega) (by omega) ?_
    exact ⟨rfl, rfl, rfl, rfl, rfl, Or.inl ⟨by omega, rfl⟩⟩
set_option maxRecDepth 100000 in
set_option maxHeartbeats 4000000 in
theorem c_X3_isOpen (G : vG) {n : Nat} {sh : vS} {I : vI} {L : vL} {R : vR} (j : Nat) (hw : WF n sh R) (hj : j < n) (hsj : (sh j).1 = 3) (h56 : 56 ≤ j) : CT G yX3_isOpen cX3_isOpen 1 (some .boolean) 1 0 0 [.ref (ad G j)] n sh I L R (PI n sh L R (fun I' r => I = I' ∧ rb r ((I j 4).toInt = 0 ∧ (I j 5).toInt = 0))) := by
  refine CT_of (own := RX3) (ini := false) (lo := [(0, .ref (ad G j))]) mf_X3_isOpen (Nat.le_of_ble_eq_true rfl) rfl (fun h => by first | rfl | cases h) rfl ?_
  refine V_aload_n (pc := 0) 0 dX3_isOpen_0 rfl rfl ?_
  refine V_gI (pc := 1) (v := (I j 5)) rfl fk_X3_7_3 dX3_isOpen_1 hj hsj ?_
  refine V_if_ne (pc := 4) (tgt := 18) dX3_isOpen_4 (by decide) (fun c_4_1 => ?_) (fun c_4_1 => ?_)
  · have c_4_1 : (I j 5).toInt ≠ 0 := c_4_1
    refine V_iconst (pc := 18) (v := 0) dX3_isOpen_18 rfl ?_
    refine V_iret (pc := 19) rfl rfl dX3_isOpen_19 (by omega) (by omega) ?_
    exact ⟨rfl, rfl, rfl, rfl, rfl, Or.inr ⟨by omega, rfl⟩⟩
  · have c_4_1 : (I j 5).toInt = 0 := c_4_1
    refine V_aload_n (pc := 7) 0 dX3_isOpen_7 rfl rfl ?_
    refine V_callSU (pc := 8) (As := []) (st := []) (c_X7_isOpen G j hw hj (by omega) h56) mf_X7_isOpen su_X3_13 (by decide) hj hsj (by decide) rfl dX3_isOpen_8 rfl rfl (by omega) (by omega) (by omega) (Nat.le_of_ble_eq_true rfl) (fun r_8_2 n_8_2 sh_8_2 I_8_2 L_8_2 R_8_2 hq_8_2 => ?_)
    obtain ⟨rfl, rfl, rfl, rfl, rfl, hq_8_2⟩ := hq_8_2
    rcases hq_8_2 with ⟨c_8_2, rfl⟩ | ⟨c_8_2, rfl⟩
    · have c_8_2 := c_8_2
      refine V_if_eq_f (pc := 11) (tgt := 18) dX3_isOpen_11 (by decide) (by decide) ?_
      refine V_iconst (pc := 14) (v := 1) dX3_isOpen_14 rfl ?_
      refine V_goto (pc := 15) (tgt := 19) dX3_isOpen_15 (by decide) ?_
      refine V_iret (pc := 19) rfl rfl dX3_isOpen_19 (by omega) (by omega) ?_
      exact ⟨rfl, rfl, rfl, rfl, rfl, Or.inl ⟨by omega, rfl⟩⟩
    · have c_8_2 := c_8_2
      refine V_if_eq_t (pc := 11) (tgt := 18) dX3_isOpen_11 (by decide) (by decide) ?_
      refine V_iconst (pc := 18) (v := 0) dX3_isOpen_18 rfl ?_
      refine V_iret (pc := 19) rfl rfl dX3_isOpen_19 (by omega) (by omega) ?_
      exact ⟨rfl, rfl, rfl, rfl, rfl, Or.inr ⟨by omega, rfl⟩⟩
set_option maxRecDepth 100000 in
set_option maxHeartbeats 4000000 in
theorem c_X7_endFrom (G : vG) {n : Nat} {sh : vS} {I : vI} {L : vL} {R : vR} (j : Nat) (s : Int32) (hw : WF n sh R) (hj : j < n) (hcj : (sh j).1 = 7 ∨ (sh j).1 = 6 ∨ (sh j).1 = 3) (h56 : 56 ≤ j) : CT G yX7_endFrom cX7_endFrom 2 (some .int) 3 0 0 [.ref (ad G j), .int s] n sh I L R (PI n sh L R (fun I' o => I = I' ∧ ∃ v : Int32, o = some (.int v) ∧ (v.toInt = (if ¬ ((I j 4).toInt = 0 ∧ ((sh j).1 = 3 → (I j 5).toInt = 0)) then -9 else if s.toInt = (I j 0).toInt then (I j 1).toInt else if s.toInt = (I j 1).toInt then (I j 0).toInt else -9)))) := by
  refine CT_of (own := RX7) (ini := false) (lo := [(0, .ref (ad G j)), (1, .int s)]) mf_X7_endFrom (Nat.le_of_ble_eq_true rfl) rfl (fun h => by first | rfl | cases h) rfl ?_
  refine V_aload_n (pc := 0) 0 dX7_endFrom_0 rfl rfl ?_
  rcases hcj with hsj | hsj | hsj
  · refine V_callO (pc := 1) (As := []) (st := []) (c_X7_isOpen G j hw hj (Or.inl hsj) h56) mf_X7_isOpen ov_X7_28_7 hj hsj (by decide) rfl dX7_endFrom_1 rfl rfl (by omega) (by omega) (by omega) (Nat.le_of_ble_eq_true rfl) (fun r_1_1 n_1_1 sh_1_1 I_1_1 L_1_1 R_1_1 hq_1_1 => ?_)
    obtain ⟨rfl, rfl, rfl, rfl, rfl, hq_1_1⟩ := hq_1_1
    rcases hq_1_1 with ⟨c_1_1, rfl⟩ | ⟨c_1_1, rfl⟩
    · skip
      refine V_if_ne_t (pc := 4) (tgt := 10) dX7_endFrom_4 (by decide) (by decide) ?_
      refine V_iload_n (pc := 10) 1 dX7_endFrom_10 rfl rfl ?_
      refine V_aload_n (pc := 11) 0 dX7_endFrom_11 rfl rfl ?_
      refine V_gI (pc := 12) (v := (I j 0)) rfl fk_X7_9_7 dX7_endFrom_12 hj hsj ?_
      refine V_icmp_ne (pc := 15) (tgt := 23) dX7_endFrom_15 (by decide) (fun c_15_2 => ?_) (fun c_15_2 => ?_)
      · have c_15_2 : s.toInt ≠ (I j 0).toInt := c_15_2
        refine V_iload_n (pc := 23) 1 dX7_endFrom_23 rfl rfl ?_
        refine V_aload_n (pc := 24) 0 dX7_endFrom_24 rfl rfl ?_
        refine V_gI (pc := 25) (v := (I j 1)) rfl fk_X7_15_7 dX7_endFrom_25 hj hsj ?_
        refine V_icmp_ne (pc := 28) (tgt := 38) dX7_endFrom_28 (by decide) (fun c_28_3 => ?_) (fun c_28_3 => ?_)
        · have c_28_3 : s.toInt ≠ (I j 1).toInt := c_28_3
          refine V_bipush (pc := 38) (v := (-9)) dX7_endFrom_38 rfl ?_
          refine V_iret (pc := 40) rfl rfl dX7_endFrom_40 (by omega) (by omega) ?_
          refine ⟨rfl, rfl, rfl, rfl, rfl, _, rfl, ?_⟩
          (repeat' split) <;> first | rfl | omega | (exfalso; rename_i z; first | omega | (apply z; first | exact ⟨by omega, fun _ => by omega⟩ | exact ⟨by omega, fun q => by omega⟩))
        · have c_28_3 : s.toInt = (I j 1).toInt := c_28_3
          refine V_aload_n (pc := 31) 0 dX7_endFrom_31 rfl rfl ?_
          refine V_gI (pc := 32) (v := (I j 0)) rfl fk_X7_9_7 dX7_endFrom_32 hj hsj ?_
          refine V_goto (pc := 35) (tgt := 40) dX7_endFrom_35 (by decide) ?_
          refine V_iret (pc := 40) rfl rfl dX7_endFrom_40 (by omega) (by omega) ?_
          refine ⟨rfl, rfl, rfl, rfl, rfl, _, rfl, ?_⟩
          (repeat' split) <;> first | rfl | omega | (exfalso; rename_i z; first | omega | (apply z; first | exact ⟨by omega, fun _ => by omega⟩ | exact ⟨by omega, fun q => by omega⟩))
      · have c_15_2 : s.toInt = (I j 0).toInt := c_15_2
        refine V_aload_n (pc := 18) 0 dX7_endFrom_18 rfl rfl ?_
        refine V_gI (pc := 19) (v := (I j 1)) rfl fk_X7_15_7 dX7_endFrom_19 hj hsj ?_
        refine V_iret (pc := 22) rfl rfl dX7_endFrom_22 (by omega) (by omega) ?_
        refine ⟨rfl, rfl, rfl, rfl, rfl, _, rfl, ?_⟩
        (repeat' split) <;> first | rfl | omega | (exfalso; rename_i z; first | omega | (apply z; first | exact ⟨by omega, fun _ => by omega⟩ | exact ⟨by omega, fun q => by omega⟩))
    · skip
      refine V_if_ne_f (pc := 4) (tgt := 10) dX7_endFrom_4 (by decide) (by decide) ?_
      refine V_bipush (pc := 7) (v := (-9)) dX7_endFrom_7 rfl ?_
      refine V_iret (pc := 9) rfl rfl dX7_endFrom_9 (by omega) (by omega) ?_
      refine ⟨rfl, rfl, rfl, rfl, rfl, _, rfl, ?_⟩
      (repeat' split) <;> first | rfl | omega | (exfalso; rename_i z; first | omega | (apply z; first | exact ⟨by omega, fun _ => by omega⟩ | exact ⟨by omega, fun q => by omega⟩))
  · refine V_callO (pc := 1) (As := []) (st := []) (c_X7_isOpen G j hw hj (Or.inr (Or.inl hsj)) h56) mf_X7_isOpen ov_X7_28_6 hj hsj (by decide) rfl dX7_endFrom_1 rfl rfl (by omega) (by omega) (by omega) (Nat.le_of_ble_eq_true rfl) (fun r_1_4 n_1_4 sh_1_4 I_1_4 L_1_4 R_1_4 hq_1_4 => ?_)
    obtain ⟨rfl, rfl, rfl, rfl, rfl, hq_1_4⟩ := hq_1_4
    rcases hq_1_4 with ⟨c_1_4, rfl⟩ | ⟨c_1_4, rfl⟩
    · skip
      refine V_if_ne_t (pc := 4) (tgt := 10) dX7_endFrom_4 (by decide) (by decide) ?_
      refine V_iload_n (pc := 10) 1 dX7_endFrom_10 rfl rfl ?_
      refine V_aload_n (pc := 11) 0 dX7_endFrom_11 rfl rfl ?_
      refine V_gI (pc := 12) (v := (I j 0)) rfl fk_X7_9_6 dX7_endFrom_12 hj hsj ?_
      refine V_icmp_ne (pc := 15) (tgt := 23) dX7_endFrom_15 (by decide) (fun c_15_5 => ?_) (fun c_15_5 => ?_)
      · have c_15_5 : s.toInt ≠ (I j 0).toInt := c_15_5
        refine V_iload_n (pc := 23) 1 dX7_endFrom_23 rfl rfl ?_
        refine V_aload_n (pc := 24) 0 dX7_endFrom_24 rfl rfl ?_
        refine V_gI (pc := 25) (v := (I j 1)) rfl fk_X7_15_6 dX7_endFrom_25 hj hsj ?_
        refine V_icmp_ne (pc := 28) (tgt := 38) dX7_endFrom_28 (by decide) (fun c_28_6 => ?_) (fun c_28_6 => ?_)
        · have c_28_6 : s.toInt ≠ (I j 1).toInt := c_28_6
          refine V_bipush (pc := 38) (v := (-9)) dX7_endFrom_38 rfl ?_
          refine V_iret (pc := 40) rfl rfl dX7_endFrom_40 (by omega) (by omega) ?_
          refine ⟨rfl, rfl, rfl, rfl, rfl, _, rfl, ?_⟩
          (repeat' split) <;> first | rfl | omega | (exfalso; rename_i z; first | omega | (apply z; first | exact ⟨by omega, fun _ => by omega⟩ | exact ⟨by omega, fun q => by omega⟩))
        · have c_28_6 : s.toInt = (I j 1).toInt := c_28_6
          refine V_aload_n (pc := 31) 0 dX7_endFrom_31 rfl rfl ?_
          refine V_gI (pc := 32) (v := (I j 0)) rfl fk_X7_9_6 dX7_endFrom_32 hj hsj ?_
          refine V_goto (pc := 35) (tgt := 40) dX7_endFrom_35 (by decide) ?_
          refine V_iret (pc := 40) rfl rfl dX7_endFrom_40 (by omega) (by omega) ?_
          refine ⟨rfl, rfl, rfl, rfl, rfl, _, rfl, ?_⟩
          (repeat' split) <;> first | rfl | omega | (exfalso; rename_i z; first | omega | (apply z; first | exact ⟨by omega, fun _ => by omega⟩ | exact ⟨by omega, fun q => by omega⟩))
      · have c_15_5 : s.toInt = (I j 0).toInt := c_15_5
        refine V_aload_n (pc := 18) 0 dX7_endFrom_18 rfl rfl ?_
        refine V_gI (pc := 19) (v := (I j 1)) rfl fk_X7_15_6 dX7_endFrom_19 hj hsj ?_
        refine V_iret (pc := 22) rfl rfl dX7_endFrom_22 (by omega) (by omega) ?_
        refine ⟨rfl, rfl, rfl, rfl, rfl, _, rfl, ?_⟩
        (repeat' split) <;> first | rfl | omega | (exfalso; rename_i z; first | omega | (apply z; first | exact ⟨by omega, fun _ => by omega⟩ | exact ⟨by omega, fun q => by omega⟩))
    · skip
      refine V_if_ne_f (pc := 4) (tgt := 10) dX7_endFrom_4 (by decide) (by decide) ?_
      refine V_bipush (pc := 7) (v := (-9)) dX7_endFrom_7 rfl ?_
      refine V_iret (pc := 9) rfl rfl dX7_endFrom_9 (by omega) (by omega) ?_
      refine ⟨rfl, rfl, rfl, rfl, rfl, _, rfl, ?_⟩
      (repeat' split) <;> first | rfl | omega | (exfalso; rename_i z; first | omega | (apply z; first | exact ⟨by omega, fun _ => by omega⟩ | exact ⟨by omega, fun q => by omega⟩))
  · refine V_callO (pc := 1) (As := []) (st := []) (c_X3_isOpen G j hw hj hsj h56) mf_X3_isOpen ov_X7_28_3 hj hsj (by decide) rfl dX7_endFrom_1 rfl rfl (by omega) (by omega) (by omega) (Nat.le_of_ble_eq_true rfl) (fun r_1_7 n_1_7 sh_1_7 I_1_7 L_1_7 R_1_7 hq_1_7 => ?_)
    obtain ⟨rfl, rfl, rfl, rfl, rfl, hq_1_7⟩ := hq_1_7
    rcases hq_1_7 with ⟨c_1_7, rfl⟩ | ⟨c_1_7, rfl⟩
    · skip
      refine V_if_ne_t (pc := 4) (tgt := 10) dX7_endFrom_4 (by decide) (by decide) ?_
      refine V_iload_n (pc := 10) 1 dX7_endFrom_10 rfl rfl ?_
      refine V_aload_n (pc := 11) 0 dX7_endFrom_11 rfl rfl ?_
      refine V_gI (pc := 12) (v := (I j 0)) rfl fk_X7_9_3 dX7_endFrom_12 hj hsj ?_
      refine V_icmp_ne (pc := 15) (tgt := 23) dX7_endFrom_15 (by decide) (fun c_15_8 => ?_) (fun c_15_8 => ?_)
      · have c_15_8 : s.toInt ≠ (I j 0).toInt := c_15_8
        refine V_iload_n (pc := 23) 1 dX7_endFrom_23 rfl rfl ?_
        refine V_aload_n (pc := 24) 0 dX7_endFrom_24 rfl rfl ?_
        refine V_gI (pc := 25) (v := (I j 1)) rfl fk_X7_15_3 dX7_endFrom_25 hj hsj ?_
        refine V_icmp_ne (pc := 28) (tgt := 38) dX7_endFrom_28 (by decide) (fun c_28_9 => ?_) (fun c_28_9 => ?_)
        · have c_28_9 : s.toInt ≠ (I j 1).toInt := c_28_9
          refine V_bipush (pc := 38) (v := (-9)) dX7_endFrom_38 rfl ?_
          refine V_iret (pc := 40) rfl rfl dX7_endFrom_40 (by omega) (by omega) ?_
          refine ⟨rfl, rfl, rfl, rfl, rfl, _, rfl, ?_⟩
          (repeat' split) <;> first | rfl | omega | (exfalso; rename_i z; first | omega | (apply z; first | exact ⟨by omega, fun _ => by omega⟩ | exact ⟨by omega, fun q => by omega⟩))
        · have c_28_9 : s.toInt = (I j 1).toInt := c_28_9
          refine V_aload_n (pc := 31) 0 dX7_endFrom_31 rfl rfl ?_
          refine V_gI (pc := 32) (v := (I j 0)) rfl fk_X7_9_3 dX7_endFrom_32 hj hsj ?_
          refine V_goto (pc := 35) (tgt := 40) dX7_endFrom_35 (by decide) ?_
          refine V_iret (pc := 40) rfl rfl dX7_endFrom_40 (by omega) (by omega) ?_
          refine ⟨rfl, rfl, rfl, rfl, rfl, _, rfl, ?_⟩
          (repeat' split) <;> first | rfl | omega | (exfalso; rename_i z; first | omega | (apply z; first | exact ⟨by omega, fun _ => by omega⟩ | exact ⟨by omega, fun q => by omega⟩))
      · have c_15_8 : s.toInt = (I j 0).toInt := c_15_8
        refine V_aload_n (pc := 18) 0 dX7_endFrom_18 rfl rfl ?_
        refine V_gI (pc := 19) (v := (I j 1)) rfl fk_X7_15_3 dX7_endFrom_19 hj hsj ?_
        refine V_iret (pc := 22) rfl rfl dX7_endFrom_22 (by omega) (by omega) ?_
        refine ⟨rfl, rfl, rfl, rfl, rfl, _, rfl, ?_⟩
        (repeat' split) <;> first | rfl | omega | (exfalso; rename_i z; first | omega | (apply z; first | exact ⟨by omega, fun _ => by omega⟩ | exact ⟨by omega, fun q => by omega⟩))
    · skip
      refine V_if_ne_f (pc := 4) (tgt := 10) dX7_endFrom_4 (by decide) (by decide) ?_
      refine V_bipush (pc := 7) (v := (-9)) dX7_endFrom_7 rfl ?_
      refine V_iret (pc := 9) rfl rfl dX7_endFrom_9 (by omega) (by omega) ?_
      refine ⟨rfl, rfl, rfl, rfl, rfl, _, rfl, ?_⟩
      (repeat' split) <;> first | rfl | omega | (exfalso; rename_i z; first | omega | (apply z; first | exact ⟨by omega, fun _ => by omega⟩ | exact ⟨by omega, fun q => by omega⟩))
set_option maxRecDepth 100000 in
set_option maxHeartbeats 4000000 in
theorem c_X6_endFrom (G : vG) {n : Nat} {sh : vS} {I : vI} {L : vL} {R : vR} (j : Nat) (s : Int32) (hw : WF n sh R) (hj : j < n) (hsj : (sh j).1 = 6) (h56 : 56 ≤ j) (hne : (I j 0).toInt ≠ (I j 1).toInt) : CT G yX6_endFrom cX6_endFrom 2 (some .int) 4 0 0 [.ref (ad G j), .int s] n sh I L R (PI n sh L R (fun I' o => I = I' ∧ ∃ v : Int32, o = some (.int v) ∧ (v.toInt = (if ¬ ((I j 4).toInt = 0) then -9 else if s.toInt = (I j 0).toInt then (I j 1).toInt else -9)))) := by
  refine CT_of (own := RX6) (ini := false) (lo := [(0, .ref (ad G j)), (1, .int s)]) mf_X6_endFrom (Nat.le_of_ble_eq_true rfl) rfl (fun h => by first | rfl | cases h) rfl ?_
  refine V_iload_n (pc := 0) 1 dX6_endFrom_0 rfl rfl ?_
  refine V_aload_n (pc := 1) 0 dX6_endFrom_1 rfl rfl ?_
  refine V_gI (pc := 2) (v := (I j 0)) rfl fk_X6_9_6 dX6_endFrom_2 hj hsj ?_
  refine V_icmp_ne (pc := 5) (tgt := 16) dX6_endFrom_5 (by decide) (fun c_5_1 => ?_) (fun c_5_1 => ?_)
  · have c_5_1 : s.toInt ≠ (I j 0).toInt := c_5_1
    refine V_bipush (pc := 16) (v := (-9)) dX6_endFrom_16 rfl ?_
    refine V_iret (pc := 18) rfl rfl dX6_endFrom_18 (by omega) (by omega) ?_
    refine ⟨rfl, rfl, rfl, rfl, rfl, _, rfl, ?_⟩
    (repeat' split) <;> first | rfl | omega
  · have c_5_1 : s.toInt = (I j 0).toInt := c_5_1
    refine V_aload_n (pc := 8) 0 dX6_endFrom_8 rfl rfl ?_
    refine V_iload_n (pc := 9) 1 dX6_endFrom_9 rfl rfl ?_
    refine V_callSU (pc := 10) (As := [.int s]) (st := []) (c_X7_endFrom G j s hw hj (by omega) h56) mf_X7_endFrom su_X6_15 (by decide) hj hsj (by decide) rfl dX6_endFrom_10 rfl rfl (by omega) (by omega) (by omega) (Nat.le_of_ble_eq_true rfl) (fun r_10_2 n_10_2 sh_10_2 I_10_2 L_10_2 R_10_2 hq_10_2 => ?_)
    obtain ⟨rfl, rfl, rfl, rfl, rfl, v_10_2, rfl, hv_10_2⟩ := hq_10_2
    refine V_goto (pc := 13) (tgt := 18) dX6_endFrom_13 (by decide) ?_
    refine V_iret (pc := 18) rfl rfl dX6_endFrom_18 (by omega) (by omega) ?_
    refine ⟨rfl, rfl, rfl, rfl, rfl, _, rfl, ?_⟩
    have hz : ¬ (sh j).1 = 3 := by omega
    simp only [hz, false_implies, and_true] at hv_10_2
    rw [hv_10_2]
    (repeat' split) <;> first | rfl | omega
set_option maxRecDepth 100000 in
set_option maxHeartbeats 4000000 in
theorem c_X7_telling (G : vG) {n : Nat} {sh : vS} {I : vI} {L : vL} {R : vR} (j : Nat) (hw : WF n sh R) (hj : j < n) (hcj : (sh j).1 = 7 ∨ (sh j).1 = 6 ∨ (sh j).1 = 3) (h56 : 56 ≤ j) : CT G yX7_telling cX7_telling 2 (some .int) 1 0 0 [.ref (ad G j), .ref (ad G 0)] n sh I L R (PI n sh L R (fun I' r => up2 I 0 10 (31 * I 0 10 + 1) = I' ∧ r = some (.int (I j 2)))) := by
  refine CT_of (own := RX7) (ini := false) (lo := [(0, .ref (ad G j)), (1, .ref (ad G 0))]) mf_X7_telling (Nat.le_of_ble_eq_true rfl) rfl (fun h => by first | rfl | cases h) rfl ?_
  refine V_aload_n (pc := 0) 1 dX7_telling_0 rfl rfl ?_
  refine V_iconst (pc := 1) (v := 1) dX7_telling_1 rfl ?_
  refine V_callVN (pc := 2) (As := [.int 1]) (st := []) (c_X11_leaveNumber G 1 hw) mf_X11_leaveNumber ne_X7_32 iv_X11_leaveNumber (wN hw (by decide)) (wS1 hw (by decide) rfl) (by decide) rfl dX7_telling_2 rfl rfl (by omega) (by omega) (by omega) (Nat.le_of_ble_eq_true rfl) (fun r_2_1 n_2_1 sh_2_1 I_2_1 L_2_1 R_2_1 hq_2_1 => ?_)
  obtain ⟨rfl, rfl, rfl, rfl, rfl, rfl⟩ := hq_2_1
  refine V_aload_n (pc := 5) 0 dX7_telling_5 rfl rfl ?_
  refine V_gI (pc := 6) (v := (I j 2)) (by simp [up2, show ¬ j = 0 by omega]) (fk_X7_18_s hcj) dX7_telling_6 hj rfl ?_
  refine V_iret (pc := 9) rfl rfl dX7_telling_9 (by omega) (by omega) ?_
  subst_vars
  exact ⟨rfl, rfl, rfl, rfl, rfl, rfl⟩
set_option maxRecDepth 100000 in
set_option maxHeartbeats 4000000 in
theorem c_X6_telling (G : vG) {n : Nat} {sh : vS} {I : vI} {L : vL} {R : vR} (j : Nat) (hw : WF n sh R) (hj : j < n) (hsj : (sh j).1 = 6) (h56 : 56 ≤ j) : CT G yX6_telling cX6_telling 2 (some .int) 2 0 0 [.ref (ad G j), .ref (ad G 0)] n sh I L R (PI n sh L R (fun I' r => up2 (up2 I 0 10 (31 * I 0 10 + 2)) 0 10 (31 * (31 * I 0 10 + 2) + 1) = I' ∧ r = some (.int (1 + I j 2)))) := by
  refine CT_of (own := RX6) (ini := false) (lo := [(0, .ref (ad G j)), (1, .ref (ad G 0))]) mf_X6_telling (Nat.le_of_ble_eq_true rfl) rfl (fun h => by first | rfl | cases h) rfl ?_
  refine V_aload_n (pc := 0) 1 dX6_telling_0 rfl rfl ?_
  refine V_iconst (pc := 1) (v := 2) dX6_telling_1 rfl ?_
  refine V_callVN (pc := 2) (As := [.int 2]) (st := []) (c_X11_leaveNumber G 2 hw) mf_X11_leaveNumber ne_X6_19 iv_X11_leaveNumber (wN hw (by decide)) (wS1 hw (by decide) rfl) (by decide) rfl dX6_telling_2 rfl rfl (by omega) (by omega) (by omega) (Nat.le_of_ble_eq_true rfl) (fun r_2_1 n_2_1 sh_2_1 I_2_1 L_2_1 R_2_1 hq_2_1 => ?_)
  obtain ⟨rfl, rfl, rfl, rfl, rfl, rfl⟩ := hq_2_1
  refine V_iconst (pc := 5) (v := 1) dX6_telling_5 rfl ?_
  refine V_aload_n (pc := 6) 0 dX6_telling_6 rfl rfl ?_
  refine V_aload_n (pc := 7) 1 dX6_telling_7 rfl rfl ?_
  refine V_callSU (pc := 8) (As := [.ref (ad G 0)]) (st := [.int 1]) (c_X7_telling G j hw hj (by omega) h56) mf_X7_telling su_X6_23 (by decide) hj hsj (by decide) rfl dX6_telling_8 rfl rfl (by omega) (by omega) (by omega) (Nat.le_of_ble_eq_true rfl) (fun r_8_2 n_8_2 sh_8_2 I_8_2 L_8_2 R_8_2 hq_8_2 => ?_)
  obtain ⟨rfl, rfl, rfl, rfl, rfl, rfl⟩ := hq_8_2
  refine V_iadd (pc := 11) dX6_telling_11 (fun x_11_3 e_11_3 => ?_)
  refine V_iret (pc := 12) rfl rfl dX6_telling_12 (by omega) (by omega) ?_
  have hz : ¬ j = 0 := by omega
  subst_vars
  exact ⟨rfl, rfl, rfl, rfl, rfl, by simp [up2, hz]⟩
set_option maxRecDepth 100000 in
set_option maxHeartbeats 4000000 in
theorem c_X3_telling (G : vG) {n : Nat} {sh : vS} {I : vI} {L : vL} {R : vR} (j : Nat) (hw : WF n sh R) (hj : j < n) (hsj : (sh j).1 = 3) (h56 : 56 ≤ j) : CT G yX3_telling cX3_telling 3 (some .int) 2 0 0 [.ref (ad G j), .ref (ad G 0)] n sh I L R (PI n sh L R (fun I' r => up2 (up2 I 0 10 (31 * I 0 10 + 3)) 0 10 (31 * (31 * I 0 10 + 3) + 1) = I' ∧ r = some (.int (if (I j 5).toInt ≠ 0 then -(I j 2) else I j 2)))) := by
  refine CT_of (own := RX3) (ini := false) (lo := [(0, .ref (ad G j)), (1, .ref (ad G 0))]) mf_X3_telling (Nat.le_of_ble_eq_true rfl) rfl (fun h => by first | rfl | cases h) rfl ?_
  refine V_aload_n (pc := 0) 1 dX3_telling_0 rfl rfl ?_
  refine V_iconst (pc := 1) (v := 3) dX3_telling_1 rfl ?_
  refine V_callVN (pc := 2) (As := [.int 3]) (st := []) (c_X11_leaveNumber G 3 hw) mf_X11_leaveNumber ne_X3_17 iv_X11_leaveNumber (wN hw (by decide)) (wS1 hw (by decide) rfl) (by decide) rfl dX3_telling_2 rfl rfl (by omega) (by omega) (by omega) (Nat.le_of_ble_eq_true rfl) (fun r_2_1 n_2_1 sh_2_1 I_2_1 L_2_1 R_2_1 hq_2_1 => ?_)
  obtain ⟨rfl, rfl, rfl, rfl, rfl, rfl⟩ := hq_2_1
  refine V_aload_n (pc := 5) 0 dX3_telling_5 rfl rfl ?_
  refine V_aload_n (pc := 6) 1 dX3_telling_6 rfl rfl ?_
  refine V_callSU (pc := 7) (As := [.ref (ad G 0)]) (st := []) (c_X7_telling G j hw hj (by omega) h56) mf_X7_telling su_X3_23 (by decide) hj hsj (by decide) rfl dX3_telling_7 rfl rfl (by omega) (by omega) (by omega) (Nat.le_of_ble_eq_true rfl) (fun r_7_2 n_7_2 sh_7_2 I_7_2 L_7_2 R_7_2 hq_7_2 => ?_)
  obtain ⟨rfl, rfl, rfl, rfl, rfl, rfl⟩ := hq_7_2
  refine V_istore_n (pc := 10) (lo' := [(0, .ref (ad G j)), (1, .ref (ad G 0)), (2, .int ((up2 I 0 10 (31 * (I 0 10) + 3)) j 2))]) dX3_telling_10 rfl (by decide) rfl ?_
  refine V_aload_n (pc := 11) 0 dX3_telling_11 rfl rfl ?_
  refine V_gI (pc := 12) (v := (I j 5)) (by simp [up2, show ¬ j = 0 by omega]) fk_X3_7_3 dX3_telling_12 hj hsj ?_
  refine V_if_eq (pc := 15) (tgt := 23) dX3_telling_15 (by decide) (fun c_15_3 => ?_) (fun c_15_3 => ?_)
  · have c_15_3 : (I j 5).toInt = 0 := c_15_3
    refine V_iload_n (pc := 23) 2 dX3_telling_23 rfl rfl ?_
    refine V_iret (pc := 24) rfl rfl dX3_telling_24 (by omega) (by omega) ?_
    have hz : ¬ j = 0 := by omega
    subst_vars
    refine ⟨rfl, rfl, rfl, rfl, rfl, ?_⟩
    split <;> first | (simp [up2, hz]; done) | (exfalso; omega)
  · have c_15_3 : (I j 5).toInt ≠ 0 := c_15_3
    refine V_iload_n (pc := 18) 2 dX3_telling_18 rfl rfl ?_
    refine V_ineg (pc := 19) dX3_telling_19 (fun x_19_4 e_19_4 => ?_)
    refine V_goto (pc := 20) (tgt := 24) dX3_telling_20 (by decide) ?_
    refine V_iret (pc := 24) rfl rfl dX3_telling_24 (by omega) (by omega) ?_
    have hz : ¬ j = 0 := by omega
    subst_vars
    refine ⟨rfl, rfl, rfl, rfl, rfl, ?_⟩
    split <;> first | (simp [up2, hz]; done) | (exfalso; omega)
set_option maxRecDepth 100000 in
set_option maxHeartbeats 4000000 in
theorem c_X1_greeting (G : vG) {n : Nat} {sh : vS} {I : vI} {L : vL} {R : vR} (j : Nat) (hw : WF n sh R) (hj : j < n) (hsj : (sh j).1 = 1) (h56 : 56 ≤ j) : CT G yX1_greeting cX1_greeting 2 (some .int) 1 0 0 [.ref (ad G j), .ref (ad G 0)] n sh I L R (PI n sh L R (fun I' r => up2 I 0 10 (31 * I 0 10 + 4) = I' ∧ r = some (.int (10 * I j 0)))) := by
  refine CT_of (own := RX1) (ini := false) (lo := [(0, .ref (ad G j)), (1, .ref (ad G 0))]) mf_X1_greeting (Nat.le_of_ble_eq_true rfl) rfl (fun h => by first | rfl | cases h) rfl ?_
  refine V_aload_n (pc := 0) 1 dX1_greeting_0 rfl rfl ?_
  refine V_iconst (pc := 1) (v := 4) dX1_greeting_1 rfl ?_
  refine V_callVN (pc := 2) (As := [.int 4]) (st := []) (c_X11_leaveNumber G 4 hw) mf_X11_leaveNumber ne_X1_31 iv_X11_leaveNumber (wN hw (by decide)) (wS1 hw (by decide) rfl) (by decide) rfl dX1_greeting_2 rfl rfl (by omega) (by omega) (by omega) (Nat.le_of_ble_eq_true rfl) (fun r_2_1 n_2_1 sh_2_1 I_2_1 L_2_1 R_2_1 hq_2_1 => ?_)
  obtain ⟨rfl, rfl, rfl, rfl, rfl, rfl⟩ := hq_2_1
  refine V_bipush (pc := 5) (v := 10) dX1_greeting_5 rfl ?_
  refine V_aload_n (pc := 7) 0 dX1_greeting_7 rfl rfl ?_
  refine V_gI (pc := 8) (v := (I j 0)) (by simp [up2, show ¬ j = 0 by omega]) fk_X1_21_1 dX1_greeting_8 hj hsj ?_
  refine V_imul (pc := 11) dX1_greeting_11 (fun x_11_2 e_11_2 => ?_)
  refine V_iret (pc := 12) rfl rfl dX1_greeting_12 (by omega) (by omega) ?_
  subst_vars
  exact ⟨rfl, rfl, rfl, rfl, rfl, rfl⟩
set_option maxRecDepth 100000 in
set_option maxHeartbeats 4000000 in
theorem c_X5_greeting (G : vG) {n : Nat} {sh : vS} {I : vI} {L : vL} {R : vR} (j : Nat) (hw : WF n sh R) : CT G yX5_greeting cX5_greeting 2 (some .int) 1 0 0 [.ref (ad G j), .ref (ad G 0)] n sh I L R (PI n sh L R (fun I' r => up2 I 0 10 (31 * I 0 10 + 5) = I' ∧ r = some (.int 7))) := by
  refine CT_of (own := RX5) (ini := false) (lo := [(0, .ref (ad G j)), (1, .ref (ad G 0))]) mf_X5_greeting (Nat.le_of_ble_eq_true rfl) rfl (fun h => by first | rfl | cases h) rfl ?_
  refine V_aload_n (pc := 0) 1 dX5_greeting_0 rfl rfl ?_
  refine V_iconst (pc := 1) (v := 5) dX5_greeting_1 rfl ?_
  refine V_callVN (pc := 2) (As := [.int 5]) (st := []) (c_X11_leaveNumber G 5 hw) mf_X11_leaveNumber ne_X5_7 iv_X11_leaveNumber (wN hw (by decide)) (wS1 hw (by decide) rfl) (by decide) rfl dX5_greeting_2 rfl rfl (by omega) (by omega) (by omega) (Nat.le_of_ble_eq_true rfl) (fun r_2_1 n_2_1 sh_2_1 I_2_1 L_2_1 R_2_1 hq_2_1 => ?_)
  obtain ⟨rfl, rfl, rfl, rfl, rfl, rfl⟩ := hq_2_1
  refine V_bipush (pc := 5) (v := 7) dX5_greeting_5 rfl ?_
  refine V_iret (pc := 7) rfl rfl dX5_greeting_7 (by omega) (by omega) ?_
  subst_vars
  exact ⟨rfl, rfl, rfl, rfl, rfl, rfl⟩
set_option maxRecDepth 100000 in
set_option maxHeartbeats 4000000 in
theorem c_X4_greeting (G : vG) {n : Nat} {sh : vS} {I : vI} {L : vL} {R : vR} (j : Nat) (hw : WF n sh R) (hj : j < n) (hsj : (sh j).1 = 4) (h56 : 56 ≤ j) : CT G yX4_greeting cX4_greeting 2 (some .int) 2 0 0 [.ref (ad G j), .ref (ad G 0)] n sh I L R (PI n sh L R (fun I' r => up2 (up2 I 0 10 (31 * I 0 10 + 6)) 0 10 (31 * (31 * I 0 10 + 6) + 5) = I' ∧ r = some (.int 8))) := by
  refine CT_of (own := RX4) (ini := false) (lo := [(0, .ref (ad G j)), (1, .ref (ad G 0))]) mf_X4_greeting (Nat.le_of_ble_eq_true rfl) rfl (fun h => by first | rfl | cases h) rfl ?_
  refine V_aload_n (pc := 0) 1 dX4_greeting_0 rfl rfl ?_
  refine V_bipush (pc := 1) (v := 6) dX4_greeting_1 rfl ?_
  refine V_callVN (pc := 3) (As := [.int 6]) (st := []) (c_X11_leaveNumber G 6 hw) mf_X11_leaveNumber ne_X4_19 iv_X11_leaveNumber (wN hw (by decide)) (wS1 hw (by decide) rfl) (by decide) rfl dX4_greeting_3 rfl rfl (by omega) (by omega) (by omega) (Nat.le_of_ble_eq_true rfl) (fun r_3_1 n_3_1 sh_3_1 I_3_1 L_3_1 R_3_1 hq_3_1 => ?_)
  obtain ⟨rfl, rfl, rfl, rfl, rfl, rfl⟩ := hq_3_1
  refine V_aload_n (pc := 6) 0 dX4_greeting_6 rfl rfl ?_
  refine V_aload_n (pc := 7) 1 dX4_greeting_7 rfl rfl ?_
  refine V_callSU (pc := 8) (As := [.ref (ad G 0)]) (st := []) (c_X5_greeting G j hw) mf_X5_greeting su_X4_23 (by decide) hj hsj (by decide) rfl dX4_greeting_8 rfl rfl (by omega) (by omega) (by omega) (Nat.le_of_ble_eq_true rfl) (fun r_8_2 n_8_2 sh_8_2 I_8_2 L_8_2 R_8_2 hq_8_2 => ?_)
  obtain ⟨rfl, rfl, rfl, rfl, rfl, rfl⟩ := hq_8_2
  refine V_iconst (pc := 11) (v := 1) dX4_greeting_11 rfl ?_
  refine V_iadd (pc := 12) dX4_greeting_12 (fun x_12_3 e_12_3 => ?_)
  refine V_iret (pc := 13) rfl rfl dX4_greeting_13 (by omega) (by omega) ?_
  subst_vars
  exact ⟨rfl, rfl, rfl, rfl, rfl, rfl⟩
set_option maxRecDepth 100000 in
set_option maxHeartbeats 4000000 in
theorem c_X4_share (G : vG) {n : Nat} {sh : vS} {I : vI} {L : vL} {R : vR} (j : Nat) (p : Int32) (hw : WF n sh R) (hj : j < n) (hsj : (sh j).1 = 4) (h56 : 56 ≤ j) (hp : 0 ≤ p.toInt) : CT G yX4_share cX4_share 2 (some .int) 1 0 0 [.ref (ad G j), .int p] n sh I L R (PI n sh L R (fun I' o => I = I' ∧ ∃ v : Int32, o = some (.int v) ∧ v.toInt = min (p.toInt / 2) 50)) := by
  refine CT_of (own := RX4) (ini := false) (lo := [(0, .ref (ad G j)), (1, .int p)]) mf_X4_share (Nat.le_of_ble_eq_true rfl) rfl (fun h => by first | rfl | cases h) rfl ?_
  refine V_aload_n (pc := 0) 0 dX4_share_0 rfl rfl ?_
  refine V_iload_n (pc := 1) 1 dX4_share_1 rfl rfl ?_
  refine V_callSU (pc := 2) (As := [.int p]) (st := []) (c_X5_share G j p hw (by omega)) mf_X5_share su_X4_9 (by decide) hj hsj (by decide) rfl dX4_share_2 rfl rfl (by omega) (by omega) (by omega) (Nat.le_of_ble_eq_true rfl) (fun r_2_1 n_2_1 sh_2_1 I_2_1 L_2_1 R_2_1 hq_2_1 => ?_)
  obtain ⟨rfl, rfl, rfl, rfl, rfl, v_2_1, rfl, hv_2_1⟩ := hq_2_1
  refine V_bipush (pc := 5) (v := 50) dX4_share_5 rfl ?_
  refine V_mmin (pc := 7) mml_X4_13 dX4_share_7 (by omega) (by omega) (by omega) (Nat.le_of_ble_eq_true rfl) (fun x_7_2 e_7_2 => ?_)
  have t_7_2 : x_7_2.toInt = min v_2_1.toInt 50 := minT e_7_2 rfl rfl
  refine V_iret (pc := 10) rfl rfl dX4_share_10 (by omega) (by omega) ?_
  refine ⟨rfl, rfl, rfl, rfl, rfl, _, rfl, ?_⟩
  omega
