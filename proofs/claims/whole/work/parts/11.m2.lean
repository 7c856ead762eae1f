set_option maxRecDepth 100000 in
set_option maxHeartbeats 4000000 in
theorem c_X12_road (G : vG) {n : Nat} {sh : vS} {I : vI} {L : vL} {R : vR} (a b l k : Int32) (hw : WF n sh R) (h1 : 0 ≤ (I 27 1).toInt ∧ (I 27 1).toInt ≤ 16) : CT G yX12_road cX12_road 5 (some .int) 2 0 0 [.ref (ad G 27), .int a, .int b, .int l, .int k] n sh I L R (PI n sh L R (qi (sRoad I a b l k))) := by
  refine CT_of (own := RX12) (ini := false) (lo := [(0, .ref (ad G 27)), (1, .int a), (2, .int b), (3, .int l), (4, .int k)]) mf_X12_road (Nat.le_of_ble_eq_true rfl) rfl (fun h => by first | rfl | cases h) rfl ?_
  refine V_iload_n (pc := 0) 1 dX12_road_0 rfl rfl ?_
  refine V_callS (pc := 1) (As := [.int a]) (st := []) (c_X12_isSpot G a) mf_X12_isSpot ml_X12_117 st_X12_isSpot dX12_road_1 rfl rfl (by omega) (by omega) (by omega) (Nat.le_of_ble_eq_true rfl) (fun r_1_1 n_1_1 sh_1_1 I_1_1 L_1_1 R_1_1 hq_1_1 => ?_)
  obtain ⟨rfl, rfl, rfl, rfl, rfl, hq_1_1⟩ := hq_1_1
  rcases hq_1_1 with ⟨c_1_1, rfl⟩ | ⟨c_1_1, rfl⟩
  · have c_1_1 : 0 ≤ a.toInt ∧ a.toInt ≤ 9 := c_1_1
    refine V_if_eq_f (pc := 4) (tgt := 14) dX12_road_4 (by decide) (by decide) ?_
    refine V_iload_n (pc := 7) 2 dX12_road_7 rfl rfl ?_
    refine V_callS (pc := 8) (As := [.int b]) (st := []) (c_X12_isSpot G b) mf_X12_isSpot ml_X12_117 st_X12_isSpot dX12_road_8 rfl rfl (by omega) (by omega) (by omega) (Nat.le_of_ble_eq_true rfl) (fun r_8_2 n_8_2 sh_8_2 I_8_2 L_8_2 R_8_2 hq_8_2 => ?_)
    obtain ⟨rfl, rfl, rfl, rfl, rfl, hq_8_2⟩ := hq_8_2
    rcases hq_8_2 with ⟨c_8_2, rfl⟩ | ⟨c_8_2, rfl⟩
    · have c_8_2 : 0 ≤ b.toInt ∧ b.toInt ≤ 9 := c_8_2
      refine V_if_ne_t (pc := 11) (tgt := 16) dX12_road_11 (by decide) (by decide) ?_
      refine V_iload_n (pc := 16) 1 dX12_road_16 rfl rfl ?_
      refine V_iload_n (pc := 17) 2 dX12_road_17 rfl rfl ?_
      refine V_icmp_eq (pc := 18) (tgt := 46) dX12_road_18 (by decide) (fun c_18_3 => ?_) (fun c_18_3 => ?_)
      · have c_18_3 : a.toInt = b.toInt := c_18_3
        refine V_bipush (pc := 46) (v := (-2)) dX12_road_46 rfl ?_
        refine V_iret (pc := 48) rfl rfl dX12_road_48 (by omega) (by omega) ?_
        subst_vars
        refine ⟨rfl, rfl, rfl, rfl, _, ?_, rfl⟩
        unfold sRoad
        (repeat' split) <;> first | rfl | (exfalso; omega)
      · have c_18_3 : a.toInt ≠ b.toInt := c_18_3
        refine V_iload_n (pc := 21) 3 dX12_road_21 rfl rfl ?_
        refine V_i2l (pc := 22) dX12_road_22 (fun x_22_4 e_22_4 => ?_)
        have t_22_4 : x_22_4.toInt = l.toInt := i2lT e_22_4 rfl
        have b_22_4 := fb_rng l
        refine V_lconst (pc := 23) (v := 1) dX12_road_23 rfl ?_
        refine V_ldc2 (pc := 24) dX12_road_24 kk_X12_121 ?_
        refine V_callS (pc := 27) (As := [.long x_22_4, .long 1, .long 20000]) (st := []) (c_X12_in G x_22_4 1 20000) mf_X12_in ml_X12_111 st_X12_in dX12_road_27 rfl rfl (by omega) (by omega) (by omega) (Nat.le_of_ble_eq_true rfl) (fun r_27_5 n_27_5 sh_27_5 I_27_5 L_27_5 R_27_5 hq_27_5 => ?_)
        obtain ⟨rfl, rfl, rfl, rfl, rfl, hq_27_5⟩ := hq_27_5
        rcases hq_27_5 with ⟨c_27_5, rfl⟩ | ⟨c_27_5, rfl⟩
        · have c_27_5 : 1 ≤ x_22_4.toInt ∧ x_22_4.toInt ≤ 20000 := c_27_5
          refine V_if_eq_f (pc := 30) (tgt := 46) dX12_road_30 (by decide) (by decide) ?_
          refine V_iload (pc := 33) 4 dX12_road_33 rfl ?_
          refine V_i2l (pc := 35) dX12_road_35 (fun x_35_6 e_35_6 => ?_)
          have t_35_6 : x_35_6.toInt = k.toInt := i2lT e_35_6 rfl
          have b_35_6 := fb_rng k
          refine V_lconst (pc := 36) (v := 0) dX12_road_36 rfl ?_
          refine V_ldc2 (pc := 37) dX12_road_37 kk_X12_123 ?_
          refine V_callS (pc := 40) (As := [.long x_35_6, .long 0, .long 2]) (st := []) (c_X12_in G x_35_6 0 2) mf_X12_in ml_X12_111 st_X12_in dX12_road_40 rfl rfl (by omega) (by omega) (by omega) (Nat.le_of_ble_eq_true rfl) (fun r_40_7 n_40_7 sh_40_7 I_40_7 L_40_7 R_40_7 hq_40_7 => ?_)
          obtain ⟨rfl, rfl, rfl, rfl, rfl, hq_40_7⟩ := hq_40_7
          rcases hq_40_7 with ⟨c_40_7, rfl⟩ | ⟨c_40_7, rfl⟩
          · have c_40_7 : 0 ≤ x_35_6.toInt ∧ x_35_6.toInt ≤ 2 := c_40_7
            refine V_if_ne_t (pc := 43) (tgt := 49) dX12_road_43 (by decide) (by decide) ?_
            refine V_aload_n (pc := 49) 0 dX12_road_49 rfl rfl ?_
            refine V_gI (pc := 50) (v := (I 27 1)) rfl fk_X12_108_12 dX12_road_50 (wN hw (by decide)) (wS1 hw (by decide) rfl) ?_
            refine V_bipush (pc := 53) (v := 16) dX12_road_53 rfl ?_
            refine V_icmp_ne (pc := 55) (tgt := 61) dX12_road_55 (by decide) (fun c_55_8 => ?_) (fun c_55_8 => ?_)
            · have c_55_8 : (I 27 1).toInt ≠ 16 := c_55_8
              refine V_aload_n (pc := 61) 0 dX12_road_61 rfl rfl ?_
              refine V_getR (pc := 62) (j := 28) fk_X12_7_12 (wR hw (i := 27) (k := 2) (j := 28) rfl) dX12_road_62 (wN hw (by decide)) (wS1 hw (by decide) rfl) ?_
              refine V_aload_n (pc := 65) 0 dX12_road_65 rfl rfl ?_
              refine V_gI (pc := 66) (v := (I 27 1)) rfl fk_X12_108_12 dX12_road_66 (wN hw (by decide)) (wS1 hw (by decide) rfl) ?_
              refine V_iload_n (pc := 69) 1 dX12_road_69 rfl rfl ?_
              refine V_iask (pc := 70) (k := (I 27 1).toInt.toNat) dX12_road_70 (wN hw (by decide)) (wS hw (by decide) rfl) (by omega) (by omega) ?_
              refine V_aload_n (pc := 71) 0 dX12_road_71 rfl rfl ?_
              refine V_getR (pc := 72) (j := 29) fk_X12_13_12 (wR hw (i := 27) (k := 3) (j := 29) rfl) dX12_road_72 (wN hw (by decide)) (wS1 hw (by decide) rfl) ?_
              refine V_aload_n (pc := 75) 0 dX12_road_75 rfl rfl ?_
              refine V_gI (pc := 76) (v := (I 27 1)) rfl fk_X12_108_12 dX12_road_76 (wN hw (by decide)) (wS1 hw (by decide) rfl) ?_
              refine V_iload_n (pc := 79) 2 dX12_road_79 rfl rfl ?_
              refine V_iask (pc := 80) (k := (I 27 1).toInt.toNat) dX12_road_80 (wN hw (by decide)) (wS hw (by decide) rfl) (by omega) (by omega) ?_
              refine V_aload_n (pc := 81) 0 dX12_road_81 rfl rfl ?_
              refine V_getR (pc := 82) (j := 30) fk_X12_16_12 (wR hw (i := 27) (k := 4) (j := 30) rfl) dX12_road_82 (wN hw (by decide)) (wS1 hw (by decide) rfl) ?_
              refine V_aload_n (pc := 85) 0 dX12_road_85 rfl rfl ?_
              refine V_gI (pc := 86) (v := (I 27 1)) rfl fk_X12_108_12 dX12_road_86 (wN hw (by decide)) (wS1 hw (by decide) rfl) ?_
              refine V_iload_n (pc := 89) 3 dX12_road_89 rfl rfl ?_
              refine V_iask (pc := 90) (k := (I 27 1).toInt.toNat) dX12_road_90 (wN hw (by decide)) (wS hw (by decide) rfl) (by omega) (by omega) ?_
              refine V_aload_n (pc := 91) 0 dX12_road_91 rfl rfl ?_
              refine V_getR (pc := 92) (j := 31) fk_X12_19_12 (wR hw (i := 27) (k := 5) (j := 31) rfl) dX12_road_92 (wN hw (by decide)) (wS1 hw (by decide) rfl) ?_
              refine V_aload_n (pc := 95) 0 dX12_road_95 rfl rfl ?_
              refine V_gI (pc := 96) (v := (I 27 1)) rfl fk_X12_108_12 dX12_road_96 (wN hw (by decide)) (wS1 hw (by decide) rfl) ?_
              refine V_iload (pc := 99) 4 dX12_road_99 rfl ?_
              refine V_iask (pc := 101) (k := (I 27 1).toInt.toNat) dX12_road_101 (wN hw (by decide)) (wS hw (by decide) rfl) (by omega) (by omega) ?_
              refine V_aload_n (pc := 102) 0 dX12_road_102 rfl rfl ?_
              refine V_dup (pc := 103) dX12_road_103 rfl ?_
              refine V_gI (pc := 104) (v := (I 27 1)) rfl fk_X12_108_12 dX12_road_104 (wN hw (by decide)) (wS1 hw (by decide) rfl) ?_
              refine V_iconst (pc := 107) (v := 1) dX12_road_107 rfl ?_
              refine V_iadd (pc := 108) dX12_road_108 (fun x_108_9 e_108_9 => ?_)
              have t_108_9 : x_108_9.toInt = (I 27 1).toInt + 1 := addT e_108_9 rfl rfl (by omega) (by omega)
              refine V_putI (pc := 109) fw_X12_108_12 rfl rfl dX12_road_109 (wN hw (by decide)) (wS1 hw (by decide) rfl) ?_
              refine V_aload_n (pc := 112) 0 dX12_road_112 rfl rfl ?_
              refine V_gI (pc := 113) (v := x_108_9) rfl fk_X12_108_12 dX12_road_113 (wN hw (by decide)) (wS1 hw (by decide) rfl) ?_
              refine V_iconst (pc := 116) (v := 1) dX12_road_116 rfl ?_
              refine V_isub (pc := 117) dX12_road_117 (fun x_117_10 e_117_10 => ?_)
              have t_117_10 : x_117_10.toInt = x_108_9.toInt - 1 := subT e_117_10 rfl rfl (by omega) (by omega)
              refine V_iret (pc := 118) rfl rfl dX12_road_118 (by omega) (by omega) ?_
              subst_vars
              refine ⟨rfl, rfl, rfl, rfl, _, ?_, rfl⟩
              unfold sRoad
              (repeat' split) <;> first | rfl | (exfalso; omega)
            · have c_55_8 : (I 27 1).toInt = 16 := c_55_8
              refine V_bipush (pc := 58) (v := (-4)) dX12_road_58 rfl ?_
              refine V_iret (pc := 60) rfl rfl dX12_road_60 (by omega) (by omega) ?_
              subst_vars
              refine ⟨rfl, rfl, rfl, rfl, _, ?_, rfl⟩
              unfold sRoad
              (repeat' split) <;> first | rfl | (exfalso; omega)
          · have c_40_7 : ¬ (0 ≤ x_35_6.toInt ∧ x_35_6.toInt ≤ 2) := c_40_7
            refine V_if_ne_f (pc := 43) (tgt := 49) dX12_road_43 (by decide) (by decide) ?_
            refine V_bipush (pc := 46) (v := (-2)) dX12_road_46 rfl ?_
            refine V_iret (pc := 48) rfl rfl dX12_road_48 (by omega) (by omega) ?_
            subst_vars
            refine ⟨rfl, rfl, rfl, rfl, _, ?_, rfl⟩
            unfold sRoad
            (repeat' split) <;> first | rfl | (exfalso; omega)
        · have c_27_5 : ¬ (1 ≤ x_22_4.toInt ∧ x_22_4.toInt ≤ 20000) := c_27_5
          refine V_if_eq_t (pc := 30) (tgt := 46) dX12_road_30 (by decide) (by decide) ?_
          refine V_bipush (pc := 46) (v := (-2)) dX12_road_46 rfl ?_
          refine V_iret (pc := 48) rfl rfl dX12_road_48 (by omega) (by omega) ?_
          subst_vars
          refine ⟨rfl, rfl, rfl, rfl, _, ?_, rfl⟩
          unfold sRoad
          (repeat' split) <;> first | rfl | (exfalso; omega)
    · have c_8_2 : ¬ (0 ≤ b.toInt ∧ b.toInt ≤ 9) := c_8_2
      refine V_if_ne_f (pc := 11) (tgt := 16) dX12_road_11 (by decide) (by decide) ?_
      refine V_iconst (pc := 14) (v := (-1)) dX12_road_14 rfl ?_
      refine V_iret (pc := 15) rfl rfl dX12_road_15 (by omega) (by omega) ?_
      subst_vars
      refine ⟨rfl, rfl, rfl, rfl, _, ?_, rfl⟩
      unfold sRoad
      (repeat' split) <;> first | rfl | (exfalso; omega)
  · have c_1_1 : ¬ (0 ≤ a.toInt ∧ a.toInt ≤ 9) := c_1_1
    refine V_if_eq_t (pc := 4) (tgt := 14) dX12_road_4 (by decide) (by decide) ?_
    refine V_iconst (pc := 14) (v := (-1)) dX12_road_14 rfl ?_
    refine V_iret (pc := 15) rfl rfl dX12_road_15 (by omega) (by omega) ?_
    subst_vars
    refine ⟨rfl, rfl, rfl, rfl, _, ?_, rfl⟩
    unfold sRoad
    (repeat' split) <;> first | rfl | (exfalso; omega)
set_option maxRecDepth 100000 in
set_option maxHeartbeats 4000000 in
theorem c_X12_shut (G : vG) {n : Nat} {sh : vS} {I : vI} {L : vL} {R : vR} (r b : Int32) (hw : WF n sh R) (h1 : 0 ≤ (I 27 1).toInt ∧ (I 27 1).toInt ≤ 16) (hb : b.toInt = 0 ∨ b.toInt = 1) : CT G yX12_shut cX12_shut 4 (some .int) 2 0 0 [.ref (ad G 27), .int r, .int b] n sh I L R (PI n sh L R (qi (sShut I r b))) := by
  refine CT_of (own := RX12) (ini := false) (lo := [(0, .ref (ad G 27)), (1, .int r), (2, .int b)]) mf_X12_shut (Nat.le_of_ble_eq_true rfl) rfl (fun h => by first | rfl | cases h) rfl ?_
  refine V_aload_n (pc := 0) 0 dX12_shut_0 rfl rfl ?_
  refine V_iload_n (pc := 1) 1 dX12_shut_1 rfl rfl ?_
  refine V_callV (pc := 2) (As := [.int r]) (st := []) (c_X12_noRoad G r hw h1.1) mf_X12_noRoad ml_X12_125 iv_X12_noRoad (wN hw (by decide)) (wS1 hw (by decide) rfl) (by decide) rfl dX12_shut_2 rfl rfl (by omega) (by omega) (by omega) (Nat.le_of_ble_eq_true rfl) (fun r_2_1 n_2_1 sh_2_1 I_2_1 L_2_1 R_2_1 hq_2_1 => ?_)
  obtain ⟨rfl, rfl, rfl, rfl, rfl, hq_2_1⟩ := hq_2_1
  rcases hq_2_1 with ⟨c_2_1, rfl⟩ | ⟨c_2_1, rfl⟩
  · have c_2_1 : ¬ (0 ≤ r.toInt ∧ r.toInt < (I 27 1).toInt) := c_2_1
    refine V_if_eq_f (pc := 5) (tgt := 10) dX12_shut_5 (by decide) (by decide) ?_
    refine V_iconst (pc := 8) (v := (-1)) dX12_shut_8 rfl ?_
    refine V_iret (pc := 9) rfl rfl dX12_shut_9 (by omega) (by omega) ?_
    subst_vars
    refine ⟨rfl, rfl, rfl, rfl, _, ?_, rfl⟩
    unfold sShut isRoad
    (repeat' split) <;> first | rfl | (exfalso; omega)
  · have c_2_1 : ¬ (¬ (0 ≤ r.toInt ∧ r.toInt < (I 27 1).toInt)) := c_2_1
    refine V_if_eq_t (pc := 5) (tgt := 10) dX12_shut_5 (by decide) (by decide) ?_
    refine V_aload_n (pc := 10) 0 dX12_shut_10 rfl rfl ?_
    refine V_getR (pc := 11) (j := 32) fk_X12_22_12 (wR hw (i := 27) (k := 6) (j := 32) rfl) dX12_shut_11 (wN hw (by decide)) (wS1 hw (by decide) rfl) ?_
    refine V_iload_n (pc := 14) 1 dX12_shut_14 rfl rfl ?_
    refine V_za (pc := 15) (k := r.toInt.toNat) (v := (I 32 r.toInt.toNat)) rfl dX12_shut_15 (wN hw (by decide)) (wS hw (by decide) rfl) (by omega) (by omega) ?_
    refine V_iload_n (pc := 16) 2 dX12_shut_16 rfl rfl ?_
    refine V_icmp_eq (pc := 17) (tgt := 24) dX12_shut_17 (by decide) (fun c_17_2 => ?_) (fun c_17_2 => ?_)
    · have c_17_2 : (I 32 r.toInt.toNat).toInt = b.toInt := c_17_2
      refine V_iconst (pc := 24) (v := 0) dX12_shut_24 rfl ?_
      refine V_istore_n (pc := 25) (lo' := [(0, .ref (ad G 27)), (1, .int r), (2, .int b), (3, .int 0)]) dX12_shut_25 rfl (by decide) rfl ?_
      refine V_aload_n (pc := 26) 0 dX12_shut_26 rfl rfl ?_
      refine V_getR (pc := 27) (j := 32) fk_X12_22_12 (wR hw (i := 27) (k := 6) (j := 32) rfl) dX12_shut_27 (wN hw (by decide)) (wS1 hw (by decide) rfl) ?_
      refine V_iload_n (pc := 30) 1 dX12_shut_30 rfl rfl ?_
      refine V_iload_n (pc := 31) 2 dX12_shut_31 rfl rfl ?_
      refine V_zask (pc := 32) (k := r.toInt.toNat) (b01 (by omega)) dX12_shut_32 (wN hw (by decide)) (wS hw (by decide) rfl) (by omega) (by omega) ?_
      refine V_iload_n (pc := 33) 3 dX12_shut_33 rfl rfl ?_
      refine V_if_eq_t (pc := 34) (tgt := 41) dX12_shut_34 (by decide) (by decide) ?_
      refine V_iconst (pc := 41) (v := 0) dX12_shut_41 rfl ?_
      refine V_iret (pc := 42) rfl rfl dX12_shut_42 (by omega) (by omega) ?_
      subst_vars
      refine ⟨rfl, rfl, rfl, rfl, _, ?_, rfl⟩
      unfold sShut isRoad
      (repeat' split) <;> first | rfl | (exfalso; omega)
    · have c_17_2 : (I 32 r.toInt.toNat).toInt ≠ b.toInt := c_17_2
      refine V_iconst (pc := 20) (v := 1) dX12_shut_20 rfl ?_
      refine V_goto (pc := 21) (tgt := 25) dX12_shut_21 (by decide) ?_
      refine V_istore_n (pc := 25) (lo' := [(0, .ref (ad G 27)), (1, .int r), (2, .int b), (3, .int 1)]) dX12_shut_25 rfl (by decide) rfl ?_
      refine V_aload_n (pc := 26) 0 dX12_shut_26 rfl rfl ?_
      refine V_getR (pc := 27) (j := 32) fk_X12_22_12 (wR hw (i := 27) (k := 6) (j := 32) rfl) dX12_shut_27 (wN hw (by decide)) (wS1 hw (by decide) rfl) ?_
      refine V_iload_n (pc := 30) 1 dX12_shut_30 rfl rfl ?_
      refine V_iload_n (pc := 31) 2 dX12_shut_31 rfl rfl ?_
      refine V_zask (pc := 32) (k := r.toInt.toNat) (b01 (by omega)) dX12_shut_32 (wN hw (by decide)) (wS hw (by decide) rfl) (by omega) (by omega) ?_
      refine V_iload_n (pc := 33) 3 dX12_shut_33 rfl rfl ?_
      refine V_if_eq_f (pc := 34) (tgt := 41) dX12_shut_34 (by decide) (by decide) ?_
      refine V_iconst (pc := 37) (v := 1) dX12_shut_37 rfl ?_
      refine V_goto (pc := 38) (tgt := 42) dX12_shut_38 (by decide) ?_
      refine V_iret (pc := 42) rfl rfl dX12_shut_42 (by omega) (by omega) ?_
      subst_vars
      refine ⟨rfl, rfl, rfl, rfl, _, ?_, rfl⟩
      unfold sShut isRoad
      (repeat' split) <;> first | rfl | (exfalso; omega)
set_option maxRecDepth 100000 in
set_option maxHeartbeats 4000000 in
theorem c_X12_leads (G : vG) {n : Nat} {sh : vS} {I : vI} {L : vL} {R : vR} (r s : Int32) (hw : WF n sh R) (hr : 0 ≤ r.toInt ∧ r.toInt < 16) : CT G yX12_leads cX12_leads 3 (some .int) 0 0 0 [.ref (ad G 27), .int r, .int s] n sh I L R (PI n sh L R (fun I' o => I = I' ∧ ∃ v : Int32, o = some (.int v) ∧ v.toInt = leadsF I r.toInt.toNat s.toInt)) := by
  refine CT_of (own := RX12) (ini := false) (lo := [(0, .ref (ad G 27)), (1, .int r), (2, .int s)]) mf_X12_leads (Nat.le_of_ble_eq_true rfl) rfl (fun h => by first | rfl | cases h) rfl ?_
  refine V_aload_n (pc := 0) 0 dX12_leads_0 rfl rfl ?_
  refine V_getR (pc := 1) (j := 32) fk_X12_22_12 (wR hw (i := 27) (k := 6) (j := 32) rfl) dX12_leads_1 (wN hw (by decide)) (wS1 hw (by decide) rfl) ?_
  refine V_iload_n (pc := 4) 1 dX12_leads_4 rfl rfl ?_
  refine V_za (pc := 5) (k := r.toInt.toNat) (v := (I 32 r.toInt.toNat)) rfl dX12_leads_5 (wN hw (by decide)) (wS hw (by decide) rfl) (by omega) (by omega) ?_
  refine V_if_ne (pc := 6) (tgt := 18) dX12_leads_6 (by decide) (fun c_6_1 => ?_) (fun c_6_1 => ?_)
  · have c_6_1 : (I 32 r.toInt.toNat).toInt ≠ 0 := c_6_1
    refine V_iconst (pc := 18) (v := (-1)) dX12_leads_18 rfl ?_
    refine V_iret (pc := 19) rfl rfl dX12_leads_19 (by omega) (by omega) ?_
    refine ⟨rfl, rfl, rfl, rfl, rfl, _, rfl, ?_⟩
    unfold leadsF
    (repeat' split) <;> first | rfl | (exfalso; omega)
  · have c_6_1 : (I 32 r.toInt.toNat).toInt = 0 := c_6_1
    refine V_aload_n (pc := 9) 0 dX12_leads_9 rfl rfl ?_
    refine V_getR (pc := 10) (j := 33) fk_X12_26_12 (wR hw (i := 27) (k := 7) (j := 33) rfl) dX12_leads_10 (wN hw (by decide)) (wS1 hw (by decide) rfl) ?_
    refine V_iload_n (pc := 13) 1 dX12_leads_13 rfl rfl ?_
    refine V_za (pc := 14) (k := r.toInt.toNat) (v := (I 33 r.toInt.toNat)) rfl dX12_leads_14 (wN hw (by decide)) (wS hw (by decide) rfl) (by omega) (by omega) ?_
    refine V_if_eq (pc := 15) (tgt := 20) dX12_leads_15 (by decide) (fun c_15_2 => ?_) (fun c_15_2 => ?_)
    · have c_15_2 : (I 33 r.toInt.toNat).toInt = 0 := c_15_2
      refine V_aload_n (pc := 20) 0 dX12_leads_20 rfl rfl ?_
      refine V_getR (pc := 21) (j := 28) fk_X12_7_12 (wR hw (i := 27) (k := 2) (j := 28) rfl) dX12_leads_21 (wN hw (by decide)) (wS1 hw (by decide) rfl) ?_
      refine V_iload_n (pc := 24) 1 dX12_leads_24 rfl rfl ?_
      refine V_ia (pc := 25) (k := r.toInt.toNat) (v := (I 28 r.toInt.toNat)) rfl dX12_leads_25 (wN hw (by decide)) (wS hw (by decide) rfl) (by omega) (by omega) ?_
      refine V_iload_n (pc := 26) 2 dX12_leads_26 rfl rfl ?_
      refine V_icmp_ne (pc := 27) (tgt := 39) dX12_leads_27 (by decide) (fun c_27_3 => ?_) (fun c_27_3 => ?_)
      · have c_27_3 : (I 28 r.toInt.toNat).toInt ≠ s.toInt := c_27_3
        refine V_aload_n (pc := 39) 0 dX12_leads_39 rfl rfl ?_
        refine V_getR (pc := 40) (j := 29) fk_X12_13_12 (wR hw (i := 27) (k := 3) (j := 29) rfl) dX12_leads_40 (wN hw (by decide)) (wS1 hw (by decide) rfl) ?_
        refine V_iload_n (pc := 43) 1 dX12_leads_43 rfl rfl ?_
        refine V_ia (pc := 44) (k := r.toInt.toNat) (v := (I 29 r.toInt.toNat)) rfl dX12_leads_44 (wN hw (by decide)) (wS hw (by decide) rfl) (by omega) (by omega) ?_
        refine V_iload_n (pc := 45) 2 dX12_leads_45 rfl rfl ?_
        refine V_icmp_ne (pc := 46) (tgt := 68) dX12_leads_46 (by decide) (fun c_46_4 => ?_) (fun c_46_4 => ?_)
        · have c_46_4 : (I 29 r.toInt.toNat).toInt ≠ s.toInt := c_46_4
          refine V_iconst (pc := 68) (v := (-1)) dX12_leads_68 rfl ?_
          refine V_iret (pc := 69) rfl rfl dX12_leads_69 (by omega) (by omega) ?_
          refine ⟨rfl, rfl, rfl, rfl, rfl, _, rfl, ?_⟩
          unfold leadsF
          (repeat' split) <;> first | rfl | (exfalso; omega)
        · have c_46_4 : (I 29 r.toInt.toNat).toInt = s.toInt := c_46_4
          refine V_aload_n (pc := 49) 0 dX12_leads_49 rfl rfl ?_
          refine V_getR (pc := 50) (j := 31) fk_X12_19_12 (wR hw (i := 27) (k := 5) (j := 31) rfl) dX12_leads_50 (wN hw (by decide)) (wS1 hw (by decide) rfl) ?_
          refine V_iload_n (pc := 53) 1 dX12_leads_53 rfl rfl ?_
          refine V_ia (pc := 54) (k := r.toInt.toNat) (v := (I 31 r.toInt.toNat)) rfl dX12_leads_54 (wN hw (by decide)) (wS hw (by decide) rfl) (by omega) (by omega) ?_
          refine V_iconst (pc := 55) (v := 1) dX12_leads_55 rfl ?_
          refine V_icmp_eq (pc := 56) (tgt := 68) dX12_leads_56 (by decide) (fun c_56_5 => ?_) (fun c_56_5 => ?_)
          · have c_56_5 : (I 31 r.toInt.toNat).toInt = 1 := c_56_5
            refine V_iconst (pc := 68) (v := (-1)) dX12_leads_68 rfl ?_
            refine V_iret (pc := 69) rfl rfl dX12_leads_69 (by omega) (by omega) ?_
            refine ⟨rfl, rfl, rfl, rfl, rfl, _, rfl, ?_⟩
            unfold leadsF
            (repeat' split) <;> first | rfl | (exfalso; omega)
          · have c_56_5 : (I 31 r.toInt.toNat).toInt ≠ 1 := c_56_5
            refine V_aload_n (pc := 59) 0 dX12_leads_59 rfl rfl ?_
            refine V_getR (pc := 60) (j := 28) fk_X12_7_12 (wR hw (i := 27) (k := 2) (j := 28) rfl) dX12_leads_60 (wN hw (by decide)) (wS1 hw (by decide) rfl) ?_
            refine V_iload_n (pc := 63) 1 dX12_leads_63 rfl rfl ?_
            refine V_ia (pc := 64) (k := r.toInt.toNat) (v := (I 28 r.toInt.toNat)) rfl dX12_leads_64 (wN hw (by decide)) (wS hw (by decide) rfl) (by omega) (by omega) ?_
            refine V_goto (pc := 65) (tgt := 69) dX12_leads_65 (by decide) ?_
            refine V_iret (pc := 69) rfl rfl dX12_leads_69 (by omega) (by omega) ?_
            refine ⟨rfl, rfl, rfl, rfl, rfl, _, rfl, ?_⟩
            unfold leadsF
            (repeat' split) <;> first | rfl | (exfalso; omega)
      · have c_27_3 : (I 28 r.toInt.toNat).toInt = s.toInt := c_27_3
        refine V_aload_n (pc := 30) 0 dX12_leads_30 rfl rfl ?_
        refine V_getR (pc := 31) (j := 29) fk_X12_13_12 (wR hw (i := 27) (k := 3) (j := 29) rfl) dX12_leads_31 (wN hw (by decide)) (wS1 hw (by decide) rfl) ?_
        refine V_iload_n (pc := 34) 1 dX12_leads_34 rfl rfl ?_
        refine V_ia (pc := 35) (k := r.toInt.toNat) (v := (I 29 r.toInt.toNat)) rfl dX12_leads_35 (wN hw (by decide)) (wS hw (by decide) rfl) (by omega) (by omega) ?_
        refine V_goto (pc := 36) (tgt := 69) dX12_leads_36 (by decide) ?_
        refine V_iret (pc := 69) rfl rfl dX12_leads_69 (by omega) (by omega) ?_
        refine ⟨rfl, rfl, rfl, rfl, rfl, _, rfl, ?_⟩
        unfold leadsF
        (repeat' split) <;> first | rfl | (exfalso; omega)
    · have c_15_2 : (I 33 r.toInt.toNat).toInt ≠ 0 := c_15_2
      refine V_iconst (pc := 18) (v := (-1)) dX12_leads_18 rfl ?_
      refine V_iret (pc := 19) rfl rfl dX12_leads_19 (by omega) (by omega) ?_
      refine ⟨rfl, rfl, rfl, rfl, rfl, _, rfl, ?_⟩
      unfold leadsF
      (repeat' split) <;> first | rfl | (exfalso; omega)
set_option maxRecDepth 100000 in
set_option maxHeartbeats 4000000 in
theorem c_X12_wet (G : vG) {n : Nat} {sh : vS} {I : vI} {L : vL} {R : vR} (r b : Int32) (hw : WF n sh R) (h1 : 0 ≤ (I 27 1).toInt ∧ (I 27 1).toInt ≤ 16) (hb : b.toInt = 0 ∨ b.toInt = 1) : CT G yX12_wet cX12_wet 4 (some .int) 2 0 0 [.ref (ad G 27), .int r, .int b] n sh I L R (PI n sh L R (qi (sWet I r b))) := by
  refine CT_of (own := RX12) (ini := false) (lo := [(0, .ref (ad G 27)), (1, .int r), (2, .int b)]) mf_X12_wet (Nat.le_of_ble_eq_true rfl) rfl (fun h => by first | rfl | cases h) rfl ?_
  refine V_aload_n (pc := 0) 0 dX12_wet_0 rfl rfl ?_
  refine V_iload_n (pc := 1) 1 dX12_wet_1 rfl rfl ?_
  refine V_callV (pc := 2) (As := [.int r]) (st := []) (c_X12_noRoad G r hw h1.1) mf_X12_noRoad ml_X12_125 iv_X12_noRoad (wN hw (by decide)) (wS1 hw (by decide) rfl) (by decide) rfl dX12_wet_2 rfl rfl (by omega) (by omega) (by omega) (Nat.le_of_ble_eq_true rfl) (fun r_2_1 n_2_1 sh_2_1 I_2_1 L_2_1 R_2_1 hq_2_1 => ?_)
  obtain ⟨rfl, rfl, rfl, rfl, rfl, hq_2_1⟩ := hq_2_1
  rcases hq_2_1 with ⟨c_2_1, rfl⟩ | ⟨c_2_1, rfl⟩
  · have c_2_1 : ¬ (0 ≤ r.toInt ∧ r.toInt < (I 27 1).toInt) := c_2_1
    refine V_if_eq_f (pc := 5) (tgt := 14) dX12_wet_5 (by decide) (by decide) ?_
    refine V_aload_n (pc := 8) 0 dX12_wet_8 rfl rfl ?_
    refine V_iconst (pc := 9) (v := (-1)) dX12_wet_9 rfl ?_
    refine V_callV (pc := 10) (As := [.int (-1)]) (st := []) (c_X12_refused G (-1) hw) mf_X12_refused ml_X12_128 iv_X12_refused (wN hw (by decide)) (wS1 hw (by decide) rfl) (by decide) rfl dX12_wet_10 rfl rfl (by omega) (by omega) (by omega) (Nat.le_of_ble_eq_true rfl) (fun r_10_2 n_10_2 sh_10_2 I_10_2 L_10_2 R_10_2 hq_10_2 => ?_)
    obtain ⟨rfl, rfl, rfl, rfl, rfl, rfl⟩ := hq_10_2
    refine V_iret (pc := 13) rfl rfl dX12_wet_13 (by omega) (by omega) ?_
    subst_vars
    refine ⟨rfl, rfl, rfl, rfl, _, ?_, rfl⟩
    unfold sWet isRoad
    (repeat' split) <;> first | rfl | (exfalso; omega)
  · have c_2_1 : ¬ (¬ (0 ≤ r.toInt ∧ r.toInt < (I 27 1).toInt)) := c_2_1
    refine V_if_eq_t (pc := 5) (tgt := 14) dX12_wet_5 (by decide) (by decide) ?_
    refine V_aload_n (pc := 14) 0 dX12_wet_14 rfl rfl ?_
    refine V_getR (pc := 15) (j := 31) fk_X12_19_12 (wR hw (i := 27) (k := 5) (j := 31) rfl) dX12_wet_15 (wN hw (by decide)) (wS1 hw (by decide) rfl) ?_
    refine V_iload_n (pc := 18) 1 dX12_wet_18 rfl rfl ?_
    refine V_ia (pc := 19) (k := r.toInt.toNat) (v := (I 31 r.toInt.toNat)) rfl dX12_wet_19 (wN hw (by decide)) (wS hw (by decide) rfl) (by omega) (by omega) ?_
    refine V_iconst (pc := 20) (v := 2) dX12_wet_20 rfl ?_
    refine V_icmp_eq (pc := 21) (tgt := 30) dX12_wet_21 (by decide) (fun c_21_3 => ?_) (fun c_21_3 => ?_)
    · have c_21_3 : (I 31 r.toInt.toNat).toInt = 2 := c_21_3
      refine V_aload_n (pc := 30) 0 dX12_wet_30 rfl rfl ?_
      refine V_getR (pc := 31) (j := 33) fk_X12_26_12 (wR hw (i := 27) (k := 7) (j := 33) rfl) dX12_wet_31 (wN hw (by decide)) (wS1 hw (by decide) rfl) ?_
      refine V_iload_n (pc := 34) 1 dX12_wet_34 rfl rfl ?_
      refine V_za (pc := 35) (k := r.toInt.toNat) (v := (I 33 r.toInt.toNat)) rfl dX12_wet_35 (wN hw (by decide)) (wS hw (by decide) rfl) (by omega) (by omega) ?_
      refine V_iload_n (pc := 36) 2 dX12_wet_36 rfl rfl ?_
      refine V_icmp_eq (pc := 37) (tgt := 44) dX12_wet_37 (by decide) (fun c_37_4 => ?_) (fun c_37_4 => ?_)
      · have c_37_4 : (I 33 r.toInt.toNat).toInt = b.toInt := c_37_4
        refine V_iconst (pc := 44) (v := 0) dX12_wet_44 rfl ?_
        refine V_istore_n (pc := 45) (lo' := [(0, .ref (ad G 27)), (1, .int r), (2, .int b), (3, .int 0)]) dX12_wet_45 rfl (by decide) rfl ?_
        refine V_aload_n (pc := 46) 0 dX12_wet_46 rfl rfl ?_
        refine V_getR (pc := 47) (j := 33) fk_X12_26_12 (wR hw (i := 27) (k := 7) (j := 33) rfl) dX12_wet_47 (wN hw (by decide)) (wS1 hw (by decide) rfl) ?_
        refine V_iload_n (pc := 50) 1 dX12_wet_50 rfl rfl ?_
        refine V_iload_n (pc := 51) 2 dX12_wet_51 rfl rfl ?_
        refine V_zask (pc := 52) (k := r.toInt.toNat) (b01 (by omega)) dX12_wet_52 (wN hw (by decide)) (wS hw (by decide) rfl) (by omega) (by omega) ?_
        refine V_aload_n (pc := 53) 0 dX12_wet_53 rfl rfl ?_
        refine V_iload_n (pc := 54) 3 dX12_wet_54 rfl rfl ?_
        refine V_if_eq_t (pc := 55) (tgt := 62) dX12_wet_55 (by decide) (by decide) ?_
        refine V_iconst (pc := 62) (v := 0) dX12_wet_62 rfl ?_
        refine V_callV (pc := 63) (As := [.int 0]) (st := []) (c_X12_refused G 0 hw) mf_X12_refused ml_X12_128 iv_X12_refused (wN hw (by decide)) (wS1 hw (by decide) rfl) (by decide) rfl dX12_wet_63 rfl rfl (by omega) (by omega) (by omega) (Nat.le_of_ble_eq_true rfl) (fun r_63_5 n_63_5 sh_63_5 I_63_5 L_63_5 R_63_5 hq_63_5 => ?_)
        obtain ⟨rfl, rfl, rfl, rfl, rfl, rfl⟩ := hq_63_5
        refine V_iret (pc := 66) rfl rfl dX12_wet_66 (by omega) (by omega) ?_
        subst_vars
        refine ⟨rfl, rfl, rfl, rfl, _, ?_, rfl⟩
        unfold sWet isRoad
        (repeat' split) <;> first | rfl | (exfalso; omega)
      · have c_37_4 : (I 33 r.toInt.toNat).toInt ≠ b.toInt := c_37_4
        refine V_iconst (pc := 40) (v := 1) dX12_wet_40 rfl ?_
        refine V_goto (pc := 41) (tgt := 45) dX12_wet_41 (by decide) ?_
        refine V_istore_n (pc := 45) (lo' := [(0, .ref (ad G 27)), (1, .int r), (2, .int b), (3, .int 1)]) dX12_wet_45 rfl (by decide) rfl ?_
        refine V_aload_n (pc := 46) 0 dX12_wet_46 rfl rfl ?_
        refine V_getR (pc := 47) (j := 33) fk_X12_26_12 (wR hw (i := 27) (k := 7) (j := 33) rfl) dX12_wet_47 (wN hw (by decide)) (wS1 hw (by decide) rfl) ?_
        refine V_iload_n (pc := 50) 1 dX12_wet_50 rfl rfl ?_
        refine V_iload_n (pc := 51) 2 dX12_wet_51 rfl rfl ?_
        refine V_zask (pc := 52) (k := r.toInt.toNat) (b01 (by omega)) dX12_wet_52 (wN hw (by decide)) (wS hw (by decide) rfl) (by omega) (by omega) ?_
        refine V_aload_n (pc := 53) 0 dX12_wet_53 rfl rfl ?_
        refine V_iload_n (pc := 54) 3 dX12_wet_54 rfl rfl ?_
        refine V_if_eq_f (pc := 55) (tgt := 62) dX12_wet_55 (by decide) (by decide) ?_
        refine V_iconst (pc := 58) (v := 1) dX12_wet_58 rfl ?_
        refine V_goto (pc := 59) (tgt := 63) dX12_wet_59 (by decide) ?_
        refine V_callV (pc := 63) (As := [.int 1]) (st := []) (c_X12_refused G 1 hw) mf_X12_refused ml_X12_128 iv_X12_refused (wN hw (by decide)) (wS1 hw (by decide) rfl) (by decide) rfl dX12_wet_63 rfl rfl (by omega) (by omega) (by omega) (Nat.le_of_ble_eq_true rfl) (fun r_63_6 n_63_6 sh_63_6 I_63_6 L_63_6 R_63_6 hq_63_6 => ?_)
        obtain ⟨rfl, rfl, rfl, rfl, rfl, rfl⟩ := hq_63_6
        refine V_iret (pc := 66) rfl rfl dX12_wet_66 (by omega) (by omega) ?_
        subst_vars
        refine ⟨rfl, rfl, rfl, rfl, _, ?_, rfl⟩
        unfold sWet isRoad
        (repeat' split) <;> first | rfl | (exfalso; omega)
    · have c_21_3 : (I 31 r.toInt.toNat).toInt ≠ 2 := c_21_3
      refine V_aload_n (pc := 24) 0 dX12_wet_24 rfl rfl ?_
      refine V_iconst (pc := 25) (v := 2) dX12_wet_25 rfl ?_
      refine V_callV (pc := 26) (As := [.int 2]) (st := []) (c_X12_failed G 2 hw) mf_X12_failed ml_X12_132 iv_X12_failed (wN hw (by decide)) (wS1 hw (by decide) rfl) (by decide) rfl dX12_wet_26 rfl rfl (by omega) (by omega) (by omega) (Nat.le_of_ble_eq_true rfl) (fun r_26_7 n_26_7 sh_26_7 I_26_7 L_26_7 R_26_7 hq_26_7 => ?_)
      obtain ⟨rfl, rfl, rfl, rfl, rfl, rfl⟩ := hq_26_7
      refine V_iret (pc := 29) rfl rfl dX12_wet_29 (by omega) (by omega) ?_
      subst_vars
      refine ⟨rfl, rfl, rfl, rfl, _, ?_, rfl⟩
      unfold sWet isRoad
      (repeat' split) <;> first | rfl | (exfalso; omega)
set_option maxRecDepth 100000 in
set_option maxHeartbeats 4000000 in
theorem c_X12_lose (G : vG) {n : Nat} {sh : vS} {I : vI} {L : vL} {R : vR} (k : Int32) (hw : WF n sh R) : CT G yX12_lose cX12_lose 3 (some .int) 2 0 0 [.ref (ad G 27), .int k] n sh I L R (PI n sh L R (qi (sLose I k))) := by
  refine CT_of (own := RX12) (ini := false) (lo := [(0, .ref (ad G 27)), (1, .int k)]) mf_X12_lose (Nat.le_of_ble_eq_true rfl) rfl (fun h => by first | rfl | cases h) rfl ?_
  refine V_iload_n (pc := 0) 1 dX12_lose_0 rfl rfl ?_
  refine V_callS (pc := 1) (As := [.int k]) (st := []) (c_X12_noSheet G k) mf_X12_noSheet ml_X12_137 st_X12_noSheet dX12_lose_1 rfl rfl (by omega) (by omega) (by omega) (Nat.le_of_ble_eq_true rfl) (fun r_1_1 n_1_1 sh_1_1 I_1_1 L_1_1 R_1_1 hq_1_1 => ?_)
  obtain ⟨rfl, rfl, rfl, rfl, rfl, hq_1_1⟩ := hq_1_1
  rcases hq_1_1 with ⟨c_1_1, rfl⟩ | ⟨c_1_1, rfl⟩
  · have c_1_1 : ¬ (0 ≤ k.toInt ∧ k.toInt ≤ 3) := c_1_1
    refine V_if_eq_f (pc := 4) (tgt := 9) dX12_lose_4 (by decide) (by decide) ?_
    refine V_iconst (pc := 7) (v := (-1)) dX12_lose_7 rfl ?_
    refine V_iret (pc := 8) rfl rfl dX12_lose_8 (by omega) (by omega) ?_
    subst_vars
    refine ⟨rfl, rfl, rfl, rfl, _, ?_, rfl⟩
    unfold sLose isSheet
    (repeat' split) <;> first | rfl | (exfalso; omega)
  · have c_1_1 : ¬ (¬ (0 ≤ k.toInt ∧ k.toInt ≤ 3)) := c_1_1
    refine V_if_eq_t (pc := 4) (tgt := 9) dX12_lose_4 (by decide) (by decide) ?_
    refine V_aload_n (pc := 9) 0 dX12_lose_9 rfl rfl ?_
    refine V_getR (pc := 10) (j := 34) fk_X12_29_12 (wR hw (i := 27) (k := 8) (j := 34) rfl) dX12_lose_10 (wN hw (by decide)) (wS1 hw (by decide) rfl) ?_
    refine V_iload_n (pc := 13) 1 dX12_lose_13 rfl rfl ?_
    refine V_ia (pc := 14) (k := k.toInt.toNat) (v := (I 34 k.toInt.toNat)) rfl dX12_lose_14 (wN hw (by decide)) (wS hw (by decide) rfl) (by omega) (by omega) ?_
    refine V_if_ge (pc := 15) (tgt := 22) dX12_lose_15 (by decide) (fun c_15_2 => ?_) (fun c_15_2 => ?_)
    · have c_15_2 : 0 ≤ (I 34 k.toInt.toNat).toInt := c_15_2
      refine V_iconst (pc := 22) (v := 1) dX12_lose_22 rfl ?_
      refine V_istore_n (pc := 23) (lo' := [(0, .ref (ad G 27)), (1, .int k), (2, .int 1)]) dX12_lose_23 rfl (by decide) rfl ?_
      refine V_aload_n (pc := 24) 0 dX12_lose_24 rfl rfl ?_
      refine V_getR (pc := 25) (j := 34) fk_X12_29_12 (wR hw (i := 27) (k := 8) (j := 34) rfl) dX12_lose_25 (wN hw (by decide)) (wS1 hw (by decide) rfl) ?_
      refine V_iload_n (pc := 28) 1 dX12_lose_28 rfl rfl ?_
      refine V_iconst (pc := 29) (v := (-1)) dX12_lose_29 rfl ?_
      refine V_iask (pc := 30) (k := k.toInt.toNat) dX12_lose_30 (wN hw (by decide)) (wS hw (by decide) rfl) (by omega) (by omega) ?_
      refine V_iload_n (pc := 31) 2 dX12_lose_31 rfl rfl ?_
      refine V_iret (pc := 32) rfl rfl dX12_lose_32 (by omega) (by omega) ?_
      subst_vars
      refine ⟨rfl, rfl, rfl, rfl, _, ?_, rfl⟩
      unfold sLose isSheet
      (repeat' split) <;> first | rfl | (exfalso; omega)
    · have c_15_2 : (I 34 k.toInt.toNat).toInt < 0 := c_15_2
      refine V_iconst (pc := 18) (v := 0) dX12_lose_18 rfl ?_
      refine V_goto (pc := 19) (tgt := 23) dX12_lose_19 (by decide) ?_
      refine V_istore_n (pc := 23) (lo' := [(0, .ref (ad G 27)), (1, .int k), (2, .int 0)]) dX12_lose_23 rfl (by decide) rfl ?_
      refine V_aload_n (pc := 24) 0 dX12_lose_24 rfl rfl ?_
      refine V_getR (pc := 25) (j := 34) fk_X12_29_12 (wR hw (i := 27) (k := 8) (j := 34) rfl) dX12_lose_25 (wN hw (by decide)) (wS1 hw (by decide) rfl) ?_
      refine V_iload_n (pc := 28) 1 dX12_lose_28 rfl rfl ?_
      refine V_iconst (pc := 29) (v := (-1)) dX12_lose_29 rfl ?_
      refine V_iask (pc := 30) (k := k.toInt.toNat) dX12_lose_30 (wN hw (by decide)) (wS hw (by decide) rfl) (by omega) (by omega) ?_
      refine V_iload_n (pc := 31) 2 dX12_lose_31 rfl rfl ?_
      refine V_iret (pc := 32) rfl rfl dX12_lose_32 (by omega) (by omega) ?_
      subst_vars
      refine ⟨rfl, rfl, rfl, rfl, _, ?_, rfl⟩
      unfold sLose isSheet
      (repeat' split) <;> first | rfl | (exfalso; omega)
set_option maxRecDepth 100000 in
set_option maxHeartbeats 4000000 in
theorem c_X12_noCell (G : vG) {n : Nat} {sh : vS} {I : vI} {L : vL} {R : vR} (J : vI) (k i : Int32) (hw : WF n sh R) (hJ : ∀ z, I 34 z = J 34 z) (hk : isSheet k) (hz : -1 ≤ (I 34 k.toInt.toNat).toInt ∧ (I 34 k.toInt.toNat).toInt ≤ 32) : CT G yX12_noCell cX12_noCell 3 (some .int) 1 0 0 [.ref (ad G 27), .int k, .int i] n sh I L R (PI n sh L R (fun I' r => I = I' ∧ r = some (.int (noCellF J k i)))) := by
  refine CT_of (own := RX12) (ini := false) (lo := [(0, .ref (ad G 27)), (1, .int k), (2, .int i)]) mf_X12_noCell (Nat.le_of_ble_eq_true rfl) rfl (fun h => by first | rfl | cases h) rfl ?_
  unfold isSheet at hk
  refine V_aload_n (pc := 0) 0 dX12_noCell_0 rfl rfl ?_
  refine V_getR (pc := 1) (j := 34) fk_X12_29_12 (wR hw (i := 27) (k := 8) (j := 34) rfl) dX12_noCell_1 (wN hw (by decide)) (wS1 hw (by decide) rfl) ?_
  refine V_iload_n (pc := 4) 1 dX12_noCell_4 rfl rfl ?_
  refine V_ia (pc := 5) (k := k.toInt.toNat) (v := (I 34 k.toInt.toNat)) rfl dX12_noCell_5 (wN hw (by decide)) (wS hw (by decide) rfl) (by omega) (by omega) ?_
  refine V_if_ge (pc := 6) (tgt := 13) dX12_noCell_6 (by decide) (fun c_6_1 => ?_) (fun c_6_1 => ?_)
  · have c_6_1 : 0 ≤ (I 34 k.toInt.toNat).toInt := c_6_1
    refine V_iload_n (pc := 13) 2 dX12_noCell_13 rfl rfl ?_
    refine V_i2l (pc := 14) dX12_noCell_14 (fun x_14_2 e_14_2 => ?_)
    have t_14_2 : x_14_2.toInt = i.toInt := i2lT e_14_2 rfl
    have b_14_2 := fb_rng i
    refine V_lconst (pc := 15) (v := 0) dX12_noCell_15 rfl ?_
    refine V_aload_n (pc := 16) 0 dX12_noCell_16 rfl rfl ?_
    refine V_getR (pc := 17) (j := 34) fk_X12_29_12 (wR hw (i := 27) (k := 8) (j := 34) rfl) dX12_noCell_17 (wN hw (by decide)) (wS1 hw (by decide) rfl) ?_
    refine V_iload_n (pc := 20) 1 dX12_noCell_20 rfl rfl ?_
    refine V_ia (pc := 21) (k := k.toInt.toNat) (v := (I 34 k.toInt.toNat)) rfl dX12_noCell_21 (wN hw (by decide)) (wS hw (by decide) rfl) (by omega) (by omega) ?_
    refine V_i2l (pc := 22) dX12_noCell_22 (fun x_22_3 e_22_3 => ?_)
    have t_22_3 : x_22_3.toInt = (I 34 k.toInt.toNat).toInt := i2lT e_22_3 rfl
    have b_22_3 := fb_rng (I 34 k.toInt.toNat)
    refine V_lconst (pc := 23) (v := 1) dX12_noCell_23 rfl ?_
    refine V_lsub (pc := 24) dX12_noCell_24 (fun x_24_4 e_24_4 => ?_)
    have t_24_4 : x_24_4.toInt = x_22_3.toInt - 1 := lsubT e_24_4 rfl rfl (by omega) (by omega)
    refine V_callS (pc := 25) (As := [.long x_14_2, .long 0, .long x_24_4]) (st := []) (c_X12_in G x_14_2 0 x_24_4) mf_X12_in ml_X12_111 st_X12_in dX12_noCell_25 rfl rfl (by omega) (by omega) (by omega) (Nat.le_of_ble_eq_true rfl) (fun r_25_5 n_25_5 sh_25_5 I_25_5 L_25_5 R_25_5 hq_25_5 => ?_)
    obtain ⟨rfl, rfl, rfl, rfl, rfl, hq_25_5⟩ := hq_25_5
    rcases hq_25_5 with ⟨c_25_5, rfl⟩ | ⟨c_25_5, rfl⟩
    · have c_25_5 : 0 ≤ x_14_2.toInt ∧ x_14_2.toInt ≤ x_24_4.toInt := c_25_5
      refine V_if_eq_f (pc := 28) (tgt := 35) dX12_noCell_28 (by decide) (by decide) ?_
      refine V_iconst (pc := 31) (v := 0) dX12_noCell_31 rfl ?_
      refine V_goto (pc := 32) (tgt := 36) dX12_noCell_32 (by decide) ?_
      refine V_iret (pc := 36) rfl rfl dX12_noCell_36 (by omega) (by omega) ?_
      refine ⟨rfl, rfl, rfl, rfl, rfl, ?_⟩
      unfold noCellF
      simp only [← hJ]
      (repeat' split) <;> first | rfl | (exfalso; omega)
    · have c_25_5 : ¬ (0 ≤ x_14_2.toInt ∧ x_14_2.toInt ≤ x_24_4.toInt) := c_25_5
      refine V_if_eq_t (pc := 28) (tgt := 35) dX12_noCell_28 (by decide) (by decide) ?_
      refine V_iconst (pc := 35) (v := 3) dX12_noCell_35 rfl ?_
      refine V_iret (pc := 36) rfl rfl dX12_noCell_36 (by omega) (by omega) ?_
      refine ⟨rfl, rfl, rfl, rfl, rfl, ?_⟩
      unfold noCellF
      simp only [← hJ]
      (repeat' split) <;> first | rfl | (exfalso; omega)
  · have c_6_1 : (I 34 k.toInt.toNat).toInt < 0 := c_6_1
    refine V_iconst (pc := 9) (v := 1) dX12_noCell_9 rfl ?_
    refine V_goto (pc := 10) (tgt := 36) dX12_noCell_10 (by decide) ?_
    refine V_iret (pc := 36) rfl rfl dX12_noCell_36 (by omega) (by omega) ?_
    refine ⟨rfl, rfl, rfl, rfl, rfl, ?_⟩
    unfold noCellF
    simp only [← hJ]
    (repeat' split) <;> first | rfl | (exfalso; omega)
set_option maxRecDepth 100000 in
set_option maxHeartbeats 4000000 in
theorem c_X12_put (G : vG) {n : Nat} {sh : vS} {I : vI} {L : vL} {R : vR} (k i v : Int32) (hw : WF n sh R) (hs : ∀ k, k < 4 → -1 ≤ (I 34 k).toInt ∧ (I 34 k).toInt ≤ 32) : CT G yX12_put cX12_put 4 (some .int) 2 0 0 [.ref (ad G 27), .int k, .int i, .int v] n sh I L R (PI n sh L R (qi (sPut I k i v))) := by
  refine CT_of (own := RX12) (ini := false) (lo := [(0, .ref (ad G 27)), (1, .int k), (2, .int i), (3, .int v)]) mf_X12_put (Nat.le_of_ble_eq_true rfl) rfl (fun h => by first | rfl | cases h) rfl ?_
  have hz : 0 ≤ k.toInt → k.toInt ≤ 3 → -1 ≤ (I 34 k.toInt.toNat).toInt ∧ (I 34 k.toInt.toNat).toInt ≤ 32 := fun _ _ => hs _ (by omega)
  have hnc := noCell_3 I k i
  refine V_iload_n (pc := 0) 1 dX12_put_0 rfl rfl ?_
  refine V_callS (pc := 1) (As := [.int k]) (st := []) (c_X12_noSheet G k) mf_X12_noSheet ml_X12_137 st_X12_noSheet dX12_put_1 rfl rfl (by omega) (by omega) (by omega) (Nat.le_of_ble_eq_true rfl) (fun r_1_1 n_1_1 sh_1_1 I_1_1 L_1_1 R_1_1 hq_1_1 => ?_)
  obtain ⟨rfl, rfl, rfl, rfl, rfl, hq_1_1⟩ := hq_1_1
  rcases hq_1_1 with ⟨c_1_1, rfl⟩ | ⟨c_1_1, rfl⟩
  · have c_1_1 : ¬ (0 ≤ k.toInt ∧ k.toInt ≤ 3) := c_1_1
    refine V_if_eq_f (pc := 4) (tgt := 13) dX12_put_4 (by decide) (by decide) ?_
    refine V_aload_n (pc := 7) 0 dX12_put_7 rfl rfl ?_
    refine V_iconst (pc := 8) (v := (-1)) dX12_put_8 rfl ?_
    refine V_callV (pc := 9) (As := [.int (-1)]) (st := []) (c_X12_refused G (-1) hw) mf_X12_refused ml_X12_128 iv_X12_refused (wN hw (by decide)) (wS1 hw (by decide) rfl) (by decide) rfl dX12_put_9 rfl rfl (by omega) (by omega) (by omega) (Nat.le_of_ble_eq_true rfl) (fun r_9_2 n_9_2 sh_9_2 I_9_2 L_9_2 R_9_2 hq_9_2 => ?_)
    obtain ⟨rfl, rfl, rfl, rfl, rfl, rfl⟩ := hq_9_2
    refine V_iret (pc := 12) rfl rfl dX12_put_12 (by omega) (by omega) ?_
    subst_vars
    refine ⟨rfl, rfl, rfl, rfl, _, ?_, rfl⟩
    unfold sPut isSheet laneF
    (repeat' split) <;> first | rfl | (exfalso; omega)
  · have c_1_1 : ¬ (¬ (0 ≤ k.toInt ∧ k.toInt ≤ 3)) := c_1_1
    refine V_if_eq_t (pc := 4) (tgt := 13) dX12_put_4 (by decide) (by decide) ?_
    refine V_aload_n (pc := 13) 0 dX12_put_13 rfl rfl ?_
    refine V_iload_n (pc := 14) 1 dX12_put_14 rfl rfl ?_
    refine V_iload_n (pc := 15) 2 dX12_put_15 rfl rfl ?_
    refine V_callV (pc := 16) (As := [.int k, .int i]) (st := []) (c_X12_noCell G I k i hw (fun _ => rfl) (by omega) (show -1 ≤ (I 34 k.toInt.toNat).toInt ∧ (I 34 k.toInt.toNat).toInt ≤ 32 by omega)) mf_X12_noCell ml_X12_140 iv_X12_noCell (wN hw (by decide)) (wS1 hw (by decide) rfl) (by decide) rfl dX12_put_16 rfl rfl (by omega) (by omega) (by omega) (Nat.le_of_ble_eq_true rfl) (fun r_16_3 n_16_3 sh_16_3 I_16_3 L_16_3 R_16_3 hq_16_3 => ?_)
    obtain ⟨rfl, rfl, rfl, rfl, rfl, rfl⟩ := hq_16_3
    refine V_if_le (pc := 19) (tgt := 33) dX12_put_19 (by decide) (fun c_19_4 => ?_) (fun c_19_4 => ?_)
    · have c_19_4 : (noCellF I k i).toInt ≤ 0 := c_19_4
      refine V_aload_n (pc := 33) 0 dX12_put_33 rfl rfl ?_
      refine V_getR (pc := 34) (j := 36) fk_X12_35_12 (wR hw (i := 27) (k := 10) (j := 36) rfl) dX12_put_34 (wN hw (by decide)) (wS1 hw (by decide) rfl) ?_
      refine V_bipush (pc := 37) (v := 32) dX12_put_37 rfl ?_
      refine V_iload_n (pc := 39) 1 dX12_put_39 rfl rfl ?_
      refine V_imul (pc := 40) dX12_put_40 (fun x_40_5 e_40_5 => ?_)
      have t_40_5 : x_40_5.toInt = 32 * k.toInt := mulT e_40_5 rfl rfl (by omega) (by omega)
      refine V_iload_n (pc := 41) 2 dX12_put_41 rfl rfl ?_
      refine V_iadd (pc := 42) dX12_put_42 (fun x_42_6 e_42_6 => ?_)
      have t_42_6 : x_42_6.toInt = x_40_5.toInt + i.toInt := addT e_42_6 rfl rfl (by omega) (by omega)
      refine V_aload_n (pc := 43) 0 dX12_put_43 rfl rfl ?_
      refine V_getR (pc := 44) (j := 35) fk_X12_32_12 (wR hw (i := 27) (k := 9) (j := 35) rfl) dX12_put_44 (wN hw (by decide)) (wS1 hw (by decide) rfl) ?_
      refine V_iload_n (pc := 47) 1 dX12_put_47 rfl rfl ?_
      refine V_ia (pc := 48) (k := k.toInt.toNat) (v := (I 35 k.toInt.toNat)) rfl dX12_put_48 (wN hw (by decide)) (wS hw (by decide) rfl) (by omega) (by omega) ?_
      refine V_if_ne (pc := 49) (tgt := 57) dX12_put_49 (by decide) (fun c_49_7 => ?_) (fun c_49_7 => ?_)
      · have c_49_7 : (I 35 k.toInt.toNat).toInt ≠ 0 := c_49_7
        refine V_aload_n (pc := 57) 0 dX12_put_57 rfl rfl ?_
        refine V_getR (pc := 58) (j := 35) fk_X12_32_12 (wR hw (i := 27) (k := 9) (j := 35) rfl) dX12_put_58 (wN hw (by decide)) (wS1 hw (by decide) rfl) ?_
        refine V_iload_n (pc := 61) 1 dX12_put_61 rfl rfl ?_
        refine V_ia (pc := 62) (k := k.toInt.toNat) (v := (I 35 k.toInt.toNat)) rfl dX12_put_62 (wN hw (by decide)) (wS hw (by decide) rfl) (by omega) (by omega) ?_
        refine V_iconst (pc := 63) (v := 1) dX12_put_63 rfl ?_
        refine V_icmp_ne (pc := 64) (tgt := 72) dX12_put_64 (by decide) (fun c_64_8 => ?_) (fun c_64_8 => ?_)
        · have c_64_8 : (I 35 k.toInt.toNat).toInt ≠ 1 := c_64_8
          refine V_iload_n (pc := 72) 3 dX12_put_72 rfl rfl ?_
          refine V_iask (pc := 73) (k := ((32 * k.toInt) + i.toInt).toNat) dX12_put_73 (wN hw (by decide)) (wS hw (by decide) rfl) (by omega) (by omega) ?_
          refine V_aload_n (pc := 74) 0 dX12_put_74 rfl rfl ?_
          refine V_iconst (pc := 75) (v := 1) dX12_put_75 rfl ?_
          refine V_callV (pc := 76) (As := [.int 1]) (st := []) (c_X12_refused G 1 hw) mf_X12_refused ml_X12_128 iv_X12_refused (wN hw (by decide)) (wS1 hw (by decide) rfl) (by decide) rfl dX12_put_76 rfl rfl (by omega) (by omega) (by omega) (Nat.le_of_ble_eq_true rfl) (fun r_76_9 n_76_9 sh_76_9 I_76_9 L_76_9 R_76_9 hq_76_9 => ?_)
          obtain ⟨rfl, rfl, rfl, rfl, rfl, rfl⟩ := hq_76_9
          refine V_iret (pc := 79) rfl rfl dX12_put_79 (by omega) (by omega) ?_
          subst_vars
          refine ⟨rfl, rfl, rfl, rfl, _, ?_, rfl⟩
          unfold sPut isSheet laneF
          (repeat' split) <;> first | rfl | (exfalso; omega)
        · have c_64_8 : (I 35 k.toInt.toNat).toInt = 1 := c_64_8
          refine V_iload_n (pc := 67) 3 dX12_put_67 rfl rfl ?_
          refine V_i2s (pc := 68) dX12_put_68 (fun x_68_10 e_68_10 => ?_)
          refine V_goto (pc := 69) (tgt := 73) dX12_put_69 (by decide) ?_
          refine V_iask (pc := 73) (k := ((32 * k.toInt) + i.toInt).toNat) dX12_put_73 (wN hw (by decide)) (wS hw (by decide) rfl) (by omega) (by omega) ?_
          refine V_aload_n (pc := 74) 0 dX12_put_74 rfl rfl ?_
          refine V_iconst (pc := 75) (v := 1) dX12_put_75 rfl ?_
          refine V_callV (pc := 76) (As := [.int 1]) (st := []) (c_X12_refused G 1 hw) mf_X12_refused ml_X12_128 iv_X12_refused (wN hw (by decide)) (wS1 hw (by decide) rfl) (by decide) rfl dX12_put_76 rfl rfl (by omega) (by omega) (by omega) (Nat.le_of_ble_eq_true rfl) (fun r_76_11 n_76_11 sh_76_11 I_76_11 L_76_11 R_76_11 hq_76_11 => ?_)
          obtain ⟨rfl, rfl, rfl, rfl, rfl, rfl⟩ := hq_76_11
          refine V_iret (pc := 79) rfl rfl dX12_put_79 (by omega) (by omega) ?_
          subst_vars
          refine ⟨rfl, rfl, rfl, rfl, _, ?_, rfl⟩
          unfold sPut isSheet laneF
          (repeat' split) <;> first | rfl | (exfalso; omega)
      · have c_49_7 : (I 35 k.toInt.toNat).toInt = 0 := c_49_7
        refine V_iload_n (pc := 52) 3 dX12_put_52 rfl rfl ?_
        refine V_i2b (pc := 53) dX12_put_53 (fun x_53_12 e_53_12 => ?_)
        refine V_goto (pc := 54) (tgt := 73) dX12_put_54 (by decide) ?_
        refine V_iask (pc := 73) (k := ((32 * k.toInt) + i.toInt).toNat) dX12_put_73 (wN hw (by decide)) (wS hw (by decide) rfl) (by omega) (by omega) ?_
        refine V_aload_n (pc := 74) 0 dX12_put_74 rfl rfl ?_
        refine V_iconst (pc := 75) (v := 1) dX12_put_75 rfl ?_
        refine V_callV (pc := 76) (As := [.int 1]) (st := []) (c_X12_refused G 1 hw) mf_X12_refused ml_X12_128 iv_X12_refused (wN hw (by decide)) (wS1 hw (by decide) rfl) (by decide) rfl dX12_put_76 rfl rfl (by omega) (by omega) (by omega) (Nat.le_of_ble_eq_true rfl) (fun r_76_13 n_76_13 sh_76_13 I_76_13 L_76_13 R_76_13 hq_76_13 => ?_)
        obtain ⟨rfl, rfl, rfl, rfl, rfl, rfl⟩ := hq_76_13
        refine V_iret (pc := 79) rfl rfl dX12_put_79 (by omega) (by omega) ?_
        subst_vars
        refine ⟨rfl, rfl, rfl, rfl, _, ?_, rfl⟩
        unfold sPut isSheet laneF
        (repeat' split) <;> first | rfl | (exfalso; omega)
    · have c_19_4 : 0 < (noCellF I k i).toInt := c_19_4
      refine V_aload_n (pc := 22) 0 dX12_put_22 rfl rfl ?_
      refine V_aload_n (pc := 23) 0 dX12_put_23 rfl rfl ?_
      refine V_iload_n (pc := 24) 1 dX12_put_24 rfl rfl ?_
      refine V_iload_n (pc := 25) 2 dX12_put_25 rfl rfl ?_
      refine V_callV (pc := 26) (As := [.int k, .int i]) (st := [.ref (ad G 27)]) (c_X12_noCell G I k i hw (fun _ => rfl) (by omega) (show -1 ≤ (I 34 k.toInt.toNat).toInt ∧ (I 34 k.toInt.toNat).toInt ≤ 32 by omega)) mf_X12_noCell ml_X12_140 iv_X12_noCell (wN hw (by decide)) (wS1 hw (by decide) rfl) (by decide) rfl dX12_put_26 rfl rfl (by omega) (by omega) (by omega) (Nat.le_of_ble_eq_true rfl) (fun r_26_14 n_26_14 sh_26_14 I_26_14 L_26_14 R_26_14 hq_26_14 => ?_)
      obtain ⟨rfl, rfl, rfl, rfl, rfl, rfl⟩ := hq_26_14
      refine V_callV (pc := 29) (As := [.int (noCellF I k i)]) (st := []) (c_X12_failed G (noCellF I k i) hw) mf_X12_failed ml_X12_132 iv_X12_failed (wN hw (by decide)) (wS1 hw (by decide) rfl) (by decide) rfl dX12_put_29 rfl rfl (by omega) (by omega) (by omega) (Nat.le_of_ble_eq_true rfl) (fun r_29_15 n_29_15 sh_29_15 I_29_15 L_29_15 R_29_15 hq_29_15 => ?_)
      obtain ⟨rfl, rfl, rfl, rfl, rfl, rfl⟩ := hq_29_15
      refine V_iret (pc := 32) rfl rfl dX12_put_32 (by omega) (by omega) ?_
      subst_vars
      refine ⟨rfl, rfl, rfl, rfl, _, ?_, rfl⟩
      unfold sPut isSheet laneF
      (repeat' split) <;> first | rfl | (exfalso; omega)
set_option maxRecDepth 100000 in
set_option maxHeartbeats 4000000 in
theorem c_X12_cell (G : vG) {n : Nat} {sh : vS} {I : vI} {L : vL} {R : vR} (k i l : Int32) (hw : WF n sh R) (hs : ∀ k, k < 4 → -1 ≤ (I 34 k).toInt ∧ (I 34 k).toInt ≤ 32) : CT G yX12_cell cX12_cell 4 (some .long) 2 0 0 [.ref (ad G 27), .int k, .int i, .int l] n sh I L R (PI n sh L R (ql (sCell I k i l))) := by
  refine CT_of (own := RX12) (ini := false) (lo := [(0, .ref (ad G 27)), (1, .int k), (2, .int i), (3, .int l)]) mf_X12_cell (Nat.le_of_ble_eq_true rfl) rfl (fun h => by first | rfl | cases h) rfl ?_
  have hz : 0 ≤ k.toInt → k.toInt ≤ 3 → -1 ≤ (I 34 k.toInt.toNat).toInt ∧ (I 34 k.toInt.toNat).toInt ≤ 32 := fun _ _ => hs _ (by omega)
  have hnc := noCell_3 I k i
  refine V_aload_n (pc := 0) 0 dX12_cell_0 rfl rfl ?_
  refine V_iconst (pc := 1) (v := 0) dX12_cell_1 rfl ?_
  refine V_putI (pc := 2) fw_X12_101_12 rfl rfl dX12_cell_2 (wN hw (by decide)) (wS1 hw (by decide) rfl) ?_
  refine V_iload_n (pc := 5) 1 dX12_cell_5 rfl rfl ?_
  refine V_callS (pc := 6) (As := [.int k]) (st := []) (c_X12_noSheet G k) mf_X12_noSheet ml_X12_137 st_X12_noSheet dX12_cell_6 rfl rfl (by omega) (by omega) (by omega) (Nat.le_of_ble_eq_true rfl) (fun r_6_1 n_6_1 sh_6_1 I_6_1 L_6_1 R_6_1 hq_6_1 => ?_)
  obtain ⟨rfl, rfl, rfl, rfl, rfl, hq_6_1⟩ := hq_6_1
  rcases hq_6_1 with ⟨c_6_1, rfl⟩ | ⟨c_6_1, rfl⟩
  · have c_6_1 : ¬ (0 ≤ k.toInt ∧ k.toInt ≤ 3) := c_6_1
    refine V_if_ne_t (pc := 9) (tgt := 24) dX12_cell_9 (by decide) (by decide) ?_
    refine V_callS (pc := 24) (As := []) (st := []) (c_X12_lost G) mf_X12_lost ml_X12_104 st_X12_lost dX12_cell_24 rfl rfl (by omega) (by omega) (by omega) (Nat.le_of_ble_eq_true rfl) (fun r_24_2 n_24_2 sh_24_2 I_24_2 L_24_2 R_24_2 hq_24_2 => ?_)
    obtain ⟨rfl, rfl, rfl, rfl, rfl, rfl⟩ := hq_24_2
    refine V_lret (pc := 27) rfl dX12_cell_27 (by omega) (by omega) ?_
    subst_vars
    refine ⟨rfl, rfl, rfl, rfl, _, ?_, rfl⟩
    unfold sCell isSheet isLane
    (repeat' split) <;> first | rfl | (exfalso; omega)
  · have c_6_1 : ¬ (¬ (0 ≤ k.toInt ∧ k.toInt ≤ 3)) := c_6_1
    refine V_if_ne_f (pc := 9) (tgt := 24) dX12_cell_9 (by decide) (by decide) ?_
    refine V_iload_n (pc := 12) 3 dX12_cell_12 rfl rfl ?_
    refine V_i2l (pc := 13) dX12_cell_13 (fun x_13_3 e_13_3 => ?_)
    have t_13_3 : x_13_3.toInt = l.toInt := i2lT e_13_3 rfl
    have b_13_3 := fb_rng l
    refine V_lconst (pc := 14) (v := 0) dX12_cell_14 rfl ?_
    refine V_ldc2 (pc := 15) dX12_cell_15 kk_X12_123 ?_
    refine V_callS (pc := 18) (As := [.long x_13_3, .long 0, .long 2]) (st := []) (c_X12_in G x_13_3 0 2) mf_X12_in ml_X12_111 st_X12_in dX12_cell_18 rfl rfl (by omega) (by omega) (by omega) (Nat.le_of_ble_eq_true rfl) (fun r_18_4 n_18_4 sh_18_4 I_18_4 L_18_4 R_18_4 hq_18_4 => ?_)
    obtain ⟨rfl, rfl, rfl, rfl, rfl, hq_18_4⟩ := hq_18_4
    rcases hq_18_4 with ⟨c_18_4, rfl⟩ | ⟨c_18_4, rfl⟩
    · have c_18_4 : 0 ≤ x_13_3.toInt ∧ x_13_3.toInt ≤ 2 := c_18_4
      refine V_if_ne_t (pc := 21) (tgt := 28) dX12_cell_21 (by decide) (by decide) ?_
      refine V_aload_n (pc := 28) 0 dX12_cell_28 rfl rfl ?_
      refine V_getR (pc := 29) (j := 34) fk_X12_29_12 (wR hw (i := 27) (k := 8) (j := 34) rfl) dX12_cell_29 (wN hw (by decide)) (wS1 hw (by decide) rfl) ?_
      refine V_iload_n (pc := 32) 1 dX12_cell_32 rfl rfl ?_
      refine V_ia (pc := 33) (k := k.toInt.toNat) (v := (I 34 k.toInt.toNat)) rfl dX12_cell_33 (wN hw (by decide)) (wS hw (by decide) rfl) (by omega) (by omega) ?_
      refine V_if_lt (pc := 34) (tgt := 53) dX12_cell_34 (by decide) (fun c_34_5 => ?_) (fun c_34_5 => ?_)
      · have c_34_5 : (I 34 k.toInt.toNat).toInt < 0 := c_34_5
        refine V_aload_n (pc := 53) 0 dX12_cell_53 rfl rfl ?_
        refine V_iload_n (pc := 54) 1 dX12_cell_54 rfl rfl ?_
        refine V_iload_n (pc := 55) 2 dX12_cell_55 rfl rfl ?_
        refine V_callV (pc := 56) (As := [.int k, .int i]) (st := []) (c_X12_noCell G I k i hw (fun _ => rfl) (by omega) (show -1 ≤ (I 34 k.toInt.toNat).toInt ∧ (I 34 k.toInt.toNat).toInt ≤ 32 by omega)) mf_X12_noCell ml_X12_140 iv_X12_noCell (wN hw (by decide)) (wS1 hw (by decide) rfl) (by decide) rfl dX12_cell_56 rfl rfl (by omega) (by omega) (by omega) (Nat.le_of_ble_eq_true rfl) (fun r_56_6 n_56_6 sh_56_6 I_56_6 L_56_6 R_56_6 hq_56_6 => ?_)
        obtain ⟨rfl, rfl, rfl, rfl, rfl, rfl⟩ := hq_56_6
        refine V_if_le (pc := 59) (tgt := 75) dX12_cell_59 (by decide) (fun c_59_7 => ?_) (fun c_59_7 => ?_)
        · have c_59_7 : (noCellF I k i).toInt ≤ 0 := c_59_7
          refine V_aload_n (pc := 75) 0 dX12_cell_75 rfl rfl ?_
          refine V_getR (pc := 76) (j := 36) fk_X12_35_12 (wR hw (i := 27) (k := 10) (j := 36) rfl) dX12_cell_76 (wN hw (by decide)) (wS1 hw (by decide) rfl) ?_
          refine V_bipush (pc := 79) (v := 32) dX12_cell_79 rfl ?_
          refine V_iload_n (pc := 81) 1 dX12_cell_81 rfl rfl ?_
          refine V_imul (pc := 82) dX12_cell_82 (fun x_82_8 e_82_8 => ?_)
          have t_82_8 : x_82_8.toInt = 32 * k.toInt := mulT e_82_8 rfl rfl (by omega) (by omega)
          refine V_iload_n (pc := 83) 2 dX12_cell_83 rfl rfl ?_
          refine V_iadd (pc := 84) dX12_cell_84 (fun x_84_9 e_84_9 => ?_)
          have t_84_9 : x_84_9.toInt = x_82_8.toInt + i.toInt := addT e_84_9 rfl rfl (by omega) (by omega)
          refine V_ia (pc := 85) (k := ((32 * k.toInt) + i.toInt).toNat) (v := (I 36 ((32 * k.toInt) + i.toInt).toNat)) rfl dX12_cell_85 (wN hw (by decide)) (wS hw (by decide) rfl) (by omega) (by omega) ?_
          refine V_i2l (pc := 86) dX12_cell_86 (fun x_86_10 e_86_10 => ?_)
          have t_86_10 : x_86_10.toInt = (I 36 ((32 * k.toInt) + i.toInt).toNat).toInt := i2lT e_86_10 rfl
          have b_86_10 := fb_rng (I 36 ((32 * k.toInt) + i.toInt).toNat)
          refine V_lret (pc := 87) rfl dX12_cell_87 (by omega) (by omega) ?_
          subst_vars
          refine ⟨rfl, rfl, rfl, rfl, _, ?_, rfl⟩
          unfold sCell isSheet isLane
          (repeat' split) <;> first | rfl | (exfalso; omega)
        · have c_59_7 : 0 < (noCellF I k i).toInt := c_59_7
          refine V_aload_n (pc := 62) 0 dX12_cell_62 rfl rfl ?_
          refine V_aload_n (pc := 63) 0 dX12_cell_63 rfl rfl ?_
          refine V_iload_n (pc := 64) 1 dX12_cell_64 rfl rfl ?_
          refine V_iload_n (pc := 65) 2 dX12_cell_65 rfl rfl ?_
          refine V_callV (pc := 66) (As := [.int k, .int i]) (st := [.ref (ad G 27)]) (c_X12_noCell G I k i hw (fun _ => rfl) (by omega) (show -1 ≤ (I 34 k.toInt.toNat).toInt ∧ (I 34 k.toInt.toNat).toInt ≤ 32 by omega)) mf_X12_noCell ml_X12_140 iv_X12_noCell (wN hw (by decide)) (wS1 hw (by decide) rfl) (by decide) rfl dX12_cell_66 rfl rfl (by omega) (by omega) (by omega) (Nat.le_of_ble_eq_true rfl) (fun r_66_11 n_66_11 sh_66_11 I_66_11 L_66_11 R_66_11 hq_66_11 => ?_)
          obtain ⟨rfl, rfl, rfl, rfl, rfl, rfl⟩ := hq_66_11
          refine V_callV (pc := 69) (As := [.int (noCellF I k i)]) (st := []) (c_X12_failedLong G (noCellF I k i) hw) mf_X12_failedLong ml_X12_144 iv_X12_failedLong (wN hw (by decide)) (wS1 hw (by decide) rfl) (by decide) rfl dX12_cell_69 rfl rfl (by omega) (by omega) (by omega) (Nat.le_of_ble_eq_true rfl) (fun r_69_12 n_69_12 sh_69_12 I_69_12 L_69_12 R_69_12 hq_69_12 => ?_)
          obtain ⟨rfl, rfl, rfl, rfl, rfl, rfl⟩ := hq_69_12
          refine V_goto (pc := 72) (tgt := 87) dX12_cell_72 (by decide) ?_
          refine V_lret (pc := 87) rfl dX12_cell_87 (by omega) (by omega) ?_
          subst_vars
          refine ⟨rfl, rfl, rfl, rfl, _, ?_, rfl⟩
          unfold sCell isSheet isLane
          (repeat' split) <;> first | rfl | (exfalso; omega)
      · have c_34_5 : 0 ≤ (I 34 k.toInt.toNat).toInt := c_34_5
        refine V_aload_n (pc := 37) 0 dX12_cell_37 rfl rfl ?_
        refine V_getR (pc := 38) (j := 35) fk_X12_32_12 (wR hw (i := 27) (k := 9) (j := 35) rfl) dX12_cell_38 (wN hw (by decide)) (wS1 hw (by decide) rfl) ?_
        refine V_iload_n (pc := 41) 1 dX12_cell_41 rfl rfl ?_
        refine V_ia (pc := 42) (k := k.toInt.toNat) (v := (I 35 k.toInt.toNat)) rfl dX12_cell_42 (wN hw (by decide)) (wS hw (by decide) rfl) (by omega) (by omega) ?_
        refine V_iload_n (pc := 43) 3 dX12_cell_43 rfl rfl ?_
        refine V_icmp_eq (pc := 44) (tgt := 53) dX12_cell_44 (by decide) (fun c_44_13 => ?_) (fun c_44_13 => ?_)
        · have c_44_13 : (I 35 k.toInt.toNat).toInt = l.toInt := c_44_13
          refine V_aload_n (pc := 53) 0 dX12_cell_53 rfl rfl ?_
          refine V_iload_n (pc := 54) 1 dX12_cell_54 rfl rfl ?_
          refine V_iload_n (pc := 55) 2 dX12_cell_55 rfl rfl ?_
          refine V_callV (pc := 56) (As := [.int k, .int i]) (st := []) (c_X12_noCell G I k i hw (fun _ => rfl) (by omega) (show -1 ≤ (I 34 k.toInt.toNat).toInt ∧ (I 34 k.toInt.toNat).toInt ≤ 32 by omega)) mf_X12_noCell ml_X12_140 iv_X12_noCell (wN hw (by decide)) (wS1 hw (by decide) rfl) (by decide) rfl dX12_cell_56 rfl rfl (by omega) (by omega) (by omega) (Nat.le_of_ble_eq_true rfl) (fun r_56_14 n_56_14 sh_56_14 I_56_14 L_56_14 R_56_14 hq_56_14 => ?_)
          obtain ⟨rfl, rfl, rfl, rfl, rfl, rfl⟩ := hq_56_14
          refine V_if_le (pc := 59) (tgt := 75) dX12_cell_59 (by decide) (fun c_59_15 => ?_) (fun c_59_15 => ?_)
          · have c_59_15 : (noCellF I k i).toInt ≤ 0 := c_59_15
            refine V_aload_n (pc := 75) 0 dX12_cell_75 rfl rfl ?_
            refine V_getR (pc := 76) (j := 36) fk_X12_35_12 (wR hw (i := 27) (k := 10) (j := 36) rfl) dX12_cell_76 (wN hw (by decide)) (wS1 hw (by decide) rfl) ?_
            refine V_bipush (pc := 79) (v := 32) dX12_cell_79 rfl ?_
            refine V_iload_n (pc := 81) 1 dX12_cell_81 rfl rfl ?_
            refine V_imul (pc := 82) dX12_cell_82 (fun x_82_16 e_82_16 => ?_)
            have t_82_16 : x_82_16.toInt = 32 * k.toInt := mulT e_82_16 rfl rfl (by omega) (by omega)
            refine V_iload_n (pc := 83) 2 dX12_cell_83 rfl rfl ?_
            refine V_iadd (pc := 84) dX12_cell_84 (fun x_84_17 e_84_17 => ?_)
            have t_84_17 : x_84_17.toInt = x_82_16.toInt + i.toInt := addT e_84_17 rfl rfl (by omega) (by omega)
            refine V_ia (pc := 85) (k := ((32 * k.toInt) + i.toInt).toNat) (v := (I 36 ((32 * k.toInt) + i.toInt).toNat)) rfl dX12_cell_85 (wN hw (by decide)) (wS hw (by decide) rfl) (by omega) (by omega) ?_
            refine V_i2l (pc := 86) dX12_cell_86 (fun x_86_18 e_86_18 => ?_)
            have t_86_18 : x_86_18.toInt = (I 36 ((32 * k.toInt) + i.toInt).toNat).toInt := i2lT e_86_18 rfl
            have b_86_18 := fb_rng (I 36 ((32 * k.toInt) + i.toInt).toNat)
            refine V_lret (pc := 87) rfl dX12_cell_87 (by omega) (by omega) ?_
            subst_vars
            refine ⟨rfl, rfl, rfl, rfl, _, ?_, rfl⟩
            unfold sCell isSheet isLane
            (repeat' split) <;> first | rfl | (exfalso; omega)
          · have c_59_15 : 0 < (noCellF I k i).toInt := c_59_15
            refine V_aload_n (pc := 62) 0 dX12_cell_62 rfl rfl ?_
            refine V_aload_n (pc := 63) 0 dX12_cell_63 rfl rfl ?_
            refine V_iload_n (pc := 64) 1 dX12_cell_64 rfl rfl ?_
            refine V_iload_n (pc := 65) 2 dX12_cell_65 rfl rfl ?_
            refine V_callV (pc := 66) (As := [.int k, .int i]) (st := [.ref (ad G 27)]) (c_X12_noCell G I k i hw (fun _ => rfl) (by omega) (show -1 ≤ (I 34 k.toInt.toNat).toInt ∧ (I 34 k.toInt.toNat).toInt ≤ 32 by omega)) mf_X12_noCell ml_X12_140 iv_X12_noCell (wN hw (by decide)) (wS1 hw (by decide) rfl) (by decide) rfl dX12_cell_66 rfl rfl (by omega) (by omega) (by omega) (Nat.le_of_ble_eq_true rfl) (fun r_66_19 n_66_19 sh_66_19 I_66_19 L_66_19 R_66_19 hq_66_19 => ?_)
            obtain ⟨rfl, rfl, rfl, rfl, rfl, rfl⟩ := hq_66_19
            refine V_callV (pc := 69) (As := [.int (noCellF I k i)]) (st := []) (c_X12_failedLong G (noCellF I k i) hw) mf_X12_failedLong ml_X12_144 iv_X12_failedLong (wN hw (by decide)) (wS1 hw (by decide) rfl) (by decide) rfl dX12_cell_69 rfl rfl (by omega) (by omega) (by omega) (Nat.le_of_ble_eq_true rfl) (fun r_69_20 n_69_20 sh_69_20 I_69_20 L_69_20 R_69_20 hq_69_20 => ?_)
            obtain ⟨rfl, rfl, rfl, rfl, rfl, rfl⟩ := hq_69_20
            refine V_goto (pc := 72) (tgt := 87) dX12_cell_72 (by decide) ?_
            refine V_lret (pc := 87) rfl dX12_cell_87 (by omega) (by omega) ?_
            subst_vars
            refine ⟨rfl, rfl, rfl, rfl, _, ?_, rfl⟩
            unfold sCell isSheet isLane
            (repeat' split) <;> first | rfl | (exfalso; omega)
        · have c_44_13 : (I 35 k.toInt.toNat).toInt ≠ l.toInt := c_44_13
          refine V_aload_n (pc := 47) 0 dX12_cell_47 rfl rfl ?_
          refine V_iconst (pc := 48) (v := 2) dX12_cell_48 rfl ?_
          refine V_callV (pc := 49) (As := [.int 2]) (st := []) (c_X12_failedLong G 2 hw) mf_X12_failedLong ml_X12_144 iv_X12_failedLong (wN hw (by decide)) (wS1 hw (by decide) rfl) (by decide) rfl dX12_cell_49 rfl rfl (by omega) (by omega) (by omega) (Nat.le_of_ble_eq_true rfl) (fun r_49_21 n_49_21 sh_49_21 I_49_21 L_49_21 R_49_21 hq_49_21 => ?_)
          obtain ⟨rfl, rfl, rfl, rfl, rfl, rfl⟩ := hq_49_21
          refine V_lret (pc := 52) rfl dX12_cell_52 (by omega) (by omega) ?_
          subst_vars
          refine ⟨rfl, rfl, rfl, rfl, _, ?_, rfl⟩
          unfold sCell isSheet isLane
          (repeat' split) <;> first | rfl | (exfalso; omega)
    · have c_18_4 : ¬ (0 ≤ x_13_3.toInt ∧ x_13_3.toInt ≤ 2) := c_18_4
      refine V_if_ne_f (pc := 21) (tgt := 28) dX12_cell_21 (by decide) (by decide) ?_
      refine V_callS (pc := 24) (As := []) (st := []) (c_X12_lost G) mf_X12_lost ml_X12_104 st_X12_lost dX12_cell_24 rfl rfl (by omega) (by omega) (by omega) (Nat.le_of_ble_eq_true rfl) (fun r_24_22 n_24_22 sh_24_22 I_24_22 L_24_22 R_24_22 hq_24_22 => ?_)
      obtain ⟨rfl, rfl, rfl, rfl, rfl, rfl⟩ := hq_24_22
      refine V_lret (pc := 27) rfl dX12_cell_27 (by omega) (by omega) ?_
      subst_vars
      refine ⟨rfl, rfl, rfl, rfl, _, ?_, rfl⟩
      unfold sCell isSheet isLane
      (repeat' split) <;> first | rfl | (exfalso; omega)
set_option maxRecDepth 100000 in
set_option maxHeartbeats 4000000 in
theorem c_X12_isBeyond (G : vG) {n : Nat} {sh : vS} {I : vI} {L : vL} {R : vR} (i m a : Int32)  : CT G yX12_isBeyond cX12_isBeyond 3 (some .boolean) 0 0 0 [.int i, .int m, .int a] n sh I L R (PI n sh L R (fun I' r => I = I' ∧ rb r (i.toInt < 0 ∨ m.toInt < 0 ∨ a.toInt < i.toInt + m.toInt))) := by
  refine CT_of (own := RX12) (ini := false) (lo := [(0, .int i), (1, .int m), (2, .int a)]) mf_X12_isBeyond (Nat.le_of_ble_eq_true rfl) rfl (fun h => by first | rfl | cases h) rfl ?_
  refine V_iload_n (pc := 0) 0 dX12_isBeyond_0 rfl rfl ?_
  refine V_if_lt (pc := 1) (tgt := 19) dX12_isBeyond_1 (by decide) (fun c_1_1 => ?_) (fun c_1_1 => ?_)
  · have c_1_1 : i.toInt < 0 := c_1_1
    refine V_iconst (pc := 19) (v := 1) dX12_isBeyond_19 rfl ?_
    refine V_goto (pc := 20) (tgt := 24) dX12_isBeyond_20 (by decide) ?_
    refine V_iret (pc := 24) rfl rfl dX12_isBeyond_24 (by omega) (by omega) ?_
    exact ⟨rfl, rfl, rfl, rfl, rfl, Or.inl ⟨by omega, rfl⟩⟩
  · have c_1_1 : 0 ≤ i.toInt := c_1_1
    refine V_iload_n (pc := 4) 1 dX12_isBeyond_4 rfl rfl ?_
    refine V_if_lt (pc := 5) (tgt := 19) dX12_isBeyond_5 (by decide) (fun c_5_2 => ?_) (fun c_5_2 => ?_)
    · have c_5_2 : m.toInt < 0 := c_5_2
      refine V_iconst (pc := 19) (v := 1) dX12_isBeyond_19 rfl ?_
      refine V_goto (pc := 20) (tgt := 24) dX12_isBeyond_20 (by decide) ?_
      refine V_iret (pc := 24) rfl rfl dX12_isBeyond_24 (by omega) (by omega) ?_
      exact ⟨rfl, rfl, rfl, rfl, rfl, Or.inl ⟨by omega, rfl⟩⟩
    · have c_5_2 : 0 ≤ m.toInt := c_5_2
      refine V_iload_n (pc := 8) 0 dX12_isBeyond_8 rfl rfl ?_
      refine V_i2l (pc := 9) dX12_isBeyond_9 (fun x_9_3 e_9_3 => ?_)
      have t_9_3 : x_9_3.toInt = i.toInt := i2lT e_9_3 rfl
      have b_9_3 := fb_rng i
      refine V_iload_n (pc := 10) 1 dX12_isBeyond_10 rfl rfl ?_
      refine V_i2l (pc := 11) dX12_isBeyond_11 (fun x_11_4 e_11_4 => ?_)
      have t_11_4 : x_11_4.toInt = m.toInt := i2lT e_11_4 rfl
      have b_11_4 := fb_rng m
      refine V_ladd (pc := 12) dX12_isBeyond_12 (fun x_12_5 e_12_5 => ?_)
      have t_12_5 : x_12_5.toInt = x_9_3.toInt + x_11_4.toInt := laddT e_12_5 rfl rfl (by omega) (by omega)
      refine V_iload_n (pc := 13) 2 dX12_isBeyond_13 rfl rfl ?_
      refine V_i2l (pc := 14) dX12_isBeyond_14 (fun x_14_6 e_14_6 => ?_)
      have t_14_6 : x_14_6.toInt = a.toInt := i2lT e_14_6 rfl
      have b_14_6 := fb_rng a
      refine V_lcmp (pc := 15) dX12_isBeyond_15 (fun x_15_7 e_15_7 => ?_)
      refine V_if_le (pc := 16) (tgt := 23) dX12_isBeyond_16 (by decide) (fun c_15_7 => ?_) (fun c_15_7 => ?_)
      · have c_15_7 : x_12_5.toInt ≤ x_14_6.toInt := (lcT_le e_15_7).mp c_15_7
        refine V_iconst (pc := 23) (v := 0) dX12_isBeyond_23 rfl ?_
        refine V_iret (pc := 24) rfl rfl dX12_isBeyond_24 (by omega) (by omega) ?_
        exact ⟨rfl, rfl, rfl, rfl, rfl, Or.inr ⟨by omega, rfl⟩⟩
      · have c_15_7 : x_14_6.toInt < x_12_5.toInt := (lcT_gt e_15_7).mp c_15_7
        refine V_iconst (pc := 19) (v := 1) dX12_isBeyond_19 rfl ?_
        refine V_goto (pc := 20) (tgt := 24) dX12_isBeyond_20 (by decide) ?_
        refine V_iret (pc := 24) rfl rfl dX12_isBeyond_24 (by omega) (by omega) ?_
        exact ⟨rfl, rfl, rfl, rfl, rfl, Or.inl ⟨by omega, rfl⟩⟩
set_option maxRecDepth 100000 in
set_option maxHeartbeats 4000000 in
theorem c_X12_faultOf (G : vG) {n : Nat} {sh : vS} {I : vI} {L : vL} {R : vR} (J : vI) (k l i m : Int32) (hw : WF n sh R) (hJ : ∀ z, I 34 z = J 34 z) (hJ5 : ∀ z, I 35 z = J 35 z) (hk : isSheet k) : CT G yX12_faultOf cX12_faultOf 5 (some .int) 1 0 0 [.ref (ad G 27), .int k, .int l, .int i, .int m] n sh I L R (PI n sh L R (fun I' r => I = I' ∧ r = some (.int (faultF J k l i m)))) := by
  refine CT_of (own := RX12) (ini := false) (lo := [(0, .ref (ad G 27)), (1, .int k), (2, .int l), (3, .int i), (4, .int m)]) mf_X12_faultOf (Nat.le_of_ble_eq_true rfl) rfl (fun h => by first | rfl | cases h) rfl ?_
  unfold isSheet at hk
  refine V_aload_n (pc := 0) 0 dX12_faultOf_0 rfl rfl ?_
  refine V_getR (pc := 1) (j := 34) fk_X12_29_12 (wR hw (i := 27) (k := 8) (j := 34) rfl) dX12_faultOf_1 (wN hw (by decide)) (wS1 hw (by decide) rfl) ?_
  refine V_iload_n (pc := 4) 1 dX12_faultOf_4 rfl rfl ?_
  refine V_ia (pc := 5) (k := k.toInt.toNat) (v := (I 34 k.toInt.toNat)) rfl dX12_faultOf_5 (wN hw (by decide)) (wS hw (by decide) rfl) (by omega) (by omega) ?_
  refine V_if_lt (pc := 6) (tgt := 21) dX12_faultOf_6 (by decide) (fun c_6_1 => ?_) (fun c_6_1 => ?_)
  · have c_6_1 : (I 34 k.toInt.toNat).toInt < 0 := c_6_1
    refine V_aload_n (pc := 21) 0 dX12_faultOf_21 rfl rfl ?_
    refine V_getR (pc := 22) (j := 34) fk_X12_29_12 (wR hw (i := 27) (k := 8) (j := 34) rfl) dX12_faultOf_22 (wN hw (by decide)) (wS1 hw (by decide) rfl) ?_
    refine V_iload_n (pc := 25) 1 dX12_faultOf_25 rfl rfl ?_
    refine V_ia (pc := 26) (k := k.toInt.toNat) (v := (I 34 k.toInt.toNat)) rfl dX12_faultOf_26 (wN hw (by decide)) (wS hw (by decide) rfl) (by omega) (by omega) ?_
    refine V_if_ge (pc := 27) (tgt := 34) dX12_faultOf_27 (by decide) (fun c_27_2 => ?_) (fun c_27_2 => ?_)
    · have c_27_2 : 0 ≤ (I 34 k.toInt.toNat).toInt := c_27_2
      refine V_iload (pc := 34) 4 dX12_faultOf_34 rfl ?_
      refine V_if_ge (pc := 36) (tgt := 43) dX12_faultOf_36 (by decide) (fun c_36_3 => ?_) (fun c_36_3 => ?_)
      · have c_36_3 : 0 ≤ m.toInt := c_36_3
        refine V_iload_n (pc := 43) 3 dX12_faultOf_43 rfl rfl ?_
        refine V_iload (pc := 44) 4 dX12_faultOf_44 rfl ?_
        refine V_aload_n (pc := 46) 0 dX12_faultOf_46 rfl rfl ?_
        refine V_getR (pc := 47) (j := 34) fk_X12_29_12 (wR hw (i := 27) (k := 8) (j := 34) rfl) dX12_faultOf_47 (wN hw (by decide)) (wS1 hw (by decide) rfl) ?_
        refine V_iload_n (pc := 50) 1 dX12_faultOf_50 rfl rfl ?_
        refine V_ia (pc := 51) (k := k.toInt.toNat) (v := (I 34 k.toInt.toNat)) rfl dX12_faultOf_51 (wN hw (by decide)) (wS hw (by decide) rfl) (by omega) (by omega) ?_
        refine V_callS (pc := 52) (As := [.int i, .int m, .int (I 34 k.toInt.toNat)]) (st := []) (c_X12_isBeyond G i m (I 34 k.toInt.toNat)) mf_X12_isBeyond ml_X12_148 st_X12_isBeyond dX12_faultOf_52 rfl rfl (by omega) (by omega) (by omega) (Nat.le_of_ble_eq_true rfl) (fun r_52_4 n_52_4 sh_52_4 I_52_4 L_52_4 R_52_4 hq_52_4 => ?_)
        obtain ⟨rfl, rfl, rfl, rfl, rfl, hq_52_4⟩ := hq_52_4
        rcases hq_52_4 with ⟨c_52_4, rfl⟩ | ⟨c_52_4, rfl⟩
        · have c_52_4 : i.toInt < 0 ∨ m.toInt < 0 ∨ (I 34 k.toInt.toNat).toInt < i.toInt + m.toInt := c_52_4
          refine V_if_eq_f (pc := 55) (tgt := 62) dX12_faultOf_55 (by decide) (by decide) ?_
          refine V_iconst (pc := 58) (v := 3) dX12_faultOf_58 rfl ?_
          refine V_goto (pc := 59) (tgt := 63) dX12_faultOf_59 (by decide) ?_
          refine V_iret (pc := 63) rfl rfl dX12_faultOf_63 (by omega) (by omega) ?_
          refine ⟨rfl, rfl, rfl, rfl, rfl, ?_⟩
          unfold faultF
          simp only [← hJ, ← hJ5]
          (repeat' split) <;> first | rfl | (exfalso; omega)
        · have c_52_4 : ¬ (i.toInt < 0 ∨ m.toInt < 0 ∨ (I 34 k.toInt.toNat).toInt < i.toInt + m.toInt) := c_52_4
          refine V_if_eq_t (pc := 55) (tgt := 62) dX12_faultOf_55 (by decide) (by decide) ?_
          refine V_iconst (pc := 62) (v := 0) dX12_faultOf_62 rfl ?_
          refine V_iret (pc := 63) rfl rfl dX12_faultOf_63 (by omega) (by omega) ?_
          refine ⟨rfl, rfl, rfl, rfl, rfl, ?_⟩
          unfold faultF
          simp only [← hJ, ← hJ5]
          (repeat' split) <;> first | rfl | (exfalso; omega)
      · have c_36_3 : m.toInt < 0 := c_36_3
        refine V_iconst (pc := 39) (v := 4) dX12_faultOf_39 rfl ?_
        refine V_goto (pc := 40) (tgt := 63) dX12_faultOf_40 (by decide) ?_
        refine V_iret (pc := 63) rfl rfl dX12_faultOf_63 (by omega) (by omega) ?_
        refine ⟨rfl, rfl, rfl, rfl, rfl, ?_⟩
        unfold faultF
        simp only [← hJ, ← hJ5]
        (repeat' split) <;> first | rfl | (exfalso; omega)
    · have c_27_2 : (I 34 k.toInt.toNat).toInt < 0 := c_27_2
      refine V_iconst (pc := 30) (v := 1) dX12_faultOf_30 rfl ?_
      refine V_goto (pc := 31) (tgt := 63) dX12_faultOf_31 (by decide) ?_
      refine V_iret (pc := 63) rfl rfl dX12_faultOf_63 (by omega) (by omega) ?_
      refine ⟨rfl, rfl, rfl, rfl, rfl, ?_⟩
      unfold faultF
      simp only [← hJ, ← hJ5]
      (repeat' split) <;> first | rfl | (exfalso; omega)
  · have c_6_1 : 0 ≤ (I 34 k.toInt.toNat).toInt := c_6_1
    refine V_aload_n (pc := 9) 0 dX12_faultOf_9 rfl rfl ?_
    refine V_getR (pc := 10) (j := 35) fk_X12_32_12 (wR hw (i := 27) (k := 9) (j := 35) rfl) dX12_faultOf_10 (wN hw (by decide)) (wS1 hw (by decide) rfl) ?_
    refine V_iload_n (pc := 13) 1 dX12_faultOf_13 rfl rfl ?_
    refine V_ia (pc := 14) (k := k.toInt.toNat) (v := (I 35 k.toInt.toNat)) rfl dX12_faultOf_14 (wN hw (by decide)) (wS hw (by decide) rfl) (by omega) (by omega) ?_
    refine V_iload_n (pc := 15) 2 dX12_faultOf_15 rfl rfl ?_
    refine V_icmp_eq (pc := 16) (tgt := 21) dX12_faultOf_16 (by decide) (fun c_16_5 => ?_) (fun c_16_5 => ?_)
    · have c_16_5 : (I 35 k.toInt.toNat).toInt = l.toInt := c_16_5
      refine V_aload_n (pc := 21) 0 dX12_faultOf_21 rfl rfl ?_
      refine V_getR (pc := 22) (j := 34) fk_X12_29_12 (wR hw (i := 27) (k := 8) (j := 34) rfl) dX12_faultOf_22 (wN hw (by decide)) (wS1 hw (by decide) rfl) ?_
      refine V_iload_n (pc := 25) 1 dX12_faultOf_25 rfl rfl ?_
      refine V_ia (pc := 26) (k := k.toInt.toNat) (v := (I 34 k.toInt.toNat)) rfl dX12_faultOf_26 (wN hw (by decide)) (wS hw (by decide) rfl) (by omega) (by omega) ?_
      refine V_if_ge (pc := 27) (tgt := 34) dX12_faultOf_27 (by decide) (fun c_27_6 => ?_) (fun c_27_6 => ?_)
      · have c_27_6 : 0 ≤ (I 34 k.toInt.toNat).toInt := c_27_6
        refine V_iload (pc := 34) 4 dX12_faultOf_34 rfl ?_
        refine V_if_ge (pc := 36) (tgt := 43) dX12_faultOf_36 (by decide) (fun c_36_7 => ?_) (fun c_36_7 => ?_)
        · have c_36_7 : 0 ≤ m.toInt := c_36_7
          refine V_iload_n (pc := 43) 3 dX12_faultOf_43 rfl rfl ?_
          refine V_iload (pc := 44) 4 dX12_faultOf_44 rfl ?_
          refine V_aload_n (pc := 46) 0 dX12_faultOf_46 rfl rfl ?_
          refine V_getR (pc := 47) (j := 34) fk_X12_29_12 (wR hw (i := 27) (k := 8) (j := 34) rfl) dX12_faultOf_47 (wN hw (by decide)) (wS1 hw (by decide) rfl) ?_
          refine V_iload_n (pc := 50) 1 dX12_faultOf_50 rfl rfl ?_
          refine V_ia (pc := 51) (k := k.toInt.toNat) (v := (I 34 k.toInt.toNat)) rfl dX12_faultOf_51 (wN hw (by decide)) (wS hw (by decide) rfl) (by omega) (by omega) ?_
          refine V_callS (pc := 52) (As := [.int i, .int m, .int (I 34 k.toInt.toNat)]) (st := []) (c_X12_isBeyond G i m (I 34 k.toInt.toNat)) mf_X12_isBeyond ml_X12_148 st_X12_isBeyond dX12_faultOf_52 rfl rfl (by omega) (by omega) (by omega) (Nat.le_of_ble_eq_true rfl) (fun r_52_8 n_52_8 sh_52_8 I_52_8 L_52_8 R_52_8 hq_52_8 => ?_)
          obtain ⟨rfl, rfl, rfl, rfl, rfl, hq_52_8⟩ := hq_52_8
          rcases hq_52_8 with ⟨c_52_8, rfl⟩ | ⟨c_52_8, rfl⟩
          · have c_52_8 : i.toInt < 0 ∨ m.toInt < 0 ∨ (I 34 k.toInt.toNat).toInt < i.toInt + m.toInt := c_52_8
            refine V_if_eq_f (pc := 55) (tgt := 62) dX12_faultOf_55 (by decide) (by decide) ?_
            refine V_iconst (pc := 58) (v := 3) dX12_faultOf_58 rfl ?_
            refine V_goto (pc := 59) (tgt := 63) dX12_faultOf_59 (by decide) ?_
            refine V_iret (pc := 63) rfl rfl dX12_faultOf_63 (by omega) (by omega) ?_
            refine ⟨rfl, rfl, rfl, rfl, rfl, ?_⟩
            unfold faultF
            simp only [← hJ, ← hJ5]
            (repeat' split) <;> first | rfl | (exfalso; omega)
          · have c_52_8 : ¬ (i.toInt < 0 ∨ m.toInt < 0 ∨ (I 34 k.toInt.toNat).toInt < i.toInt + m.toInt) := c_52_8
            refine V_if_eq_t (pc := 55) (tgt := 62) dX12_faultOf_55 (by decide) (by decide) ?_
            refine V_iconst (pc := 62) (v := 0) dX12_faultOf_62 rfl ?_
            refine V_iret (pc := 63) rfl rfl dX12_faultOf_63 (by omega) (by omega) ?_
            refine ⟨rfl, rfl, rfl, rfl, rfl, ?_⟩
            unfold faultF
            simp only [← hJ, ← hJ5]
            (repeat' split) <;> first | rfl | (exfalso; omega)
        · have c_36_7 : m.toInt < 0 := c_36_7
          refine V_iconst (pc := 39) (v := 4) dX12_faultOf_39 rfl ?_
          refine V_goto (pc := 40) (tgt := 63) dX12_faultOf_40 (by decide) ?_
          refine V_iret (pc := 63) rfl rfl dX12_faultOf_63 (by omega) (by omega) ?_
          refine ⟨rfl, rfl, rfl, rfl, rfl, ?_⟩
          unfold faultF
          simp only [← hJ, ← hJ5]
          (repeat' split) <;> first | rfl | (exfalso; omega)
      · have c_27_6 : (I 34 k.toInt.toNat).toInt < 0 := c_27_6
        refine V_iconst (pc := 30) (v := 1) dX12_faultOf_30 rfl ?_
        refine V_goto (pc := 31) (tgt := 63) dX12_faultOf_31 (by decide) ?_
        refine V_iret (pc := 63) rfl rfl dX12_faultOf_63 (by omega) (by omega) ?_
        refine ⟨rfl, rfl, rfl, rfl, rfl, ?_⟩
        unfold faultF
        simp only [← hJ, ← hJ5]
        (repeat' split) <;> first | rfl | (exfalso; omega)
    · have c_16_5 : (I 35 k.toInt.toNat).toInt ≠ l.toInt := c_16_5
      refine V_iconst (pc := 19) (v := 2) dX12_faultOf_19 rfl ?_
      refine V_iret (pc := 20) rfl rfl dX12_faultOf_20 (by omega) (by omega) ?_
      refine ⟨rfl, rfl, rfl, rfl, rfl, ?_⟩
      unfold faultF
      simp only [← hJ, ← hJ5]
      (repeat' split) <;> first | rfl | (exfalso; omega)
set_option maxRecDepth 100000 in
set_option maxHeartbeats 4000000 in
theorem c_X12_laid (G : vG) {n : Nat} {sh : vS} {I : vI} {L : vL} {R : vR} (i : Int32) (hw : WF n sh R) (h24 : 0 ≤ (I 27 24).toInt ∧ (I 27 24).toInt ≤ 10) : CT G yX12_laid cX12_laid 2 (some .int) 1 0 0 [.ref (ad G 27), .int i] n sh I L R (PI n sh L R (fun I' r => I = I' ∧ r = some (.int (sLaid I i)))) := by
  refine CT_of (own := RX12) (ini := false) (lo := [(0, .ref (ad G 27)), (1, .int i)]) mf_X12_laid (Nat.le_of_ble_eq_true rfl) rfl (fun h => by first | rfl | cases h) rfl ?_
  refine V_iload_n (pc := 0) 1 dX12_laid_0 rfl rfl ?_
  refine V_i2l (pc := 1) dX12_laid_1 (fun x_1_1 e_1_1 => ?_)
  have t_1_1 : x_1_1.toInt = i.toInt := i2lT e_1_1 rfl
  have b_1_1 := fb_rng i
  refine V_lconst (pc := 2) (v := 0) dX12_laid_2 rfl ?_
  refine V_aload_n (pc := 3) 0 dX12_laid_3 rfl rfl ?_
  refine V_gI (pc := 4) (v := (I 27 24)) rfl fk_X12_95_12 dX12_laid_4 (wN hw (by decide)) (wS1 hw (by decide) rfl) ?_
  refine V_i2l (pc := 7) dX12_laid_7 (fun x_7_2 e_7_2 => ?_)
  have t_7_2 : x_7_2.toInt = (I 27 24).toInt := i2lT e_7_2 rfl
  have b_7_2 := fb_rng (I 27 24)
  refine V_lconst (pc := 8) (v := 1) dX12_laid_8 rfl ?_
  refine V_lsub (pc := 9) dX12_laid_9 (fun x_9_3 e_9_3 => ?_)
  have t_9_3 : x_9_3.toInt = x_7_2.toInt - 1 := lsubT e_9_3 rfl rfl (by omega) (by omega)
  refine V_callS (pc := 10) (As := [.long x_1_1, .long 0, .long x_9_3]) (st := []) (c_X12_in G x_1_1 0 x_9_3) mf_X12_in ml_X12_111 st_X12_in dX12_laid_10 rfl rfl (by omega) (by omega) (by omega) (Nat.le_of_ble_eq_true rfl) (fun r_10_4 n_10_4 sh_10_4 I_10_4 L_10_4 R_10_4 hq_10_4 => ?_)
  obtain ⟨rfl, rfl, rfl, rfl, rfl, hq_10_4⟩ := hq_10_4
  rcases hq_10_4 with ⟨c_10_4, rfl⟩ | ⟨c_10_4, rfl⟩
  · have c_10_4 : 0 ≤ x_1_1.toInt ∧ x_1_1.toInt ≤ x_9_3.toInt := c_10_4
    refine V_if_eq_f (pc := 13) (tgt := 25) dX12_laid_13 (by decide) (by decide) ?_
    refine V_aload_n (pc := 16) 0 dX12_laid_16 rfl rfl ?_
    refine V_getR (pc := 17) (j := 44) fk_X12_59_12 (wR hw (i := 27) (k := 26) (j := 44) rfl) dX12_laid_17 (wN hw (by decide)) (wS1 hw (by decide) rfl) ?_
    refine V_iload_n (pc := 20) 1 dX12_laid_20 rfl rfl ?_
    refine V_ia (pc := 21) (k := i.toInt.toNat) (v := (I 44 i.toInt.toNat)) rfl dX12_laid_21 (wN hw (by decide)) (wS hw (by decide) rfl) (by omega) (by omega) ?_
    refine V_goto (pc := 22) (tgt := 26) dX12_laid_22 (by decide) ?_
    refine V_iret (pc := 26) rfl rfl dX12_laid_26 (by omega) (by omega) ?_
    refine ⟨rfl, rfl, rfl, rfl, rfl, ?_⟩
    unfold sLaid
    (repeat' split) <;> first | rfl | (exfalso; omega)
  · have c_10_4 : ¬ (0 ≤ x_1_1.toInt ∧ x_1_1.toInt ≤ x_9_3.toInt) := c_10_4
    refine V_if_eq_t (pc := 13) (tgt := 25) dX12_laid_13 (by decide) (by decide) ?_
    refine V_iconst (pc := 25) (v := (-1)) dX12_laid_25 rfl ?_
    refine V_iret (pc := 26) rfl rfl dX12_laid_26 (by omega) (by omega) ?_
    refine ⟨rfl, rfl, rfl, rfl, rfl, ?_⟩
    unfold sLaid
    (repeat' split) <;> first | rfl | (exfalso; omega)
set_option maxRecDepth 100000 in
set_option maxHeartbeats 4000000 in
theorem c_X12_speed (G : vG) {n : Nat} {sh : vS} {I : vI} {L : vL} {R : vR} (p v : Int32) (hw : WF n sh R) (h27 : 0 ≤ (I 27 27).toInt ∧ (I 27 27).toInt ≤ 8) : CT G yX12_speed cX12_speed 3 (some .int) 1 0 0 [.ref (ad G 27), .int p, .int v] n sh I L R (PI n sh L R (qi (sSpeed I p v))) := by
  refine CT_of (own := RX12) (ini := false) (lo := [(0, .ref (ad G 27)), (1, .int p), (2, .int v)]) mf_X12_speed (Nat.le_of_ble_eq_true rfl) rfl (fun h => by first | rfl | cases h) rfl ?_
  refine V_iload_n (pc := 0) 2 dX12_speed_0 rfl rfl ?_
  refine V_i2l (pc := 1) dX12_speed_1 (fun x_1_1 e_1_1 => ?_)
  have t_1_1 : x_1_1.toInt = v.toInt := i2lT e_1_1 rfl
  have b_1_1 := fb_rng v
  refine V_lconst (pc := 2) (v := 1) dX12_speed_2 rfl ?_
  refine V_ldc2 (pc := 3) dX12_speed_3 kk_X12_216 ?_
  refine V_callS (pc := 6) (As := [.long x_1_1, .long 1, .long 3000]) (st := []) (c_X12_in G x_1_1 1 3000) mf_X12_in ml_X12_111 st_X12_in dX12_speed_6 rfl rfl (by omega) (by omega) (by omega) (Nat.le_of_ble_eq_true rfl) (fun r_6_2 n_6_2 sh_6_2 I_6_2 L_6_2 R_6_2 hq_6_2 => ?_)
  obtain ⟨rfl, rfl, rfl, rfl, rfl, hq_6_2⟩ := hq_6_2
  rcases hq_6_2 with ⟨c_6_2, rfl⟩ | ⟨c_6_2, rfl⟩
  · have c_6_2 : 1 ≤ x_1_1.toInt ∧ x_1_1.toInt ≤ 3000 := c_6_2
    refine V_if_ne_t (pc := 9) (tgt := 15) dX12_speed_9 (by decide) (by decide) ?_
    refine V_aload_n (pc := 15) 0 dX12_speed_15 rfl rfl ?_
    refine V_gI (pc := 16) (v := (I 27 24)) rfl fk_X12_95_12 dX12_speed_16 (wN hw (by decide)) (wS1 hw (by decide) rfl) ?_
    refine V_if_ne (pc := 19) (tgt := 25) dX12_speed_19 (by decide) (fun c_19_3 => ?_) (fun c_19_3 => ?_)
    · have c_19_3 : (I 27 24).toInt ≠ 0 := c_19_3
      refine V_iload_n (pc := 25) 1 dX12_speed_25 rfl rfl ?_
      refine V_i2l (pc := 26) dX12_speed_26 (fun x_26_4 e_26_4 => ?_)
      have t_26_4 : x_26_4.toInt = p.toInt := i2lT e_26_4 rfl
      have b_26_4 := fb_rng p
      refine V_lconst (pc := 27) (v := 0) dX12_speed_27 rfl ?_
      refine V_aload_n (pc := 28) 0 dX12_speed_28 rfl rfl ?_
      refine V_gI (pc := 29) (v := (I 27 25)) rfl fk_X12_193_12 dX12_speed_29 (wN hw (by decide)) (wS1 hw (by decide) rfl) ?_
      refine V_i2l (pc := 32) dX12_speed_32 (fun x_32_5 e_32_5 => ?_)
      have t_32_5 : x_32_5.toInt = (I 27 25).toInt := i2lT e_32_5 rfl
      have b_32_5 := fb_rng (I 27 25)
      refine V_callS (pc := 33) (As := [.long x_26_4, .long 0, .long x_32_5]) (st := []) (c_X12_in G x_26_4 0 x_32_5) mf_X12_in ml_X12_111 st_X12_in dX12_speed_33 rfl rfl (by omega) (by omega) (by omega) (Nat.le_of_ble_eq_true rfl) (fun r_33_6 n_33_6 sh_33_6 I_33_6 L_33_6 R_33_6 hq_33_6 => ?_)
      obtain ⟨rfl, rfl, rfl, rfl, rfl, hq_33_6⟩ := hq_33_6
      rcases hq_33_6 with ⟨c_33_6, rfl⟩ | ⟨c_33_6, rfl⟩
      · have c_33_6 : 0 ≤ x_26_4.toInt ∧ x_26_4.toInt ≤ x_32_5.toInt := c_33_6
        refine V_if_ne_t (pc := 36) (tgt := 42) dX12_speed_36 (by decide) (by decide) ?_
        refine V_aload_n (pc := 42) 0 dX12_speed_42 rfl rfl ?_
        refine V_gI (pc := 43) (v := (I 27 27)) rfl fk_X12_196_12 dX12_speed_43 (wN hw (by decide)) (wS1 hw (by decide) rfl) ?_
        refine V_bipush (pc := 46) (v := 8) dX12_speed_46 rfl ?_
        refine V_icmp_ne (pc := 48) (tgt := 54) dX12_speed_48 (by decide) (fun c_48_7 => ?_) (fun c_48_7 => ?_)
        · have c_48_7 : (I 27 27).toInt ≠ 8 := c_48_7
          refine V_aload_n (pc := 54) 0 dX12_speed_54 rfl rfl ?_
          refine V_getR (pc := 55) (j := 45) fk_X12_62_12 (wR hw (i := 27) (k := 28) (j := 45) rfl) dX12_speed_55 (wN hw (by decide)) (wS1 hw (by decide) rfl) ?_
          refine V_aload_n (pc := 58) 0 dX12_speed_58 rfl rfl ?_
          refine V_gI (pc := 59) (v := (I 27 27)) rfl fk_X12_196_12 dX12_speed_59 (wN hw (by decide)) (wS1 hw (by decide) rfl) ?_
          refine V_iload_n (pc := 62) 1 dX12_speed_62 rfl rfl ?_
          refine V_iask (pc := 63) (k := (I 27 27).toInt.toNat) dX12_speed_63 (wN hw (by decide)) (wS hw (by decide) rfl) (by omega) (by omega) ?_
          refine V_aload_n (pc := 64) 0 dX12_speed_64 rfl rfl ?_
          refine V_getR (pc := 65) (j := 46) fk_X12_65_12 (wR hw (i := 27) (k := 29) (j := 46) rfl) dX12_speed_65 (wN hw (by decide)) (wS1 hw (by decide) rfl) ?_
          refine V_aload_n (pc := 68) 0 dX12_speed_68 rfl rfl ?_
          refine V_gI (pc := 69) (v := (I 27 27)) rfl fk_X12_196_12 dX12_speed_69 (wN hw (by decide)) (wS1 hw (by decide) rfl) ?_
          refine V_iload_n (pc := 72) 2 dX12_speed_72 rfl rfl ?_
          refine V_iask (pc := 73) (k := (I 27 27).toInt.toNat) dX12_speed_73 (wN hw (by decide)) (wS hw (by decide) rfl) (by omega) (by omega) ?_
          refine V_aload_n (pc := 74) 0 dX12_speed_74 rfl rfl ?_
          refine V_dup (pc := 75) dX12_speed_75 rfl ?_
          refine V_gI (pc := 76) (v := (I 27 27)) rfl fk_X12_196_12 dX12_speed_76 (wN hw (by decide)) (wS1 hw (by decide) rfl) ?_
          refine V_iconst (pc := 79) (v := 1) dX12_speed_79 rfl ?_
          refine V_iadd (pc := 80) dX12_speed_80 (fun x_80_8 e_80_8 => ?_)
          have t_80_8 : x_80_8.toInt = (I 27 27).toInt + 1 := addT e_80_8 rfl rfl (by omega) (by omega)
          refine V_putI (pc := 81) fw_X12_196_12 rfl rfl dX12_speed_81 (wN hw (by decide)) (wS1 hw (by decide) rfl) ?_
          refine V_aload_n (pc := 84) 0 dX12_speed_84 rfl rfl ?_
          refine V_gI (pc := 85) (v := x_80_8) rfl fk_X12_196_12 dX12_speed_85 (wN hw (by decide)) (wS1 hw (by decide) rfl) ?_
          refine V_iret (pc := 88) rfl rfl dX12_speed_88 (by omega) (by omega) ?_
          subst_vars
          refine ⟨rfl, rfl, rfl, rfl, _, ?_, rfl⟩
          unfold sSpeed
          (repeat' split) <;> first | rfl | (exfalso; omega)
        · have c_48_7 : (I 27 27).toInt = 8 := c_48_7
          refine V_bipush (pc := 51) (v := (-4)) dX12_speed_51 rfl ?_
          refine V_iret (pc := 53) rfl rfl dX12_speed_53 (by omega) (by omega) ?_
          subst_vars
          refine ⟨rfl, rfl, rfl, rfl, _, ?_, rfl⟩
          unfold sSpeed
          (repeat' split) <;> first | rfl | (exfalso; omega)
      · have c_33_6 : ¬ (0 ≤ x_26_4.toInt ∧ x_26_4.toInt ≤ x_32_5.toInt) := c_33_6
        refine V_if_ne_f (pc := 36) (tgt := 42) dX12_speed_36 (by decide) (by decide) ?_
        refine V_bipush (pc := 39) (v := (-2)) dX12_speed_39 rfl ?_
        refine V_iret (pc := 41) rfl rfl dX12_speed_41 (by omega) (by omega) ?_
        subst_vars
        refine ⟨rfl, rfl, rfl, rfl, _, ?_, rfl⟩
        unfold sSpeed
        (repeat' split) <;> first | rfl | (exfalso; omega)
    · have c_19_3 : (I 27 24).toInt = 0 := c_19_3
      refine V_bipush (pc := 22) (v := (-3)) dX12_speed_22 rfl ?_
      refine V_iret (pc := 24) rfl rfl dX12_speed_24 (by omega) (by omega) ?_
      subst_vars
      refine ⟨rfl, rfl, rfl, rfl, _, ?_, rfl⟩
      unfold sSpeed
      (repeat' split) <;> first | rfl | (exfalso; omega)
  · have c_6_2 : ¬ (1 ≤ x_1_1.toInt ∧ x_1_1.toInt ≤ 3000) := c_6_2
    refine V_if_ne_f (pc := 9) (tgt := 15) dX12_speed_9 (by decide) (by decide) ?_
    refine V_bipush (pc := 12) (v := (-2)) dX12_speed_12 rfl ?_
    refine V_iret (pc := 14) rfl rfl dX12_speed_14 (by omega) (by omega) ?_
    subst_vars
    refine ⟨rfl, rfl, rfl, rfl, _, ?_, rfl⟩
    unfold sSpeed
    (repeat' split) <;> first | rfl | (exfalso; omega)
set_option maxRecDepth 100000 in
set_option maxHeartbeats 4000000 in
theorem c_X12_watch (G : vG) {n : Nat} {sh : vS} {I : vI} {L : vL} {R : vR} (c a b x y : Int32) (hw : WF n sh R) (h30 : 0 ≤ (I 27 30).toInt ∧ (I 27 30).toInt ≤ 8) : CT G yX12_watch cX12_watch 6 (some .int) 2 0 0 [.ref (ad G 27), .int c, .int a, .int b, .int x, .int y] n sh I L R (PI n sh L R (qi (sWatch I c a b x y))) := by
  refine CT_of (own := RX12) (ini := false) (lo := [(0, .ref (ad G 27)), (1, .int c), (2, .int a), (3, .int b), (4, .int x), (5, .int y)]) mf_X12_watch (Nat.le_of_ble_eq_true rfl) rfl (fun h => by first | rfl | cases h) rfl ?_
  refine V_aload_n (pc := 0) 0 dX12_watch_0 rfl rfl ?_
  refine V_iload_n (pc := 1) 1 dX12_watch_1 rfl rfl ?_
  refine V_callV (pc := 2) (As := [.int c]) (st := []) (c_X12_noControl G c hw h30.1) mf_X12_noControl ml_X12_228 iv_X12_noControl (wN hw (by decide)) (wS1 hw (by decide) rfl) (by decide) rfl dX12_watch_2 rfl rfl (by omega) (by omega) (by omega) (Nat.le_of_ble_eq_true rfl) (fun r_2_1 n_2_1 sh_2_1 I_2_1 L_2_1 R_2_1 hq_2_1 => ?_)
  obtain ⟨rfl, rfl, rfl, rfl, rfl, hq_2_1⟩ := hq_2_1
  rcases hq_2_1 with ⟨c_2_1, rfl⟩ | ⟨c_2_1, rfl⟩
  · have c_2_1 : ¬ (0 ≤ c.toInt ∧ c.toInt < (I 27 30).toInt) := c_2_1
    refine V_if_eq_f (pc := 5) (tgt := 10) dX12_watch_5 (by decide) (by decide) ?_
    refine V_iconst (pc := 8) (v := (-1)) dX12_watch_8 rfl ?_
    refine V_iret (pc := 9) rfl rfl dX12_watch_9 (by omega) (by omega) ?_
    subst_vars
    refine ⟨rfl, rfl, rfl, rfl, _, ?_, rfl⟩
    unfold sWatch isCtl isTm
    (repeat' split) <;> first | rfl | (exfalso; omega)
  · have c_2_1 : ¬ (¬ (0 ≤ c.toInt ∧ c.toInt < (I 27 30).toInt)) := c_2_1
    refine V_if_eq_t (pc := 5) (tgt := 10) dX12_watch_5 (by decide) (by decide) ?_
    refine V_iload_n (pc := 10) 2 dX12_watch_10 rfl rfl ?_
    refine V_callS (pc := 11) (As := [.int a]) (st := []) (c_X12_isTime G a) mf_X12_isTime ml_X12_231 st_X12_isTime dX12_watch_11 rfl rfl (by omega) (by omega) (by omega) (Nat.le_of_ble_eq_true rfl) (fun r_11_2 n_11_2 sh_11_2 I_11_2 L_11_2 R_11_2 hq_11_2 => ?_)
    obtain ⟨rfl, rfl, rfl, rfl, rfl, hq_11_2⟩ := hq_11_2
    rcases hq_11_2 with ⟨c_11_2, rfl⟩ | ⟨c_11_2, rfl⟩
    · have c_11_2 : 0 ≤ a.toInt ∧ a.toInt ≤ 1000000 := c_11_2
      refine V_if_eq_f (pc := 14) (tgt := 52) dX12_watch_14 (by decide) (by decide) ?_
      refine V_iload_n (pc := 17) 3 dX12_watch_17 rfl rfl ?_
      refine V_callS (pc := 18) (As := [.int b]) (st := []) (c_X12_isTime G b) mf_X12_isTime ml_X12_231 st_X12_isTime dX12_watch_18 rfl rfl (by omega) (by omega) (by omega) (Nat.le_of_ble_eq_true rfl) (fun r_18_3 n_18_3 sh_18_3 I_18_3 L_18_3 R_18_3 hq_18_3 => ?_)
      obtain ⟨rfl, rfl, rfl, rfl, rfl, hq_18_3⟩ := hq_18_3
      rcases hq_18_3 with ⟨c_18_3, rfl⟩ | ⟨c_18_3, rfl⟩
      · have c_18_3 : 0 ≤ b.toInt ∧ b.toInt ≤ 1000000 := c_18_3
        refine V_if_eq_f (pc := 21) (tgt := 52) dX12_watch_21 (by decide) (by decide) ?_
        refine V_iload (pc := 24) 4 dX12_watch_24 rfl ?_
        refine V_callS (pc := 26) (As := [.int x]) (st := []) (c_X12_isTime G x) mf_X12_isTime ml_X12_231 st_X12_isTime dX12_watch_26 rfl rfl (by omega) (by omega) (by omega) (Nat.le_of_ble_eq_true rfl) (fun r_26_4 n_26_4 sh_26_4 I_26_4 L_26_4 R_26_4 hq_26_4 => ?_)
        obtain ⟨rfl, rfl, rfl, rfl, rfl, hq_26_4⟩ := hq_26_4
        rcases hq_26_4 with ⟨c_26_4, rfl⟩ | ⟨c_26_4, rfl⟩
        · have c_26_4 : 0 ≤ x.toInt ∧ x.toInt ≤ 1000000 := c_26_4
          refine V_if_eq_f (pc := 29) (tgt := 52) dX12_watch_29 (by decide) (by decide) ?_
          refine V_iload (pc := 32) 5 dX12_watch_32 rfl ?_
          refine V_callS (pc := 34) (As := [.int y]) (st := []) (c_X12_isTime G y) mf_X12_isTime ml_X12_231 st_X12_isTime dX12_watch_34 rfl rfl (by omega) (by omega) (by omega) (Nat.le_of_ble_eq_true rfl) (fun r_34_5 n_34_5 sh_34_5 I_34_5 L_34_5 R_34_5 hq_34_5 => ?_)
          obtain ⟨rfl, rfl, rfl, rfl, rfl, hq_34_5⟩ := hq_34_5
          rcases hq_34_5 with ⟨c_34_5, rfl⟩ | ⟨c_34_5, rfl⟩
          · have c_34_5 : 0 ≤ y.toInt ∧ y.toInt ≤ 1000000 := c_34_5
            refine V_if_eq_f (pc := 37) (tgt := 52) dX12_watch_37 (by decide) (by decide) ?_
            refine V_iload_n (pc := 40) 2 dX12_watch_40 rfl rfl ?_
            refine V_iload_n (pc := 41) 3 dX12_watch_41 rfl rfl ?_
            refine V_icmp_ge (pc := 42) (tgt := 52) dX12_watch_42 (by decide) (fun c_42_6 => ?_) (fun c_42_6 => ?_)
            · have c_42_6 : b.toInt ≤ a.toInt := c_42_6
              refine V_bipush (pc := 52) (v := (-2)) dX12_watch_52 rfl ?_
              refine V_iret (pc := 54) rfl rfl dX12_watch_54 (by omega) (by omega) ?_
              subst_vars
              refine ⟨rfl, rfl, rfl, rfl, _, ?_, rfl⟩
              unfold sWatch isCtl isTm
              (repeat' split) <;> first | rfl | (exfalso; omega)
            · have c_42_6 : a.toInt < b.toInt := c_42_6
              refine V_iload (pc := 45) 4 dX12_watch_45 rfl ?_
              refine V_iload (pc := 47) 5 dX12_watch_47 rfl ?_
              refine V_icmp_lt (pc := 49) (tgt := 55) dX12_watch_49 (by decide) (fun c_49_7 => ?_) (fun c_49_7 => ?_)
              · have c_49_7 : x.toInt < y.toInt := c_49_7
                refine V_aload_n (pc := 55) 0 dX12_watch_55 rfl rfl ?_
                refine V_getR (pc := 56) (j := 49) fk_X12_74_12 (wR hw (i := 27) (k := 33) (j := 49) rfl) dX12_watch_56 (wN hw (by decide)) (wS1 hw (by decide) rfl) ?_
                refine V_iload_n (pc := 59) 1 dX12_watch_59 rfl rfl ?_
                refine V_iconst (pc := 60) (v := 1) dX12_watch_60 rfl ?_
                refine V_zask (pc := 61) (k := c.toInt.toNat) (by decide) dX12_watch_61 (wN hw (by decide)) (wS hw (by decide) rfl) (by omega) (by omega) ?_
                refine V_aload_n (pc := 62) 0 dX12_watch_62 rfl rfl ?_
                refine V_getR (pc := 63) (j := 50) fk_X12_77_12 (wR hw (i := 27) (k := 34) (j := 50) rfl) dX12_watch_63 (wN hw (by decide)) (wS1 hw (by decide) rfl) ?_
                refine V_iconst (pc := 66) (v := 4) dX12_watch_66 rfl ?_
                refine V_iload_n (pc := 67) 1 dX12_watch_67 rfl rfl ?_
                refine V_imul (pc := 68) dX12_watch_68 (fun x_68_8 e_68_8 => ?_)
                have t_68_8 : x_68_8.toInt = 4 * c.toInt := mulT e_68_8 rfl rfl (by omega) (by omega)
                refine V_iload_n (pc := 69) 2 dX12_watch_69 rfl rfl ?_
                refine V_iask (pc := 70) (k := (4 * c.toInt).toNat) dX12_watch_70 (wN hw (by decide)) (wS hw (by decide) rfl) (by omega) (by omega) ?_
                refine V_aload_n (pc := 71) 0 dX12_watch_71 rfl rfl ?_
                refine V_getR (pc := 72) (j := 50) fk_X12_77_12 (wR hw (i := 27) (k := 34) (j := 50) rfl) dX12_watch_72 (wN hw (by decide)) (wS1 hw (by decide) rfl) ?_
                refine V_iconst (pc := 75) (v := 4) dX12_watch_75 rfl ?_
                refine V_iload_n (pc := 76) 1 dX12_watch_76 rfl rfl ?_
                refine V_imul (pc := 77) dX12_watch_77 (fun x_77_9 e_77_9 => ?_)
                have t_77_9 : x_77_9.toInt = 4 * c.toInt := mulT e_77_9 rfl rfl (by omega) (by omega)
                refine V_iconst (pc := 78) (v := 1) dX12_watch_78 rfl ?_
                refine V_iadd (pc := 79) dX12_watch_79 (fun x_79_10 e_79_10 => ?_)
                have t_79_10 : x_79_10.toInt = x_77_9.toInt + 1 := addT e_79_10 rfl rfl (by omega) (by omega)
                refine V_iload_n (pc := 80) 3 dX12_watch_80 rfl rfl ?_
                refine V_iask (pc := 81) (k := ((4 * c.toInt) + 1).toNat) dX12_watch_81 (wN hw (by decide)) (wS hw (by decide) rfl) (by omega) (by omega) ?_
                refine V_aload_n (pc := 82) 0 dX12_watch_82 rfl rfl ?_
                refine V_getR (pc := 83) (j := 50) fk_X12_77_12 (wR hw (i := 27) (k := 34) (j := 50) rfl) dX12_watch_83 (wN hw (by decide)) (wS1 hw (by decide) rfl) ?_
                refine V_iconst (pc := 86) (v := 4) dX12_watch_86 rfl ?_
                refine V_iload_n (pc := 87) 1 dX12_watch_87 rfl rfl ?_
                refine V_imul (pc := 88) dX12_watch_88 (fun x_88_11 e_88_11 => ?_)
                have t_88_11 : x_88_11.toInt = 4 * c.toInt := mulT e_88_11 rfl rfl (by omega) (by omega)
                refine V_iconst (pc := 89) (v := 2) dX12_watch_89 rfl ?_
                refine V_iadd (pc := 90) dX12_watch_90 (fun x_90_12 e_90_12 => ?_)
                have t_90_12 : x_90_12.toInt = x_88_11.toInt + 2 := addT e_90_12 rfl rfl (by omega) (by omega)
                refine V_iload (pc := 91) 4 dX12_watch_91 rfl ?_
                refine V_iask (pc := 93) (k := ((4 * c.toInt) + 2).toNat) dX12_watch_93 (wN hw (by decide)) (wS hw (by decide) rfl) (by omega) (by omega) ?_
                refine V_aload_n (pc := 94) 0 dX12_watch_94 rfl rfl ?_
                refine V_getR (pc := 95) (j := 50) fk_X12_77_12 (wR hw (i := 27) (k := 34) (j := 50) rfl) dX12_watch_95 (wN hw (by decide)) (wS1 hw (by decide) rfl) ?_
                refine V_iconst (pc := 98) (v := 4) dX12_watch_98 rfl ?_
                refine V_iload_n (pc := 99) 1 dX12_watch_99 rfl rfl ?_
                refine V_imul (pc := 100) dX12_watch_100 (fun x_100_13 e_100_13 => ?_)
                have t_100_13 : x_100_13.toInt = 4 * c.toInt := mulT e_100_13 rfl rfl (by omega) (by omega)
                refine V_iconst (pc := 101) (v := 3) dX12_watch_101 rfl ?_
                refine V_iadd (pc := 102) dX12_watch_102 (fun x_102_14 e_102_14 => ?_)
                have t_102_14 : x_102_14.toInt = x_100_13.toInt + 3 := addT e_102_14 rfl rfl (by omega) (by omega)
                refine V_iload (pc := 103) 5 dX12_watch_103 rfl ?_
                refine V_iask (pc := 105) (k := ((4 * c.toInt) + 3).toNat) dX12_watch_105 (wN hw (by decide)) (wS hw (by decide) rfl) (by omega) (by omega) ?_
                refine V_iconst (pc := 106) (v := 1) dX12_watch_106 rfl ?_
                refine V_iret (pc := 107) rfl rfl dX12_watch_107 (by omega) (by omega) ?_
                subst_vars
                refine ⟨rfl, rfl, rfl, rfl, _, ?_, rfl⟩
                unfold sWatch isCtl isTm
                (repeat' split) <;> first | rfl | (exfalso; omega)
              · have c_49_7 : y.toInt ≤ x.toInt := c_49_7
                refine V_bipush (pc := 52) (v := (-2)) dX12_watch_52 rfl ?_
                refine V_iret (pc := 54) rfl rfl dX12_watch_54 (by omega) (by omega) ?_
                subst_vars
                refine ⟨rfl, rfl, rfl, rfl, _, ?_, rfl⟩
                unfold sWatch isCtl isTm
                (repeat' split) <;> first | rfl | (exfalso; omega)
          · have c_34_5 : ¬ (0 ≤ y.toInt ∧ y.toInt ≤ 1000000) := c_34_5
            refine V_if_eq_t (pc := 37) (tgt := 52) dX12_watch_37 (by decide) (by decide) ?_
            refine V_bipush (pc := 52) (v := (-2)) dX12_watch_52 rfl ?_
            refine V_iret (pc := 54) rfl rfl dX12_watch_54 (by omega) (by omega) ?_
            subst_vars
            refine ⟨rfl, rfl, rfl, rfl, _, ?_, rfl⟩
            unfold sWatch isCtl isTm
            (repeat' split) <;> first | rfl | (exfalso; omega)
        · have c_26_4 : ¬ (0 ≤ x.toInt ∧ x.toInt ≤ 1000000) := c_26_4
          refine V_if_eq_t (pc := 29) (tgt := 52) dX12_watch_29 (by decide) (by decide) ?_
          refine V_bipush (pc := 52) (v := (-2)) dX12_watch_52 rfl ?_
          refine V_iret (pc := 54) rfl rfl dX12_watch_54 (by omega) (by omega) ?_
          subst_vars
          refine ⟨rfl, rfl, rfl, rfl, _, ?_, rfl⟩
          unfold sWatch isCtl isTm
          (repeat' split) <;> first | rfl | (exfalso; omega)
      · have c_18_3 : ¬ (0 ≤ b.toInt ∧ b.toInt ≤ 1000000) := c_18_3
        refine V_if_eq_t (pc := 21) (tgt := 52) dX12_watch_21 (by decide) (by decide) ?_
        refine V_bipush (pc := 52) (v := (-2)) dX12_watch_52 rfl ?_
        refine V_iret (pc := 54) rfl rfl dX12_watch_54 (by omega) (by omega) ?_
        subst_vars
        refine ⟨rfl, rfl, rfl, rfl, _, ?_, rfl⟩
        unfold sWatch isCtl isTm
        (repeat' split) <;> first | rfl | (exfalso; omega)
    · have c_11_2 : ¬ (0 ≤ a.toInt ∧ a.toInt ≤ 1000000) := c_11_2
      refine V_if_eq_t (pc := 14) (tgt := 52) dX12_watch_14 (by decide) (by decide) ?_
      refine V_bipush (pc := 52) (v := (-2)) dX12_watch_52 rfl ?_
      refine V_iret (pc := 54) rfl rfl dX12_watch_54 (by omega) (by omega) ?_
      subst_vars
      refine ⟨rfl, rfl, rfl, rfl, _, ?_, rfl⟩
      unfold sWatch isCtl isTm
      (repeat' split) <;> first | rfl | (exfalso; omega)
set_option maxRecDepth 100000 in
set_option maxHeartbeats 4000000 in
theorem c_X12_strike (G : vG) {n : Nat} {sh : vS} {I : vI} {L : vL} {R : vR} (c b : Int32) (hw : WF n sh R) (h30 : 0 ≤ (I 27 30).toInt ∧ (I 27 30).toInt ≤ 8) (hb : b.toInt = 0 ∨ b.toInt = 1) : CT G yX12_strike cX12_strike 4 (some .int) 2 0 0 [.ref (ad G 27), .int c, .int b] n sh I L R (PI n sh L R (qi (sStrike I c b))) := by
  refine CT_of (own := RX12) (ini := false) (lo := [(0, .ref (ad G 27)), (1, .int c), (2, .int b)]) mf_X12_strike (Nat.le_of_ble_eq_true rfl) rfl (fun h => by first | rfl | cases h) rfl ?_
  refine V_aload_n (pc := 0) 0 dX12_strike_0 rfl rfl ?_
  refine V_iload_n (pc := 1) 1 dX12_strike_1 rfl rfl ?_
  refine V_callV (pc := 2) (As := [.int c]) (st := []) (c_X12_noControl G c hw h30.1) mf_X12_noControl ml_X12_228 iv_X12_noControl (wN hw (by decide)) (wS1 hw (by decide) rfl) (by decide) rfl dX12_strike_2 rfl rfl (by omega) (by omega) (by omega) (Nat.le_of_ble_eq_true rfl) (fun r_2_1 n_2_1 sh_2_1 I_2_1 L_2_1 R_2_1 hq_2_1 => ?_)
  obtain ⟨rfl, rfl, rfl, rfl, rfl, hq_2_1⟩ := hq_2_1
  rcases hq_2_1 with ⟨c_2_1, rfl⟩ | ⟨c_2_1, rfl⟩
  · have c_2_1 : ¬ (0 ≤ c.toInt ∧ c.toInt < (I 27 30).toInt) := c_2_1
    refine V_if_eq_f (pc := 5) (tgt := 10) dX12_strike_5 (by decide) (by decide) ?_
    refine V_iconst (pc := 8) (v := (-1)) dX12_strike_8 rfl ?_
    refine V_iret (pc := 9) rfl rfl dX12_strike_9 (by omega) (by omega) ?_
    subst_vars
    refine ⟨rfl, rfl, rfl, rfl, _, ?_, rfl⟩
    unfold sStrike isCtl
    (repeat' split) <;> first | rfl | (exfalso; omega)
  · have c_2_1 : ¬ (¬ (0 ≤ c.toInt ∧ c.toInt < (I 27 30).toInt)) := c_2_1
    refine V_if_eq_t (pc := 5) (tgt := 10) dX12_strike_5 (by decide) (by decide) ?_
    refine V_aload_n (pc := 10) 0 dX12_strike_10 rfl rfl ?_
    refine V_getR (pc := 11) (j := 48) fk_X12_71_12 (wR hw (i := 27) (k := 32) (j := 48) rfl) dX12_strike_11 (wN hw (by decide)) (wS1 hw (by decide) rfl) ?_
    refine V_iload_n (pc := 14) 1 dX12_strike_14 rfl rfl ?_
    refine V_za (pc := 15) (k := c.toInt.toNat) (v := (I 48 c.toInt.toNat)) rfl dX12_strike_15 (wN hw (by decide)) (wS hw (by decide) rfl) (by omega) (by omega) ?_
    refine V_iload_n (pc := 16) 2 dX12_strike_16 rfl rfl ?_
    refine V_icmp_eq (pc := 17) (tgt := 24) dX12_strike_17 (by decide) (fun c_17_2 => ?_) (fun c_17_2 => ?_)
    · have c_17_2 : (I 48 c.toInt.toNat).toInt = b.toInt := c_17_2
      refine V_iconst (pc := 24) (v := 0) dX12_strike_24 rfl ?_
      refine V_istore_n (pc := 25) (lo' := [(0, .ref (ad G 27)), (1, .int c), (2, .int b), (3, .int 0)]) dX12_strike_25 rfl (by decide) rfl ?_
      refine V_aload_n (pc := 26) 0 dX12_strike_26 rfl rfl ?_
      refine V_getR (pc := 27) (j := 48) fk_X12_71_12 (wR hw (i := 27) (k := 32) (j := 48) rfl) dX12_strike_27 (wN hw (by decide)) (wS1 hw (by decide) rfl) ?_
      refine V_iload_n (pc := 30) 1 dX12_strike_30 rfl rfl ?_
      refine V_iload_n (pc := 31) 2 dX12_strike_31 rfl rfl ?_
      refine V_zask (pc := 32) (k := c.toInt.toNat) (b01 (by omega)) dX12_strike_32 (wN hw (by decide)) (wS hw (by decide) rfl) (by omega) (by omega) ?_
      refine V_iload_n (pc := 33) 3 dX12_strike_33 rfl rfl ?_
      refine V_if_eq_t (pc := 34) (tgt := 41) dX12_strike_34 (by decide) (by decide) ?_
      refine V_iconst (pc := 41) (v := 0) dX12_strike_41 rfl ?_
      refine V_iret (pc := 42) rfl rfl dX12_strike_42 (by omega) (by omega) ?_
      subst_vars
      refine ⟨rfl, rfl, rfl, rfl, _, ?_, rfl⟩
      unfold sStrike isCtl
      (repeat' split) <;> first | rfl | (exfalso; omega)
    · have c_17_2 : (I 48 c.toInt.toNat).toInt ≠ b.toInt := c_17_2
      refine V_iconst (pc := 20) (v := 1) dX12_strike_20 rfl ?_
      refine V_goto (pc := 21) (tgt := 25) dX12_strike_21 (by decide) ?_
      refine V_istore_n (pc := 25) (lo' := [(0, .ref (ad G 27)), (1, .int c), (2, .int b), (3, .int 1)]) dX12_strike_25 rfl (by decide) rfl ?_
      refine V_aload_n (pc := 26) 0 dX12_strike_26 rfl rfl ?_
      refine V_getR (pc := 27) (j := 48) fk_X12_71_12 (wR hw (i := 27) (k := 32) (j := 48) rfl) dX12_strike_27 (wN hw (by decide)) (wS1 hw (by decide) rfl) ?_
      refine V_iload_n (pc := 30) 1 dX12_strike_30 rfl rfl ?_
      refine V_iload_n (pc := 31) 2 dX12_strike_31 rfl rfl ?_
      refine V_zask (pc := 32) (k := c.toInt.toNat) (b01 (by omega)) dX12_strike_32 (wN hw (by decide)) (wS hw (by decide) rfl) (by omega) (by omega) ?_
      refine V_iload_n (pc := 33) 3 dX12_strike_33 rfl rfl ?_
      refine V_if_eq_f (pc := 34) (tgt := 41) dX12_strike_34 (by decide) (by decide) ?_
      refine V_iconst (pc := 37) (v := 1) dX12_strike_37 rfl ?_
      refine V_goto (pc := 38) (tgt := 42) dX12_strike_38 (by decide) ?_
      refine V_iret (pc := 42) rfl rfl dX12_strike_42 (by omega) (by omega) ?_
      subst_vars
      refine ⟨rfl, rfl, rfl, rfl, _, ?_, rfl⟩
      unfold sStrike isCtl
      (repeat' split) <;> first | rfl | (exfalso; omega)
set_option maxRecDepth 100000 in
set_option maxHeartbeats 4000000 in
theorem c_X12_car (G : vG) {n : Nat} {sh : vS} {I : vI} {L : vL} {R : vR} (s k : Int32) (hw : WF n sh R) (h35 : 0 ≤ (I 27 35).toInt ∧ (I 27 35).toInt ≤ 8) : CT G yX12_car cX12_car 3 (some .int) 1 0 0 [.ref (ad G 27), .int s, .int k] n sh I L R (PI n sh L R (qi (sCar I s k))) := by
  refine CT_of (own := RX12) (ini := false) (lo := [(0, .ref (ad G 27)), (1, .int s), (2, .int k)]) mf_X12_car (Nat.le_of_ble_eq_true rfl) rfl (fun h => by first | rfl | cases h) rfl ?_
  refine V_iload_n (pc := 0) 1 dX12_car_0 rfl rfl ?_
  refine V_i2l (pc := 1) dX12_car_1 (fun x_1_1 e_1_1 => ?_)
  have t_1_1 : x_1_1.toInt = s.toInt := i2lT e_1_1 rfl
  have b_1_1 := fb_rng s
  refine V_lconst (pc := 2) (v := 0) dX12_car_2 rfl ?_
  refine V_ldc2 (pc := 3) dX12_car_3 kk_X12_241 ?_
  refine V_callS (pc := 6) (As := [.long x_1_1, .long 0, .long 500000]) (st := []) (c_X12_in G x_1_1 0 500000) mf_X12_in ml_X12_111 st_X12_in dX12_car_6 rfl rfl (by omega) (by omega) (by omega) (Nat.le_of_ble_eq_true rfl) (fun r_6_2 n_6_2 sh_6_2 I_6_2 L_6_2 R_6_2 hq_6_2 => ?_)
  obtain ⟨rfl, rfl, rfl, rfl, rfl, hq_6_2⟩ := hq_6_2
  rcases hq_6_2 with ⟨c_6_2, rfl⟩ | ⟨c_6_2, rfl⟩
  · have c_6_2 : 0 ≤ x_1_1.toInt ∧ x_1_1.toInt ≤ 500000 := c_6_2
    refine V_if_eq_f (pc := 9) (tgt := 24) dX12_car_9 (by decide) (by decide) ?_
    refine V_iload_n (pc := 12) 2 dX12_car_12 rfl rfl ?_
    refine V_i2l (pc := 13) dX12_car_13 (fun x_13_3 e_13_3 => ?_)
    have t_13_3 : x_13_3.toInt = k.toInt := i2lT e_13_3 rfl
    have b_13_3 := fb_rng k
    refine V_lconst (pc := 14) (v := 0) dX12_car_14 rfl ?_
    refine V_ldc2 (pc := 15) dX12_car_15 kk_X12_123 ?_
    refine V_callS (pc := 18) (As := [.long x_13_3, .long 0, .long 2]) (st := []) (c_X12_in G x_13_3 0 2) mf_X12_in ml_X12_111 st_X12_in dX12_car_18 rfl rfl (by omega) (by omega) (by omega) (Nat.le_of_ble_eq_true rfl) (fun r_18_4 n_18_4 sh_18_4 I_18_4 L_18_4 R_18_4 hq_18_4 => ?_)
    obtain ⟨rfl, rfl, rfl, rfl, rfl, hq_18_4⟩ := hq_18_4
    rcases hq_18_4 with ⟨c_18_4, rfl⟩ | ⟨c_18_4, rfl⟩
    · have c_18_4 : 0 ≤ x_13_3.toInt ∧ x_13_3.toInt ≤ 2 := c_18_4
      refine V_if_ne_t (pc := 21) (tgt := 27) dX12_car_21 (by decide) (by decide) ?_
      refine V_aload_n (pc := 27) 0 dX12_car_27 rfl rfl ?_
      refine V_gI (pc := 28) (v := (I 27 35)) rfl fk_X12_238_12 dX12_car_28 (wN hw (by decide)) (wS1 hw (by decide) rfl) ?_
      refine V_bipush (pc := 31) (v := 8) dX12_car_31 rfl ?_
      refine V_icmp_ne (pc := 33) (tgt := 39) dX12_car_33 (by decide) (fun c_33_5 => ?_) (fun c_33_5 => ?_)
      · have c_33_5 : (I 27 35).toInt ≠ 8 := c_33_5
        refine V_aload_n (pc := 39) 0 dX12_car_39 rfl rfl ?_
        refine V_getR (pc := 40) (j := 51) fk_X12_80_12 (wR hw (i := 27) (k := 36) (j := 51) rfl) dX12_car_40 (wN hw (by decide)) (wS1 hw (by decide) rfl) ?_
        refine V_aload_n (pc := 43) 0 dX12_car_43 rfl rfl ?_
        refine V_gI (pc := 44) (v := (I 27 35)) rfl fk_X12_238_12 dX12_car_44 (wN hw (by decide)) (wS1 hw (by decide) rfl) ?_
        refine V_iload_n (pc := 47) 1 dX12_car_47 rfl rfl ?_
        refine V_iask (pc := 48) (k := (I 27 35).toInt.toNat) dX12_car_48 (wN hw (by decide)) (wS hw (by decide) rfl) (by omega) (by omega) ?_
        refine V_aload_n (pc := 49) 0 dX12_car_49 rfl rfl ?_
        refine V_getR (pc := 50) (j := 52) fk_X12_83_12 (wR hw (i := 27) (k := 37) (j := 52) rfl) dX12_car_50 (wN hw (by decide)) (wS1 hw (by decide) rfl) ?_
        refine V_aload_n (pc := 53) 0 dX12_car_53 rfl rfl ?_
        refine V_gI (pc := 54) (v := (I 27 35)) rfl fk_X12_238_12 dX12_car_54 (wN hw (by decide)) (wS1 hw (by decide) rfl) ?_
        refine V_iload_n (pc := 57) 2 dX12_car_57 rfl rfl ?_
        refine V_iask (pc := 58) (k := (I 27 35).toInt.toNat) dX12_car_58 (wN hw (by decide)) (wS hw (by decide) rfl) (by omega) (by omega) ?_
        refine V_aload_n (pc := 59) 0 dX12_car_59 rfl rfl ?_
        refine V_dup (pc := 60) dX12_car_60 rfl ?_
        refine V_gI (pc := 61) (v := (I 27 35)) rfl fk_X12_238_12 dX12_car_61 (wN hw (by decide)) (wS1 hw (by decide) rfl) ?_
        refine V_iconst (pc := 64) (v := 1) dX12_car_64 rfl ?_
        refine V_iadd (pc := 65) dX12_car_65 (fun x_65_6 e_65_6 => ?_)
        have t_65_6 : x_65_6.toInt = (I 27 35).toInt + 1 := addT e_65_6 rfl rfl (by omega) (by omega)
        refine V_putI (pc := 66) fw_X12_238_12 rfl rfl dX12_car_66 (wN hw (by decide)) (wS1 hw (by decide) rfl) ?_
        refine V_aload_n (pc := 69) 0 dX12_car_69 rfl rfl ?_
        refine V_gI (pc := 70) (v := x_65_6) rfl fk_X12_238_12 dX12_car_70 (wN hw (by decide)) (wS1 hw (by decide) rfl) ?_
        refine V_iconst (pc := 73) (v := 1) dX12_car_73 rfl ?_
        refine V_isub (pc := 74) dX12_car_74 (fun x_74_7 e_74_7 => ?_)
        have t_74_7 : x_74_7.toInt = x_65_6.toInt - 1 := subT e_74_7 rfl rfl (by omega) (by omega)
        refine V_iret (pc := 75) rfl rfl dX12_car_75 (by omega) (by omega) ?_
        subst_vars
        refine ⟨rfl, rfl, rfl, rfl, _, ?_, rfl⟩
        unfold sCar
        (repeat' split) <;> first | rfl | (exfalso; omega)
      · have c_33_5 : (I 27 35).toInt = 8 := c_33_5
        refine V_bipush (pc := 36) (v := (-4)) dX12_car_36 rfl ?_
        refine V_iret (pc := 38) rfl rfl dX12_car_38 (by omega) (by omega) ?_
        subst_vars
        refine ⟨rfl, rfl, rfl, rfl, _, ?_, rfl⟩
        unfold sCar
        (repeat' split) <;> first | rfl | (exfalso; omega)
    · have c_18_4 : ¬ (0 ≤ x_13_3.toInt ∧ x_13_3.toInt ≤ 2) := c_18_4
      refine V_if_ne_f (pc := 21) (tgt := 27) dX12_car_21 (by decide) (by decide) ?_
      refine V_bipush (pc := 24) (v := (-2)) dX12_car_24 rfl ?_
      refine V_iret (pc := 26) rfl rfl dX12_car_26 (by omega) (by omega) ?_
      subst_vars
      refine ⟨rfl, rfl, rfl, rfl, _, ?_, rfl⟩
      unfold sCar
      (repeat' split) <;> first | rfl | (exfalso; omega)
  · have c_6_2 : ¬ (0 ≤ x_1_1.toInt ∧ x_1_1.toInt ≤ 500000) := c_6_2
    refine V_if_eq_t (pc := 9) (tgt := 24) dX12_car_9 (by decide) (by decide) ?_
    refine V_bipush (pc := 24) (v := (-2)) dX12_car_24 rfl ?_
    refine V_iret (pc := 26) rfl rfl dX12_car_26 (by omega) (by omega) ?_
    subst_vars
    refine ⟨rfl, rfl, rfl, rfl, _, ?_, rfl⟩
    unfold sCar
    (repeat' split) <;> first | rfl | (exfalso; omega)
set_option maxRecDepth 100000 in
set_option maxHeartbeats 4000000 in
theorem c_X12_clock (G : vG) {n : Nat} {sh : vS} {I : vI} {L : vL} {R : vR} (a c t : Int32) (hw : WF n sh R) (h30 : 0 ≤ (I 27 30).toInt ∧ (I 27 30).toInt ≤ 8) (h35 : 0 ≤ (I 27 35).toInt ∧ (I 27 35).toInt ≤ 8) : CT G yX12_clock cX12_clock 4 (some .int) 2 0 0 [.ref (ad G 27), .int a, .int c, .int t] n sh I L R (PI n sh L R (qi (sClock I a c t))) := by
  refine CT_of (own := RX12) (ini := false) (lo := [(0, .ref (ad G 27)), (1, .int a), (2, .int c), (3, .int t)]) mf_X12_clock (Nat.le_of_ble_eq_true rfl) rfl (fun h => by first | rfl | cases h) rfl ?_
  refine V_aload_n (pc := 0) 0 dX12_clock_0 rfl rfl ?_
  refine V_iload_n (pc := 1) 1 dX12_clock_1 rfl rfl ?_
  refine V_callV (pc := 2) (As := [.int a]) (st := []) (c_X12_noCar G a hw h35.1) mf_X12_noCar ml_X12_243 iv_X12_noCar (wN hw (by decide)) (wS1 hw (by decide) rfl) (by decide) rfl dX12_clock_2 rfl rfl (by omega) (by omega) (by omega) (Nat.le_of_ble_eq_true rfl) (fun r_2_1 n_2_1 sh_2_1 I_2_1 L_2_1 R_2_1 hq_2_1 => ?_)
  obtain ⟨rfl, rfl, rfl, rfl, rfl, hq_2_1⟩ := hq_2_1
  rcases hq_2_1 with ⟨c_2_1, rfl⟩ | ⟨c_2_1, rfl⟩
  · have c_2_1 : ¬ (0 ≤ a.toInt ∧ a.toInt < (I 27 35).toInt) := c_2_1
    refine V_if_ne_t (pc := 5) (tgt := 16) dX12_clock_5 (by decide) (by decide) ?_
    refine V_iconst (pc := 16) (v := (-1)) dX12_clock_16 rfl ?_
    refine V_iret (pc := 17) rfl rfl dX12_clock_17 (by omega) (by omega) ?_
    subst_vars
    refine ⟨rfl, rfl, rfl, rfl, _, ?_, rfl⟩
    unfold sClock isCar isCtl isTm
    (repeat' split) <;> first | rfl | (exfalso; omega)
  · have c_2_1 : ¬ (¬ (0 ≤ a.toInt ∧ a.toInt < (I 27 35).toInt)) := c_2_1
    refine V_if_ne_f (pc := 5) (tgt := 16) dX12_clock_5 (by decide) (by decide) ?_
    refine V_aload_n (pc := 8) 0 dX12_clock_8 rfl rfl ?_
    refine V_iload_n (pc := 9) 2 dX12_clock_9 rfl rfl ?_
    refine V_callV (pc := 10) (As := [.int c]) (st := []) (c_X12_noControl G c hw h30.1) mf_X12_noControl ml_X12_228 iv_X12_noControl (wN hw (by decide)) (wS1 hw (by decide) rfl) (by decide) rfl dX12_clock_10 rfl rfl (by omega) (by omega) (by omega) (Nat.le_of_ble_eq_true rfl) (fun r_10_2 n_10_2 sh_10_2 I_10_2 L_10_2 R_10_2 hq_10_2 => ?_)
    obtain ⟨rfl, rfl, rfl, rfl, rfl, hq_10_2⟩ := hq_10_2
    rcases hq_10_2 with ⟨c_10_2, rfl⟩ | ⟨c_10_2, rfl⟩
    · have c_10_2 : ¬ (0 ≤ c.toInt ∧ c.toInt < (I 27 30).toInt) := c_10_2
      refine V_if_eq_f (pc := 13) (tgt := 18) dX12_clock_13 (by decide) (by decide) ?_
      refine V_iconst (pc := 16) (v := (-1)) dX12_clock_16 rfl ?_
      refine V_iret (pc := 17) rfl rfl dX12_clock_17 (by omega) (by omega) ?_
      subst_vars
      refine ⟨rfl, rfl, rfl, rfl, _, ?_, rfl⟩
      unfold sClock isCar isCtl isTm
      (repeat' split) <;> first | rfl | (exfalso; omega)
    · have c_10_2 : ¬ (¬ (0 ≤ c.toInt ∧ c.toInt < (I 27 30).toInt)) := c_10_2
      refine V_if_eq_t (pc := 13) (tgt := 18) dX12_clock_13 (by decide) (by decide) ?_
      refine V_iload_n (pc := 18) 3 dX12_clock_18 rfl rfl ?_
      refine V_callS (pc := 19) (As := [.int t]) (st := []) (c_X12_isTime G t) mf_X12_isTime ml_X12_231 st_X12_isTime dX12_clock_19 rfl rfl (by omega) (by omega) (by omega) (Nat.le_of_ble_eq_true rfl) (fun r_19_3 n_19_3 sh_19_3 I_19_3 L_19_3 R_19_3 hq_19_3 => ?_)
      obtain ⟨rfl, rfl, rfl, rfl, rfl, hq_19_3⟩ := hq_19_3
      rcases hq_19_3 with ⟨c_19_3, rfl⟩ | ⟨c_19_3, rfl⟩
      · have c_19_3 : 0 ≤ t.toInt ∧ t.toInt ≤ 1000000 := c_19_3
        refine V_if_ne_t (pc := 22) (tgt := 28) dX12_clock_22 (by decide) (by decide) ?_
        refine V_aload_n (pc := 28) 0 dX12_clock_28 rfl rfl ?_
        refine V_getR (pc := 29) (j := 53) fk_X12_86_12 (wR hw (i := 27) (k := 39) (j := 53) rfl) dX12_clock_29 (wN hw (by decide)) (wS1 hw (by decide) rfl) ?_
        refine V_bipush (pc := 32) (v := 8) dX12_clock_32 rfl ?_
        refine V_iload_n (pc := 34) 1 dX12_clock_34 rfl rfl ?_
        refine V_imul (pc := 35) dX12_clock_35 (fun x_35_4 e_35_4 => ?_)
        have t_35_4 : x_35_4.toInt = 8 * a.toInt := mulT e_35_4 rfl rfl (by omega) (by omega)
        refine V_iload_n (pc := 36) 2 dX12_clock_36 rfl rfl ?_
        refine V_iadd (pc := 37) dX12_clock_37 (fun x_37_5 e_37_5 => ?_)
        have t_37_5 : x_37_5.toInt = x_35_4.toInt + c.toInt := addT e_37_5 rfl rfl (by omega) (by omega)
        refine V_ia (pc := 38) (k := ((8 * a.toInt) + c.toInt).toNat) (v := (I 53 ((8 * a.toInt) + c.toInt).toNat)) rfl dX12_clock_38 (wN hw (by decide)) (wS hw (by decide) rfl) (by omega) (by omega) ?_
        refine V_if_le (pc := 39) (tgt := 45) dX12_clock_39 (by decide) (fun c_39_6 => ?_) (fun c_39_6 => ?_)
        · have c_39_6 : (I 53 ((8 * a.toInt) + c.toInt).toNat).toInt ≤ 0 := c_39_6
          refine V_aload_n (pc := 45) 0 dX12_clock_45 rfl rfl ?_
          refine V_dup (pc := 46) dX12_clock_46 rfl ?_
          refine V_gI (pc := 47) (v := (I 27 38)) rfl fk_X12_202_12 dX12_clock_47 (wN hw (by decide)) (wS1 hw (by decide) rfl) ?_
          refine V_iconst (pc := 50) (v := 1) dX12_clock_50 rfl ?_
          refine V_iadd (pc := 51) dX12_clock_51 (fun x_51_7 e_51_7 => ?_)
          refine V_putI (pc := 52) fw_X12_202_12 rfl rfl dX12_clock_52 (wN hw (by decide)) (wS1 hw (by decide) rfl) ?_
          refine V_aload_n (pc := 55) 0 dX12_clock_55 rfl rfl ?_
          refine V_getR (pc := 56) (j := 53) fk_X12_86_12 (wR hw (i := 27) (k := 39) (j := 53) rfl) dX12_clock_56 (wN hw (by decide)) (wS1 hw (by decide) rfl) ?_
          refine V_bipush (pc := 59) (v := 8) dX12_clock_59 rfl ?_
          refine V_iload_n (pc := 61) 1 dX12_clock_61 rfl rfl ?_
          refine V_imul (pc := 62) dX12_clock_62 (fun x_62_8 e_62_8 => ?_)
          have t_62_8 : x_62_8.toInt = 8 * a.toInt := mulT e_62_8 rfl rfl (by omega) (by omega)
          refine V_iload_n (pc := 63) 2 dX12_clock_63 rfl rfl ?_
          refine V_iadd (pc := 64) dX12_clock_64 (fun x_64_9 e_64_9 => ?_)
          have t_64_9 : x_64_9.toInt = x_62_8.toInt + c.toInt := addT e_64_9 rfl rfl (by omega) (by omega)
          refine V_aload_n (pc := 65) 0 dX12_clock_65 rfl rfl ?_
          refine V_gI (pc := 66) (v := x_51_7) rfl fk_X12_202_12 dX12_clock_66 (wN hw (by decide)) (wS1 hw (by decide) rfl) ?_
          refine V_iask (pc := 69) (k := ((8 * a.toInt) + c.toInt).toNat) dX12_clock_69 (wN hw (by decide)) (wS hw (by decide) rfl) (by omega) (by omega) ?_
          refine V_aload_n (pc := 70) 0 dX12_clock_70 rfl rfl ?_
          refine V_getR (pc := 71) (j := 54) fk_X12_89_12 (wR hw (i := 27) (k := 40) (j := 54) rfl) dX12_clock_71 (wN hw (by decide)) (wS1 hw (by decide) rfl) ?_
          refine V_bipush (pc := 74) (v := 8) dX12_clock_74 rfl ?_
          refine V_iload_n (pc := 76) 1 dX12_clock_76 rfl rfl ?_
          refine V_imul (pc := 77) dX12_clock_77 (fun x_77_10 e_77_10 => ?_)
          have t_77_10 : x_77_10.toInt = 8 * a.toInt := mulT e_77_10 rfl rfl (by omega) (by omega)
          refine V_iload_n (pc := 78) 2 dX12_clock_78 rfl rfl ?_
          refine V_iadd (pc := 79) dX12_clock_79 (fun x_79_11 e_79_11 => ?_)
          have t_79_11 : x_79_11.toInt = x_77_10.toInt + c.toInt := addT e_79_11 rfl rfl (by omega) (by omega)
          refine V_iload_n (pc := 80) 3 dX12_clock_80 rfl rfl ?_
          refine V_iask (pc := 81) (k := ((8 * a.toInt) + c.toInt).toNat) dX12_clock_81 (wN hw (by decide)) (wS hw (by decide) rfl) (by omega) (by omega) ?_
          refine V_iconst (pc := 82) (v := 1) dX12_clock_82 rfl ?_
          refine V_iret (pc := 83) rfl rfl dX12_clock_83 (by omega) (by omega) ?_
          subst_vars
          refine ⟨rfl, rfl, rfl, rfl, _, ?_, rfl⟩
          unfold sClock isCar isCtl isTm
          (repeat' split) <;> first | rfl | (exfalso; omega)
        · have c_39_6 : 0 < (I 53 ((8 * a.toInt) + c.toInt).toNat).toInt := c_39_6
          refine V_bipush (pc := 42) (v := (-3)) dX12_clock_42 rfl ?_
          refine V_iret (pc := 44) rfl rfl dX12_clock_44 (by omega) (by omega) ?_
          subst_vars
          refine ⟨rfl, rfl, rfl, rfl, _, ?_, rfl⟩
          unfold sClock isCar isCtl isTm
          (repeat' split) <;> first | rfl | (exfalso; omega)
      · have c_19_3 : ¬ (0 ≤ t.toInt ∧ t.toInt ≤ 1000000) := c_19_3
        refine V_if_ne_f (pc := 22) (tgt := 28) dX12_clock_22 (by decide) (by decide) ?_
        refine V_bipush (pc := 25) (v := (-2)) dX12_clock_25 rfl ?_
        refine V_iret (pc := 27) rfl rfl dX12_clock_27 (by omega) (by omega) ?_
        subst_vars
        refine ⟨rfl, rfl, rfl, rfl, _, ?_, rfl⟩
        unfold sClock isCar isCtl isTm
        (repeat' split) <;> first | rfl | (exfalso; omega)
set_option maxRecDepth 100000 in
set_option maxHeartbeats 4000000 in
theorem c_X12_allow (G : vG) {n : Nat} {sh : vS} {I : vI} {L : vL} {R : vR} (b c a : Int32) (hw : WF n sh R) (h30 : 0 ≤ (I 27 30).toInt ∧ (I 27 30).toInt ≤ 8) (h35 : 0 ≤ (I 27 35).toInt ∧ (I 27 35).toInt ≤ 8) : CT G yX12_allow cX12_allow 5 (some .int) 2 0 0 [.ref (ad G 27), .int b, .int c, .int a] n sh I L R (PI n sh L R (qi (sAllow I b c a))) := by
  refine CT_of (own := RX12) (ini := false) (lo := [(0, .ref (ad G 27)), (1, .int b), (2, .int c), (3, .int a)]) mf_X12_allow (Nat.le_of_ble_eq_true rfl) rfl (fun h => by first | rfl | cases h) rfl ?_
  refine V_aload_n (pc := 0) 0 dX12_allow_0 rfl rfl ?_
  refine V_iload_n (pc := 1) 1 dX12_allow_1 rfl rfl ?_
  refine V_callV (pc := 2) (As := [.int b]) (st := []) (c_X12_noCar G b hw h35.1) mf_X12_noCar ml_X12_243 iv_X12_noCar (wN hw (by decide)) (wS1 hw (by decide) rfl) (by decide) rfl dX12_allow_2 rfl rfl (by omega) (by omega) (by omega) (Nat.le_of_ble_eq_true rfl) (fun r_2_1 n_2_1 sh_2_1 I_2_1 L_2_1 R_2_1 hq_2_1 => ?_)
  obtain ⟨rfl, rfl, rfl, rfl, rfl, hq_2_1⟩ := hq_2_1
  rcases hq_2_1 with ⟨c_2_1, rfl⟩ | ⟨c_2_1, rfl⟩
  · have c_2_1 : ¬ (0 ≤ b.toInt ∧ b.toInt < (I 27 35).toInt) := c_2_1
    refine V_if_ne_t (pc := 5) (tgt := 16) dX12_allow_5 (by decide) (by decide) ?_
    refine V_iconst (pc := 16) (v := (-1)) dX12_allow_16 rfl ?_
    refine V_iret (pc := 17) rfl rfl dX12_allow_17 (by omega) (by omega) ?_
    subst_vars
    refine ⟨rfl, rfl, rfl, rfl, _, ?_, rfl⟩
    unfold sAllow isCar isCtl
    (repeat' split) <;> first | rfl | (exfalso; omega)
  · have c_2_1 : ¬ (¬ (0 ≤ b.toInt ∧ b.toInt < (I 27 35).toInt)) := c_2_1
    refine V_if_ne_f (pc := 5) (tgt := 16) dX12_allow_5 (by decide) (by decide) ?_
    refine V_aload_n (pc := 8) 0 dX12_allow_8 rfl rfl ?_
    refine V_iload_n (pc := 9) 2 dX12_allow_9 rfl rfl ?_
    refine V_callV (pc := 10) (As := [.int c]) (st := []) (c_X12_noControl G c hw h30.1) mf_X12_noControl ml_X12_228 iv_X12_noControl (wN hw (by decide)) (wS1 hw (by decide) rfl) (by decide) rfl dX12_allow_10 rfl rfl (by omega) (by omega) (by omega) (Nat.le_of_ble_eq_true rfl) (fun r_10_2 n_10_2 sh_10_2 I_10_2 L_10_2 R_10_2 hq_10_2 => ?_)
    obtain ⟨rfl, rfl, rfl, rfl, rfl, hq_10_2⟩ := hq_10_2
    rcases hq_10_2 with ⟨c_10_2, rfl⟩ | ⟨c_10_2, rfl⟩
    · have c_10_2 : ¬ (0 ≤ c.toInt ∧ c.toInt < (I 27 30).toInt) := c_10_2
      refine V_if_eq_f (pc := 13) (tgt := 18) dX12_allow_13 (by decide) (by decide) ?_
      refine V_iconst (pc := 16) (v := (-1)) dX12_allow_16 rfl ?_
      refine V_iret (pc := 17) rfl rfl dX12_allow_17 (by omega) (by omega) ?_
      subst_vars
      refine ⟨rfl, rfl, rfl, rfl, _, ?_, rfl⟩
      unfold sAllow isCar isCtl
      (repeat' split) <;> first | rfl | (exfalso; omega)
    · have c_10_2 : ¬ (¬ (0 ≤ c.toInt ∧ c.toInt < (I 27 30).toInt)) := c_10_2
      refine V_if_eq_t (pc := 13) (tgt := 18) dX12_allow_13 (by decide) (by decide) ?_
      refine V_iload_n (pc := 18) 3 dX12_allow_18 rfl rfl ?_
      refine V_i2l (pc := 19) dX12_allow_19 (fun x_19_3 e_19_3 => ?_)
      have t_19_3 : x_19_3.toInt = a.toInt := i2lT e_19_3 rfl
      have b_19_3 := fb_rng a
      refine V_lconst (pc := 20) (v := 0) dX12_allow_20 rfl ?_
      refine V_ldc2 (pc := 21) dX12_allow_21 kk_X12_216 ?_
      refine V_callS (pc := 24) (As := [.long x_19_3, .long 0, .long 3000]) (st := []) (c_X12_in G x_19_3 0 3000) mf_X12_in ml_X12_111 st_X12_in dX12_allow_24 rfl rfl (by omega) (by omega) (by omega) (Nat.le_of_ble_eq_true rfl) (fun r_24_4 n_24_4 sh_24_4 I_24_4 L_24_4 R_24_4 hq_24_4 => ?_)
      obtain ⟨rfl, rfl, rfl, rfl, rfl, hq_24_4⟩ := hq_24_4
      rcases hq_24_4 with ⟨c_24_4, rfl⟩ | ⟨c_24_4, rfl⟩
      · have c_24_4 : 0 ≤ x_19_3.toInt ∧ x_19_3.toInt ≤ 3000 := c_24_4
        refine V_if_ne_t (pc := 27) (tgt := 33) dX12_allow_27 (by decide) (by decide) ?_
        refine V_aload_n (pc := 33) 0 dX12_allow_33 rfl rfl ?_
        refine V_getR (pc := 34) (j := 55) fk_X12_92_12 (wR hw (i := 27) (k := 41) (j := 55) rfl) dX12_allow_34 (wN hw (by decide)) (wS1 hw (by decide) rfl) ?_
        refine V_bipush (pc := 37) (v := 8) dX12_allow_37 rfl ?_
        refine V_iload_n (pc := 39) 1 dX12_allow_39 rfl rfl ?_
        refine V_imul (pc := 40) dX12_allow_40 (fun x_40_5 e_40_5 => ?_)
        have t_40_5 : x_40_5.toInt = 8 * b.toInt := mulT e_40_5 rfl rfl (by omega) (by omega)
        refine V_iload_n (pc := 41) 2 dX12_allow_41 rfl rfl ?_
        refine V_iadd (pc := 42) dX12_allow_42 (fun x_42_6 e_42_6 => ?_)
        have t_42_6 : x_42_6.toInt = x_40_5.toInt + c.toInt := addT e_42_6 rfl rfl (by omega) (by omega)
        refine V_ia (pc := 43) (k := ((8 * b.toInt) + c.toInt).toNat) (v := (I 55 ((8 * b.toInt) + c.toInt).toNat)) rfl dX12_allow_43 (wN hw (by decide)) (wS hw (by decide) rfl) (by omega) (by omega) ?_
        refine V_istore (pc := 44) (lo' := [(0, .ref (ad G 27)), (1, .int b), (2, .int c), (3, .int a), (4, .int (I 55 ((8 * b.toInt) + c.toInt).toNat))]) dX12_allow_44 (by decide) rfl ?_
        refine V_aload_n (pc := 46) 0 dX12_allow_46 rfl rfl ?_
        refine V_getR (pc := 47) (j := 55) fk_X12_92_12 (wR hw (i := 27) (k := 41) (j := 55) rfl) dX12_allow_47 (wN hw (by decide)) (wS1 hw (by decide) rfl) ?_
        refine V_bipush (pc := 50) (v := 8) dX12_allow_50 rfl ?_
        refine V_iload_n (pc := 52) 1 dX12_allow_52 rfl rfl ?_
        refine V_imul (pc := 53) dX12_allow_53 (fun x_53_7 e_53_7 => ?_)
        have t_53_7 : x_53_7.toInt = 8 * b.toInt := mulT e_53_7 rfl rfl (by omega) (by omega)
        refine V_iload_n (pc := 54) 2 dX12_allow_54 rfl rfl ?_
        refine V_iadd (pc := 55) dX12_allow_55 (fun x_55_8 e_55_8 => ?_)
        have t_55_8 : x_55_8.toInt = x_53_7.toInt + c.toInt := addT e_55_8 rfl rfl (by omega) (by omega)
        refine V_iload_n (pc := 56) 3 dX12_allow_56 rfl rfl ?_
        refine V_iask (pc := 57) (k := ((8 * b.toInt) + c.toInt).toNat) dX12_allow_57 (wN hw (by decide)) (wS hw (by decide) rfl) (by omega) (by omega) ?_
        refine V_iload (pc := 58) 4 dX12_allow_58 rfl ?_
        refine V_iret (pc := 60) rfl rfl dX12_allow_60 (by omega) (by omega) ?_
        subst_vars
        refine ⟨rfl, rfl, rfl, rfl, _, ?_, rfl⟩
        unfold sAllow isCar isCtl
        (repeat' split) <;> first | rfl | (exfalso; omega)
      · have c_24_4 : ¬ (0 ≤ x_19_3.toInt ∧ x_19_3.toInt ≤ 3000) := c_24_4
        refine V_if_ne_f (pc := 27) (tgt := 33) dX12_allow_27 (by decide) (by decide) ?_
        refine V_bipush (pc := 30) (v := (-2)) dX12_allow_30 rfl ?_
        refine V_iret (pc := 32) rfl rfl dX12_allow_32 (by omega) (by omega) ?_
        subst_vars
        refine ⟨rfl, rfl, rfl, rfl, _, ?_, rfl⟩
        unfold sAllow isCar isCtl
        (repeat' split) <;> first | rfl | (exfalso; omega)
set_option maxRecDepth 100000 in
set_option maxHeartbeats 4000000 in
theorem c_X12_traced (G : vG) {n : Nat} {sh : vS} {I : vI} {L : vL} {R : vR} (a : Int32) (hw : WF n sh R) : CT G yX12_traced cX12_traced 2 (none) 0 0 0 [.ref (ad G 27), .int a] n sh I L R (PI n sh L R (fun I' r => up2 I 27 42 (31 * I 27 42 + a) = I' ∧ r = none)) := by
  refine CT_of (own := RX12) (ini := false) (lo := [(0, .ref (ad G 27)), (1, .int a)]) mf_X12_traced (Nat.le_of_ble_eq_true rfl) rfl (fun h => by first | rfl | cases h) rfl ?_
  refine V_aload_n (pc := 0) 0 dX12_traced_0 rfl rfl ?_
  refine V_bipush (pc := 1) (v := 31) dX12_traced_1 rfl ?_
  refine V_aload_n (pc := 3) 0 dX12_traced_3 rfl rfl ?_
  refine V_gI (pc := 4) (v := (I 27 42)) rfl fk_X12_274_12 dX12_traced_4 (wN hw (by decide)) (wS1 hw (by decide) rfl) ?_
  refine V_imul (pc := 7) dX12_traced_7 (fun x_7_1 e_7_1 => ?_)
  refine V_iload_n (pc := 8) 1 dX12_traced_8 rfl rfl ?_
  refine V_iadd (pc := 9) dX12_traced_9 (fun x_9_2 e_9_2 => ?_)
  refine V_putI (pc := 10) fw_X12_274_12 rfl rfl dX12_traced_10 (wN hw (by decide)) (wS1 hw (by decide) rfl) ?_
  refine V_vret (pc := 13) rfl dX12_traced_13 (by omega) (by omega) ?_
  subst_vars
  exact ⟨rfl, rfl, rfl, rfl, rfl, rfl⟩
set_option maxRecDepth 100000 in
set_option maxHeartbeats 4000000 in
theorem c_X12_tell (G : vG) {n : Nat} {sh : vS} {I : vI} {L : vL} {R : vR} (r : Int32) (hw : WF n sh R) (h1 : 0 ≤ (I 27 1).toInt ∧ (I 27 1).toInt ≤ 16) : CT G yX12_tell cX12_tell 2 (some .int) 2 0 0 [.ref (ad G 27), .int r] n sh I L R (PI n sh L R (qi (sTell I r))) := by
  refine CT_of (own := RX12) (ini := false) (lo := [(0, .ref (ad G 27)), (1, .int r)]) mf_X12_tell (Nat.le_of_ble_eq_true rfl) rfl (fun h => by first | rfl | cases h) rfl ?_
  refine V_aload_n (pc := 0) 0 dX12_tell_0 rfl rfl ?_
  refine V_iload_n (pc := 1) 1 dX12_tell_1 rfl rfl ?_
  refine V_callV (pc := 2) (As := [.int r]) (st := []) (c_X12_noRoad G r hw h1.1) mf_X12_noRoad ml_X12_125 iv_X12_noRoad (wN hw (by decide)) (wS1 hw (by decide) rfl) (by decide) rfl dX12_tell_2 rfl rfl (by omega) (by omega) (by omega) (Nat.le_of_ble_eq_true rfl) (fun r_2_1 n_2_1 sh_2_1 I_2_1 L_2_1 R_2_1 hq_2_1 => ?_)
  obtain ⟨rfl, rfl, rfl, rfl, rfl, hq_2_1⟩ := hq_2_1
  rcases hq_2_1 with ⟨c_2_1, rfl⟩ | ⟨c_2_1, rfl⟩
  · have c_2_1 : ¬ (0 ≤ r.toInt ∧ r.toInt < (I 27 1).toInt) := c_2_1
    refine V_if_eq_f (pc := 5) (tgt := 10) dX12_tell_5 (by decide) (by decide) ?_
    refine V_iconst (pc := 8) (v := (-1)) dX12_tell_8 rfl ?_
    refine V_iret (pc := 9) rfl rfl dX12_tell_9 (by omega) (by omega) ?_
    subst_vars
    refine ⟨rfl, rfl, rfl, rfl, _, ?_, rfl⟩
    unfold sTell isRoad
    (repeat' split) <;> first | rfl | (exfalso; omega)
  · have c_2_1 : ¬ (¬ (0 ≤ r.toInt ∧ r.toInt < (I 27 1).toInt)) := c_2_1
    refine V_if_eq_t (pc := 5) (tgt := 10) dX12_tell_5 (by decide) (by decide) ?_
    refine V_aload_n (pc := 10) 0 dX12_tell_10 rfl rfl ?_
    refine V_getR (pc := 11) (j := 31) fk_X12_19_12 (wR hw (i := 27) (k := 5) (j := 31) rfl) dX12_tell_11 (wN hw (by decide)) (wS1 hw (by decide) rfl) ?_
    refine V_iload_n (pc := 14) 1 dX12_tell_14 rfl rfl ?_
    refine V_ia (pc := 15) (k := r.toInt.toNat) (v := (I 31 r.toInt.toNat)) rfl dX12_tell_15 (wN hw (by decide)) (wS hw (by decide) rfl) (by omega) (by omega) ?_
    refine V_if_le (pc := 16) (tgt := 38) dX12_tell_16 (by decide) (fun c_16_2 => ?_) (fun c_16_2 => ?_)
    · have c_16_2 : (I 31 r.toInt.toNat).toInt ≤ 0 := c_16_2
      refine V_aload_n (pc := 38) 0 dX12_tell_38 rfl rfl ?_
      refine V_iconst (pc := 39) (v := 1) dX12_tell_39 rfl ?_
      refine V_callV (pc := 40) (As := [.int 1]) (st := []) (c_X12_traced G 1 hw) mf_X12_traced ml_X12_277 iv_X12_traced (wN hw (by decide)) (wS1 hw (by decide) rfl) (by decide) rfl dX12_tell_40 rfl rfl (by omega) (by omega) (by omega) (Nat.le_of_ble_eq_true rfl) (fun r_40_3 n_40_3 sh_40_3 I_40_3 L_40_3 R_40_3 hq_40_3 => ?_)
      obtain ⟨rfl, rfl, rfl, rfl, rfl, rfl⟩ := hq_40_3
      refine V_aload_n (pc := 43) 0 dX12_tell_43 rfl rfl ?_
      refine V_getR (pc := 44) (j := 31) fk_X12_19_12 (wR hw (i := 27) (k := 5) (j := 31) rfl) dX12_tell_44 (wN hw (by decide)) (wS1 hw (by decide) rfl) ?_
      refine V_iload_n (pc := 47) 1 dX12_tell_47 rfl rfl ?_
      refine V_ia (pc := 48) (k := r.toInt.toNat) (v := (I 31 r.toInt.toNat)) rfl dX12_tell_48 (wN hw (by decide)) (wS hw (by decide) rfl) (by omega) (by omega) ?_
      refine V_iconst (pc := 49) (v := 1) dX12_tell_49 rfl ?_
      refine V_icmp_ne (pc := 50) (tgt := 64) dX12_tell_50 (by decide) (fun c_50_4 => ?_) (fun c_50_4 => ?_)
      · have c_50_4 : (I 31 r.toInt.toNat).toInt ≠ 1 := c_50_4
        refine V_aload_n (pc := 64) 0 dX12_tell_64 rfl rfl ?_
        refine V_getR (pc := 65) (j := 33) fk_X12_26_12 (wR hw (i := 27) (k := 7) (j := 33) rfl) dX12_tell_65 (wN hw (by decide)) (wS1 hw (by decide) rfl) ?_
        refine V_iload_n (pc := 68) 1 dX12_tell_68 rfl rfl ?_
        refine V_za (pc := 69) (k := r.toInt.toNat) (v := (I 33 r.toInt.toNat)) rfl dX12_tell_69 (wN hw (by decide)) (wS hw (by decide) rfl) (by omega) (by omega) ?_
        refine V_if_eq (pc := 70) (tgt := 83) dX12_tell_70 (by decide) (fun c_70_5 => ?_) (fun c_70_5 => ?_)
        · have c_70_5 : (I 33 r.toInt.toNat).toInt = 0 := c_70_5
          refine V_aload_n (pc := 83) 0 dX12_tell_83 rfl rfl ?_
          refine V_getR (pc := 84) (j := 30) fk_X12_16_12 (wR hw (i := 27) (k := 4) (j := 30) rfl) dX12_tell_84 (wN hw (by decide)) (wS1 hw (by decide) rfl) ?_
          refine V_iload_n (pc := 87) 1 dX12_tell_87 rfl rfl ?_
          refine V_ia (pc := 88) (k := r.toInt.toNat) (v := (I 30 r.toInt.toNat)) rfl dX12_tell_88 (wN hw (by decide)) (wS hw (by decide) rfl) (by omega) (by omega) ?_
          refine V_iret (pc := 89) rfl rfl dX12_tell_89 (by omega) (by omega) ?_
          subst_vars
          refine ⟨rfl, rfl, rfl, rfl, _, ?_, rfl⟩
          unfold sTell isRoad
          (repeat' split) <;> first | rfl | (exfalso; omega)
        · have c_70_5 : (I 33 r.toInt.toNat).toInt ≠ 0 := c_70_5
          refine V_aload_n (pc := 73) 0 dX12_tell_73 rfl rfl ?_
          refine V_getR (pc := 74) (j := 30) fk_X12_16_12 (wR hw (i := 27) (k := 4) (j := 30) rfl) dX12_tell_74 (wN hw (by decide)) (wS1 hw (by decide) rfl) ?_
          refine V_iload_n (pc := 77) 1 dX12_tell_77 rfl rfl ?_
          refine V_ia (pc := 78) (k := r.toInt.toNat) (v := (I 30 r.toInt.toNat)) rfl dX12_tell_78 (wN hw (by decide)) (wS hw (by decide) rfl) (by omega) (by omega) ?_
          refine V_ineg (pc := 79) dX12_tell_79 (fun x_79_6 e_79_6 => ?_)
          refine V_goto (pc := 80) (tgt := 89) dX12_tell_80 (by decide) ?_
          refine V_iret (pc := 89) rfl rfl dX12_tell_89 (by omega) (by omega) ?_
          subst_vars
          refine ⟨rfl, rfl, rfl, rfl, _, ?_, rfl⟩
          unfold sTell isRoad
          (repeat' split) <;> first | rfl | (exfalso; omega)
      · have c_50_4 : (I 31 r.toInt.toNat).toInt = 1 := c_50_4
        refine V_iconst (pc := 53) (v := 1) dX12_tell_53 rfl ?_
        refine V_aload_n (pc := 54) 0 dX12_tell_54 rfl rfl ?_
        refine V_getR (pc := 55) (j := 30) fk_X12_16_12 (wR hw (i := 27) (k := 4) (j := 30) rfl) dX12_tell_55 (wN hw (by decide)) (wS1 hw (by decide) rfl) ?_
        refine V_iload_n (pc := 58) 1 dX12_tell_58 rfl rfl ?_
        refine V_ia (pc := 59) (k := r.toInt.toNat) (v := (I 30 r.toInt.toNat)) rfl dX12_tell_59 (wN hw (by decide)) (wS hw (by decide) rfl) (by omega) (by omega) ?_
        refine V_iadd (pc := 60) dX12_tell_60 (fun x_60_7 e_60_7 => ?_)
        refine V_goto (pc := 61) (tgt := 89) dX12_tell_61 (by decide) ?_
        refine V_iret (pc := 89) rfl rfl dX12_tell_89 (by omega) (by omega) ?_
        subst_vars
        refine ⟨rfl, rfl, rfl, rfl, _, ?_, rfl⟩
        unfold sTell isRoad
        (repeat' split) <;> first | rfl | (exfalso; omega)
    · have c_16_2 : 0 < (I 31 r.toInt.toNat).toInt := c_16_2
      refine V_aload_n (pc := 19) 0 dX12_tell_19 rfl rfl ?_
      refine V_aload_n (pc := 20) 0 dX12_tell_20 rfl rfl ?_
      refine V_getR (pc := 21) (j := 31) fk_X12_19_12 (wR hw (i := 27) (k := 5) (j := 31) rfl) dX12_tell_21 (wN hw (by decide)) (wS1 hw (by decide) rfl) ?_
      refine V_iload_n (pc := 24) 1 dX12_tell_24 rfl rfl ?_
      refine V_ia (pc := 25) (k := r.toInt.toNat) (v := (I 31 r.toInt.toNat)) rfl dX12_tell_25 (wN hw (by decide)) (wS hw (by decide) rfl) (by omega) (by omega) ?_
      refine V_iconst (pc := 26) (v := 1) dX12_tell_26 rfl ?_
      refine V_icmp_ne (pc := 27) (tgt := 34) dX12_tell_27 (by decide) (fun c_27_8 => ?_) (fun c_27_8 => ?_)
      · have c_27_8 : (I 31 r.toInt.toNat).toInt ≠ 1 := c_27_8
        refine V_iconst (pc := 34) (v := 3) dX12_tell_34 rfl ?_
        refine V_callV (pc := 35) (As := [.int 3]) (st := []) (c_X12_traced G 3 hw) mf_X12_traced ml_X12_277 iv_X12_traced (wN hw (by decide)) (wS1 hw (by decide) rfl) (by decide) rfl dX12_tell_35 rfl rfl (by omega) (by omega) (by omega) (Nat.le_of_ble_eq_true rfl) (fun r_35_9 n_35_9 sh_35_9 I_35_9 L_35_9 R_35_9 hq_35_9 => ?_)
        obtain ⟨rfl, rfl, rfl, rfl, rfl, rfl⟩ := hq_35_9
        refine V_aload_n (pc := 38) 0 dX12_tell_38 rfl rfl ?_
        refine V_iconst (pc := 39) (v := 1) dX12_tell_39 rfl ?_
        refine V_callV (pc := 40) (As := [.int 1]) (st := []) (c_X12_traced G 1 hw) mf_X12_traced ml_X12_277 iv_X12_traced (wN hw (by decide)) (wS1 hw (by decide) rfl) (by decide) rfl dX12_tell_40 rfl rfl (by omega) (by omega) (by omega) (Nat.le_of_ble_eq_true rfl) (fun r_40_10 n_40_10 sh_40_10 I_40_10 L_40_10 R_40_10 hq_40_10 => ?_)
        obtain ⟨rfl, rfl, rfl, rfl, rfl, rfl⟩ := hq_40_10
        refine V_aload_n (pc := 43) 0 dX12_tell_43 rfl rfl ?_
        refine V_getR (pc := 44) (j := 31) fk_X12_19_12 (wR hw (i := 27) (k := 5) (j := 31) rfl) dX12_tell_44 (wN hw (by decide)) (wS1 hw (by decide) rfl) ?_
        refine V_iload_n (pc := 47) 1 dX12_tell_47 rfl rfl ?_
        refine V_ia (pc := 48) (k := r.toInt.toNat) (v := (I 31 r.toInt.toNat)) rfl dX12_tell_48 (wN hw (by decide)) (wS hw (by decide) rfl) (by omega) (by omega) ?_
        refine V_iconst (pc := 49) (v := 1) dX12_tell_49 rfl ?_
        refine V_icmp_ne (pc := 50) (tgt := 64) dX12_tell_50 (by decide) (fun c_50_11 => ?_) (fun c_50_11 => ?_)
        · have c_50_11 : (I 31 r.toInt.toNat).toInt ≠ 1 := c_50_11
          refine V_aload_n (pc := 64) 0 dX12_tell_64 rfl rfl ?_
          refine V_getR (pc := 65) (j := 33) fk_X12_26_12 (wR hw (i := 27) (k := 7) (j := 33) rfl) dX12_tell_65 (wN hw (by decide)) (wS1 hw (by decide) rfl) ?_
          refine V_iload_n (pc := 68) 1 dX12_tell_68 rfl rfl ?_
          refine V_za (pc := 69) (k := r.toInt.toNat) (v := (I 33 r.toInt.toNat)) rfl dX12_tell_69 (wN hw (by decide)) (wS hw (by decide) rfl) (by omega) (by omega) ?_
          refine V_if_eq (pc := 70) (tgt := 83) dX12_tell_70 (by decide) (fun c_70_12 => ?_) (fun c_70_12 => ?_)
          · have c_70_12 : (I 33 r.toInt.toNat).toInt = 0 := c_70_12
            refine V_aload_n (pc := 83) 0 dX12_tell_83 rfl rfl ?_
            refine V_getR (pc := 84) (j := 30) fk_X12_16_12 (wR hw (i := 27) (k := 4) (j := 30) rfl) dX12_tell_84 (wN hw (by decide)) (wS1 hw (by decide) rfl) ?_
            refine V_iload_n (pc := 87) 1 dX12_tell_87 rfl rfl ?_
            refine V_ia (pc := 88) (k := r.toInt.toNat) (v := (I 30 r.toInt.toNat)) rfl dX12_tell_88 (wN hw (by decide)) (wS hw (by decide) rfl) (by omega) (by omega) ?_
            refine V_iret (pc := 89) rfl rfl dX12_tell_89 (by omega) (by omega) ?_
            subst_vars
            refine ⟨rfl, rfl, rfl, rfl, _, ?_, rfl⟩
            unfold sTell isRoad
            (repeat' split) <;> first | rfl | (exfalso; omega)
          · have c_70_12 : (I 33 r.toInt.toNat).toInt ≠ 0 := c_70_12
            refine V_aload_n (pc := 73) 0 dX12_tell_73 rfl rfl ?_
            refine V_getR (pc := 74) (j := 30) fk_X12_16_12 (wR hw (i := 27) (k := 4) (j := 30) rfl) dX12_tell_74 (wN hw (by decide)) (wS1 hw (by decide) rfl) ?_
            refine V_iload_n (pc := 77) 1 dX12_tell_77 rfl rfl ?_
            refine V_ia (pc := 78) (k := r.toInt.toNat) (v := (I 30 r.toInt.toNat)) rfl dX12_tell_78 (wN hw (by decide)) (wS hw (by decide) rfl) (by omega) (by omega) ?_
            refine V_ineg (pc := 79) dX12_tell_79 (fun x_79_13 e_79_13 => ?_)
            refine V_goto (pc := 80) (tgt := 89) dX12_tell_80 (by decide) ?_
            refine V_iret (pc := 89) rfl rfl dX12_tell_89 (by omega) (by omega) ?_
            subst_vars
            refine ⟨rfl, rfl, rfl, rfl, _, ?_, rfl⟩
            unfold sTell isRoad
            (repeat' split) <;> first | rfl | (exfalso; omega)
        · have c_50_11 : (I 31 r.toInt.toNat).toInt = 1 := c_50_11
          refine V_iconst (pc := 53) (v := 1) dX12_tell_53 rfl ?_
          refine V_aload_n (pc := 54) 0 dX12_tell_54 rfl rfl ?_
          refine V_getR (pc := 55) (j := 30) fk_X12_16_12 (wR hw (i := 27) (k := 4) (j := 30) rfl) dX12_tell_55 (wN hw (by decide)) (wS1 hw (by decide) rfl) ?_
          refine V_iload_n (pc := 58) 1 dX12_tell_58 rfl rfl ?_
          refine V_ia (pc := 59) (k := r.toInt.toNat) (v := (I 30 r.toInt.toNat)) rfl dX12_tell_59 (wN hw (by decide)) (wS hw (by decide) rfl) (by omega) (by omega) ?_
          refine V_iadd (pc := 60) dX12_tell_60 (fun x_60_14 e_60_14 => ?_)
          refine V_goto (pc := 61) (tgt := 89) dX12_tell_61 (by decide) ?_
          refine V_iret (pc := 89) rfl rfl dX12_tell_89 (by omega) (by omega) ?_
          subst_vars
          refine ⟨rfl, rfl, rfl, rfl, _, ?_, rfl⟩
          unfold sTell isRoad
          (repeat' split) <;> first | rfl | (exfalso; omega)
      · have c_27_8 : (I 31 r.toInt.toNat).toInt = 1 := c_27_8
        refine V_iconst (pc := 30) (v := 2) dX12_tell_30 rfl ?_
        refine V_goto (pc := 31) (tgt := 35) dX12_tell_31 (by decide) ?_
        refine V_callV (pc := 35) (As := [.int 2]) (st := []) (c_X12_traced G 2 hw) mf_X12_traced ml_X12_277 iv_X12_traced (wN hw (by decide)) (wS1 hw (by decide) rfl) (by decide) rfl dX12_tell_35 rfl rfl (by omega) (by omega) (by omega) (Nat.le_of_ble_eq_true rfl) (fun r_35_15 n_35_15 sh_35_15 I_35_15 L_35_15 R_35_15 hq_35_15 => ?_)
        obtain ⟨rfl, rfl, rfl, rfl, rfl, rfl⟩ := hq_35_15
        refine V_aload_n (pc := 38) 0 dX12_tell_38 rfl rfl ?_
        refine V_iconst (pc := 39) (v := 1) dX12_tell_39 rfl ?_
        refine V_callV (pc := 40) (As := [.int 1]) (st := []) (c_X12_traced G 1 hw) mf_X12_traced ml_X12_277 iv_X12_traced (wN hw (by decide)) (wS1 hw (by decide) rfl) (by decide) rfl dX12_tell_40 rfl rfl (by omega) (by omega) (by omega) (Nat.le_of_ble_eq_true rfl) (fun r_40_16 n_40_16 sh_40_16 I_40_16 L_40_16 R_40_16 hq_40_16 => ?_)
        obtain ⟨rfl, rfl, rfl, rfl, rfl, rfl⟩ := hq_40_16
        refine V_aload_n (pc := 43) 0 dX12_tell_43 rfl rfl ?_
        refine V_getR (pc := 44) (j := 31) fk_X12_19_12 (wR hw (i := 27) (k := 5) (j := 31) rfl) dX12_tell_44 (wN hw (by decide)) (wS1 hw (by decide) rfl) ?_
        refine V_iload_n (pc := 47) 1 dX12_tell_47 rfl rfl ?_
        refine V_ia (pc := 48) (k := r.toInt.toNat) (v := (I 31 r.toInt.toNat)) rfl dX12_tell_48 (wN hw (by decide)) (wS hw (by decide) rfl) (by omega) (by omega) ?_
        refine V_iconst (pc := 49) (v := 1) dX12_tell_49 rfl ?_
        refine V_icmp_ne (pc := 50) (tgt := 64) dX12_tell_50 (by decide) (fun c_50_17 => ?_) (fun c_50_17 => ?_)
        · have c_50_17 : (I 31 r.toInt.toNat).toInt ≠ 1 := c_50_17
          refine V_aload_n (pc := 64) 0 dX12_tell_64 rfl rfl ?_
          refine V_getR (pc := 65) (j := 33) fk_X12_26_12 (wR hw (i := 27) (k := 7) (j := 33) rfl) dX12_tell_65 (wN hw (by decide)) (wS1 hw (by decide) rfl) ?_
          refine V_iload_n (pc := 68) 1 dX12_tell_68 rfl rfl ?_
          refine V_za (pc := 69) (k := r.toInt.toNat) (v := (I 33 r.toInt.toNat)) rfl dX12_tell_69 (wN hw (by decide)) (wS hw (by decide) rfl) (by omega) (by omega) ?_
          refine V_if_eq (pc := 70) (tgt := 83) dX12_tell_70 (by decide) (fun c_70_18 => ?_) (fun c_70_18 => ?_)
          · have c_70_18 : (I 33 r.toInt.toNat).toInt = 0 := c_70_18
            refine V_aload_n (pc := 83) 0 dX12_tell_83 rfl rfl ?_
            refine V_getR (pc := 84) (j := 30) fk_X12_16_12 (wR hw (i := 27) (k := 4) (j := 30) rfl) dX12_tell_84 (wN hw (by decide)) (wS1 hw (by decide) rfl) ?_
            refine V_iload_n (pc := 87) 1 dX12_tell_87 rfl rfl ?_
            refine V_ia (pc := 88) (k := r.toInt.toNat) (v := (I 30 r.toInt.toNat)) rfl dX12_tell_88 (wN hw (by decide)) (wS hw (by decide) rfl) (by omega) (by omega) ?_
            refine V_iret (pc := 89) rfl rfl dX12_tell_89 (by omega) (by omega) ?_
            subst_vars
            refine ⟨rfl, rfl, rfl, rfl, _, ?_, rfl⟩
            unfold sTell isRoad
            (repeat' split) <;> first | rfl | (exfalso; omega)
          · have c_70_18 : (I 33 r.toInt.toNat).toInt ≠ 0 := c_70_18
            refine V_aload_n (pc := 73) 0 dX12_tell_73 rfl rfl ?_
            refine V_getR (pc := 74) (j := 30) fk_X12_16_12 (wR hw (i := 27) (k := 4) (j := 30) rfl) dX12_tell_74 (wN hw (by decide)) (wS1 hw (by decide) rfl) ?_
            refine V_iload_n (pc := 77) 1 dX12_tell_77 rfl rfl ?_
            refine V_ia (pc := 78) (k := r.toInt.toNat) (v := (I 30 r.toInt.toNat)) rfl dX12_tell_78 (wN hw (by decide)) (wS hw (by decide) rfl) (by omega) (by omega) ?_
            refine V_ineg (pc := 79) dX12_tell_79 (fun x_79_19 e_79_19 => ?_)
            refine V_goto (pc := 80) (tgt := 89) dX12_tell_80 (by decide) ?_
            refine V_iret (pc := 89) rfl rfl dX12_tell_89 (by omega) (by omega) ?_
            subst_vars
            refine ⟨rfl, rfl, rfl, rfl, _, ?_, rfl⟩
            unfold sTell isRoad
            (repeat' split) <;> first | rfl | (exfalso; omega)
        · have c_50_17 : (I 31 r.toInt.toNat).toInt = 1 := c_50_17
          refine V_iconst (pc := 53) (v := 1) dX12_tell_53 rfl ?_
          refine V_aload_n (pc := 54) 0 dX12_tell_54 rfl rfl ?_
          refine V_getR (pc := 55) (j := 30) fk_X12_16_12 (wR hw (i := 27) (k := 4) (j := 30) rfl) dX12_tell_55 (wN hw (by decide)) (wS1 hw (by decide) rfl) ?_
          refine V_iload_n (pc := 58) 1 dX12_tell_58 rfl rfl ?_
          refine V_ia (pc := 59) (k := r.toInt.toNat) (v := (I 30 r.toInt.toNat)) rfl dX12_tell_59 (wN hw (by decide)) (wS hw (by decide) rfl) (by omega) (by omega) ?_
          refine V_iadd (pc := 60) dX12_tell_60 (fun x_60_20 e_60_20 => ?_)
          refine V_goto (pc := 61) (tgt := 89) dX12_tell_61 (by decide) ?_
          refine V_iret (pc := 89) rfl rfl dX12_tell_89 (by omega) (by omega) ?_
          subst_vars
          refine ⟨rfl, rfl, rfl, rfl, _, ?_, rfl⟩
          unfold sTell isRoad
          (repeat' split) <;> first | rfl | (exfalso; omega)
set_option maxRecDepth 100000 in
set_option maxHeartbeats 4000000 in
theorem c_X12_greet (G : vG) {n : Nat} {sh : vS} {I : vI} {L : vL} {R : vR} (c : Int32) (hw : WF n sh R) (h35 : 0 ≤ (I 27 35).toInt ∧ (I 27 35).toInt ≤ 8) : CT G yX12_greet cX12_greet 2 (some .int) 2 0 0 [.ref (ad G 27), .int c] n sh I L R (PI n sh L R (qi (sGreet I c))) := by
  refine CT_of (own := RX12) (ini := false) (lo := [(0, .ref (ad G 27)), (1, .int c)]) mf_X12_greet (Nat.le_of_ble_eq_true rfl) rfl (fun h => by first | rfl | cases h) rfl ?_
  refine V_aload_n (pc := 0) 0 dX12_greet_0 rfl rfl ?_
  refine V_iload_n (pc := 1) 1 dX12_greet_1 rfl rfl ?_
  refine V_callV (pc := 2) (As := [.int c]) (st := []) (c_X12_noCar G c hw h35.1) mf_X12_noCar ml_X12_243 iv_X12_noCar (wN hw (by decide)) (wS1 hw (by decide) rfl) (by decide) rfl dX12_greet_2 rfl rfl (by omega) (by omega) (by omega) (Nat.le_of_ble_eq_true rfl) (fun r_2_1 n_2_1 sh_2_1 I_2_1 L_2_1 R_2_1 hq_2_1 => ?_)
  obtain ⟨rfl, rfl, rfl, rfl, rfl, hq_2_1⟩ := hq_2_1
  rcases hq_2_1 with ⟨c_2_1, rfl⟩ | ⟨c_2_1, rfl⟩
  · have c_2_1 : ¬ (0 ≤ c.toInt ∧ c.toInt < (I 27 35).toInt) := c_2_1
    refine V_if_eq_f (pc := 5) (tgt := 10) dX12_greet_5 (by decide) (by decide) ?_
    refine V_iconst (pc := 8) (v := (-1)) dX12_greet_8 rfl ?_
    refine V_iret (pc := 9) rfl rfl dX12_greet_9 (by omega) (by omega) ?_
    subst_vars
    refine ⟨rfl, rfl, rfl, rfl, _, ?_, rfl⟩
    unfold sGreet isCar
    (repeat' split) <;> first | rfl | (exfalso; omega)
  · have c_2_1 : ¬ (¬ (0 ≤ c.toInt ∧ c.toInt < (I 27 35).toInt)) := c_2_1
    refine V_if_eq_t (pc := 5) (tgt := 10) dX12_greet_5 (by decide) (by decide) ?_
    refine V_aload_n (pc := 10) 0 dX12_greet_10 rfl rfl ?_
    refine V_getR (pc := 11) (j := 52) fk_X12_83_12 (wR hw (i := 27) (k := 37) (j := 52) rfl) dX12_greet_11 (wN hw (by decide)) (wS1 hw (by decide) rfl) ?_
    refine V_iload_n (pc := 14) 1 dX12_greet_14 rfl rfl ?_
    refine V_ia (pc := 15) (k := c.toInt.toNat) (v := (I 52 c.toInt.toNat)) rfl dX12_greet_15 (wN hw (by decide)) (wS hw (by decide) rfl) (by omega) (by omega) ?_
    refine V_if_ne (pc := 16) (tgt := 29) dX12_greet_16 (by decide) (fun c_16_2 => ?_) (fun c_16_2 => ?_)
    · have c_16_2 : (I 52 c.toInt.toNat).toInt ≠ 0 := c_16_2
      refine V_aload_n (pc := 29) 0 dX12_greet_29 rfl rfl ?_
      refine V_getR (pc := 30) (j := 52) fk_X12_83_12 (wR hw (i := 27) (k := 37) (j := 52) rfl) dX12_greet_30 (wN hw (by decide)) (wS1 hw (by decide) rfl) ?_
      refine V_iload_n (pc := 33) 1 dX12_greet_33 rfl rfl ?_
      refine V_ia (pc := 34) (k := c.toInt.toNat) (v := (I 52 c.toInt.toNat)) rfl dX12_greet_34 (wN hw (by decide)) (wS hw (by decide) rfl) (by omega) (by omega) ?_
      refine V_iconst (pc := 35) (v := 2) dX12_greet_35 rfl ?_
      refine V_icmp_ne (pc := 36) (tgt := 45) dX12_greet_36 (by decide) (fun c_36_3 => ?_) (fun c_36_3 => ?_)
      · have c_36_3 : (I 52 c.toInt.toNat).toInt ≠ 2 := c_36_3
        refine V_aload_n (pc := 45) 0 dX12_greet_45 rfl rfl ?_
        refine V_iconst (pc := 46) (v := 5) dX12_greet_46 rfl ?_
        refine V_callV (pc := 47) (As := [.int 5]) (st := []) (c_X12_traced G 5 hw) mf_X12_traced ml_X12_277 iv_X12_traced (wN hw (by decide)) (wS1 hw (by decide) rfl) (by decide) rfl dX12_greet_47 rfl rfl (by omega) (by omega) (by omega) (Nat.le_of_ble_eq_true rfl) (fun r_47_4 n_47_4 sh_47_4 I_47_4 L_47_4 R_47_4 hq_47_4 => ?_)
        obtain ⟨rfl, rfl, rfl, rfl, rfl, rfl⟩ := hq_47_4
        refine V_aload_n (pc := 50) 0 dX12_greet_50 rfl rfl ?_
        refine V_getR (pc := 51) (j := 52) fk_X12_83_12 (wR hw (i := 27) (k := 37) (j := 52) rfl) dX12_greet_51 (wN hw (by decide)) (wS1 hw (by decide) rfl) ?_
        refine V_iload_n (pc := 54) 1 dX12_greet_54 rfl rfl ?_
        refine V_ia (pc := 55) (k := c.toInt.toNat) (v := (I 52 c.toInt.toNat)) rfl dX12_greet_55 (wN hw (by decide)) (wS hw (by decide) rfl) (by omega) (by omega) ?_
        refine V_iconst (pc := 56) (v := 2) dX12_greet_56 rfl ?_
        refine V_icmp_ne (pc := 57) (tgt := 65) dX12_greet_57 (by decide) (fun c_57_5 => ?_) (fun c_57_5 => ?_)
        · have c_57_5 : (I 52 c.toInt.toNat).toInt ≠ 2 := c_57_5
          refine V_bipush (pc := 65) (v := 7) dX12_greet_65 rfl ?_
          refine V_iret (pc := 67) rfl rfl dX12_greet_67 (by omega) (by omega) ?_
          subst_vars
          refine ⟨rfl, rfl, rfl, rfl, _, ?_, rfl⟩
          unfold sGreet isCar
          (repeat' split) <;> first | rfl | (exfalso; omega)
        · have c_57_5 : (I 52 c.toInt.toNat).toInt = 2 := c_57_5
          refine V_bipush (pc := 60) (v := 8) dX12_greet_60 rfl ?_
          refine V_goto (pc := 62) (tgt := 67) dX12_greet_62 (by decide) ?_
          refine V_iret (pc := 67) rfl rfl dX12_greet_67 (by omega) (by omega) ?_
          subst_vars
          refine ⟨rfl, rfl, rfl, rfl, _, ?_, rfl⟩
          unfold sGreet isCar
          (repeat' split) <;> first | rfl | (exfalso; omega)
      · have c_36_3 : (I 52 c.toInt.toNat).toInt = 2 := c_36_3
        refine V_aload_n (pc := 39) 0 dX12_greet_39 rfl rfl ?_
        refine V_bipush (pc := 40) (v := 6) dX12_greet_40 rfl ?_
        refine V_callV (pc := 42) (As := [.int 6]) (st := []) (c_X12_traced G 6 hw) mf_X12_traced ml_X12_277 iv_X12_traced (wN hw (by decide)) (wS1 hw (by decide) rfl) (by decide) rfl dX12_greet_42 rfl rfl (by omega) (by omega) (by omega) (Nat.le_of_ble_eq_true rfl) (fun r_42_6 n_42_6 sh_42_6 I_42_6 L_42_6 R_42_6 hq_42_6 => ?_)
        obtain ⟨rfl, rfl, rfl, rfl, rfl, rfl⟩ := hq_42_6
        refine V_aload_n (pc := 45) 0 dX12_greet_45 rfl rfl ?_
        refine V_iconst (pc := 46) (v := 5) dX12_greet_46 rfl ?_
        refine V_callV (pc := 47) (As := [.int 5]) (st := []) (c_X12_traced G 5 hw) mf_X12_traced ml_X12_277 iv_X12_traced (wN hw (by decide)) (wS1 hw (by decide) rfl) (by decide) rfl dX12_greet_47 rfl rfl (by omega) (by omega) (by omega) (Nat.le_of_ble_eq_true rfl) (fun r_47_7 n_47_7 sh_47_7 I_47_7 L_47_7 R_47_7 hq_47_7 => ?_)
        obtain ⟨rfl, rfl, rfl, rfl, rfl, rfl⟩ := hq_47_7
        refine V_aload_n (pc := 50) 0 dX12_greet_50 rfl rfl ?_
        refine V_getR (pc := 51) (j := 52) fk_X12_83_12 (wR hw (i := 27) (k := 37) (j := 52) rfl) dX12_greet_51 (wN hw (by decide)) (wS1 hw (by decide) rfl) ?_
        refine V_iload_n (pc := 54) 1 dX12_greet_54 rfl rfl ?_
        refine V_ia (pc := 55) (k := c.toInt.toNat) (v := (I 52 c.toInt.toNat)) rfl dX12_greet_55 (wN hw (by decide)) (wS hw (by decide) rfl) (by omega) (by omega) ?_
        refine V_iconst (pc := 56) (v := 2) dX12_greet_56 rfl ?_
        refine V_icmp_ne (pc := 57) (tgt := 65) dX12_greet_57 (by decide) (fun c_57_8 => ?_) (fun c_57_8 => ?_)
        · have c_57_8 : (I 52 c.toInt.toNat).toInt ≠ 2 := c_57_8
          refine V_bipush (pc := 65) (v := 7) dX12_greet_65 rfl ?_
          refine V_iret (pc := 67) rfl rfl dX12_greet_67 (by omega) (by omega) ?_
          subst_vars
          refine ⟨rfl, rfl, rfl, rfl, _, ?_, rfl⟩
          unfold sGreet isCar
          (repeat' split) <;> first | rfl | (exfalso; omega)
        · have c_57_8 : (I 52 c.toInt.toNat).toInt = 2 := c_57_8
          refine V_bipush (pc := 60) (v := 8) dX12_greet_60 rfl ?_
          refine V_goto (pc := 62) (tgt := 67) dX12_greet_62 (by decide) ?_
          refine V_iret (pc := 67) rfl rfl dX12_greet_67 (by omega) (by omega) ?_
          subst_vars
          refine ⟨rfl, rfl, rfl, rfl, _, ?_, rfl⟩
          unfold sGreet isCar
          (repeat' split) <;> first | rfl | (exfalso; omega)
    · have c_16_2 : (I 52 c.toInt.toNat).toInt = 0 := c_16_2
      refine V_aload_n (pc := 19) 0 dX12_greet_19 rfl rfl ?_
      refine V_iconst (pc := 20) (v := 4) dX12_greet_20 rfl ?_
      refine V_callV (pc := 21) (As := [.int 4]) (st := []) (c_X12_traced G 4 hw) mf_X12_traced ml_X12_277 iv_X12_traced (wN hw (by decide)) (wS1 hw (by decide) rfl) (by decide) rfl dX12_greet_21 rfl rfl (by omega) (by omega) (by omega) (Nat.le_of_ble_eq_true rfl) (fun r_21_9 n_21_9 sh_21_9 I_21_9 L_21_9 R_21_9 hq_21_9 => ?_)
      obtain ⟨rfl, rfl, rfl, rfl, rfl, rfl⟩ := hq_21_9
      refine V_bipush (pc := 24) (v := 10) dX12_greet_24 rfl ?_
      refine V_iload_n (pc := 26) 1 dX12_greet_26 rfl rfl ?_
      refine V_imul (pc := 27) dX12_greet_27 (fun x_27_10 e_27_10 => ?_)
      refine V_iret (pc := 28) rfl rfl dX12_greet_28 (by omega) (by omega) ?_
      subst_vars
      refine ⟨rfl, rfl, rfl, rfl, _, ?_, rfl⟩
      unfold sGreet isCar
      (repeat' split) <;> first | rfl | (exfalso; omega)
set_option maxRecDepth 100000 in
set_option maxHeartbeats 4000000 in
theorem c_X12_as (G : vG) {n : Nat} {sh : vS} {I : vI} {L : vL} {R : vR} (c k : Int32) (hw : WF n sh R) (h35 : 0 ≤ (I 27 35).toInt ∧ (I 27 35).toInt ≤ 8) : CT G yX12_as cX12_as 3 (some .int) 2 0 0 [.ref (ad G 27), .int c, .int k] n sh I L R (PI n sh L R (qi (sAs I c k))) := by
  refine CT_of (own := RX12) (ini := false) (lo := [(0, .ref (ad G 27)), (1, .int c), (2, .int k)]) mf_X12_as (Nat.le_of_ble_eq_true rfl) rfl (fun h => by first | rfl | cases h) rfl ?_
  refine V_aload_n (pc := 0) 0 dX12_as_0 rfl rfl ?_
  refine V_iload_n (pc := 1) 1 dX12_as_1 rfl rfl ?_
  refine V_callV (pc := 2) (As := [.int c]) (st := []) (c_X12_noCar G c hw h35.1) mf_X12_noCar ml_X12_243 iv_X12_noCar (wN hw (by decide)) (wS1 hw (by decide) rfl) (by decide) rfl dX12_as_2 rfl rfl (by omega) (by omega) (by omega) (Nat.le_of_ble_eq_true rfl) (fun r_2_1 n_2_1 sh_2_1 I_2_1 L_2_1 R_2_1 hq_2_1 => ?_)
  obtain ⟨rfl, rfl, rfl, rfl, rfl, hq_2_1⟩ := hq_2_1
  rcases hq_2_1 with ⟨c_2_1, rfl⟩ | ⟨c_2_1, rfl⟩
  · have c_2_1 : ¬ (0 ≤ c.toInt ∧ c.toInt < (I 27 35).toInt) := c_2_1
    refine V_if_eq_f (pc := 5) (tgt := 14) dX12_as_5 (by decide) (by decide) ?_
    refine V_aload_n (pc := 8) 0 dX12_as_8 rfl rfl ?_
    refine V_iconst (pc := 9) (v := (-1)) dX12_as_9 rfl ?_
    refine V_callV (pc := 10) (As := [.int (-1)]) (st := []) (c_X12_refused G (-1) hw) mf_X12_refused ml_X12_128 iv_X12_refused (wN hw (by decide)) (wS1 hw (by decide) rfl) (by decide) rfl dX12_as_10 rfl rfl (by omega) (by omega) (by omega) (Nat.le_of_ble_eq_true rfl) (fun r_10_2 n_10_2 sh_10_2 I_10_2 L_10_2 R_10_2 hq_10_2 => ?_)
    obtain ⟨rfl, rfl, rfl, rfl, rfl, rfl⟩ := hq_10_2
    refine V_iret (pc := 13) rfl rfl dX12_as_13 (by omega) (by omega) ?_
    subst_vars
    refine ⟨rfl, rfl, rfl, rfl, _, ?_, rfl⟩
    unfold sAs isCar
    (repeat' split) <;> first | rfl | (exfalso; omega)
  · have c_2_1 : ¬ (¬ (0 ≤ c.toInt ∧ c.toInt < (I 27 35).toInt)) := c_2_1
    refine V_if_eq_t (pc := 5) (tgt := 14) dX12_as_5 (by decide) (by decide) ?_
    refine V_iload_n (pc := 14) 2 dX12_as_14 rfl rfl ?_
    refine V_i2l (pc := 15) dX12_as_15 (fun x_15_3 e_15_3 => ?_)
    have t_15_3 : x_15_3.toInt = k.toInt := i2lT e_15_3 rfl
    have b_15_3 := fb_rng k
    refine V_lconst (pc := 16) (v := 0) dX12_as_16 rfl ?_
    refine V_ldc2 (pc := 17) dX12_as_17 kk_X12_123 ?_
    refine V_callS (pc := 20) (As := [.long x_15_3, .long 0, .long 2]) (st := []) (c_X12_in G x_15_3 0 2) mf_X12_in ml_X12_111 st_X12_in dX12_as_20 rfl rfl (by omega) (by omega) (by omega) (Nat.le_of_ble_eq_true rfl) (fun r_20_4 n_20_4 sh_20_4 I_20_4 L_20_4 R_20_4 hq_20_4 => ?_)
    obtain ⟨rfl, rfl, rfl, rfl, rfl, hq_20_4⟩ := hq_20_4
    rcases hq_20_4 with ⟨c_20_4, rfl⟩ | ⟨c_20_4, rfl⟩
    · have c_20_4 : 0 ≤ x_15_3.toInt ∧ x_15_3.toInt ≤ 2 := c_20_4
      refine V_if_ne_t (pc := 23) (tgt := 33) dX12_as_23 (by decide) (by decide) ?_
      refine V_aload_n (pc := 33) 0 dX12_as_33 rfl rfl ?_
      refine V_getR (pc := 34) (j := 52) fk_X12_83_12 (wR hw (i := 27) (k := 37) (j := 52) rfl) dX12_as_34 (wN hw (by decide)) (wS1 hw (by decide) rfl) ?_
      refine V_iload_n (pc := 37) 1 dX12_as_37 rfl rfl ?_
      refine V_ia (pc := 38) (k := c.toInt.toNat) (v := (I 52 c.toInt.toNat)) rfl dX12_as_38 (wN hw (by decide)) (wS hw (by decide) rfl) (by omega) (by omega) ?_
      refine V_iload_n (pc := 39) 2 dX12_as_39 rfl rfl ?_
      refine V_icmp_lt (pc := 40) (tgt := 51) dX12_as_40 (by decide) (fun c_40_5 => ?_) (fun c_40_5 => ?_)
      · have c_40_5 : (I 52 c.toInt.toNat).toInt < k.toInt := c_40_5
        refine V_aload_n (pc := 51) 0 dX12_as_51 rfl rfl ?_
        refine V_iconst (pc := 52) (v := 2) dX12_as_52 rfl ?_
        refine V_callV (pc := 53) (As := [.int 2]) (st := []) (c_X12_failed G 2 hw) mf_X12_failed ml_X12_132 iv_X12_failed (wN hw (by decide)) (wS1 hw (by decide) rfl) (by decide) rfl dX12_as_53 rfl rfl (by omega) (by omega) (by omega) (Nat.le_of_ble_eq_true rfl) (fun r_53_6 n_53_6 sh_53_6 I_53_6 L_53_6 R_53_6 hq_53_6 => ?_)
        obtain ⟨rfl, rfl, rfl, rfl, rfl, rfl⟩ := hq_53_6
        refine V_iret (pc := 56) rfl rfl dX12_as_56 (by omega) (by omega) ?_
        subst_vars
        refine ⟨rfl, rfl, rfl, rfl, _, ?_, rfl⟩
        unfold sAs isCar
        (repeat' split) <;> first | rfl | (exfalso; omega)
      · have c_40_5 : k.toInt ≤ (I 52 c.toInt.toNat).toInt := c_40_5
        refine V_aload_n (pc := 43) 0 dX12_as_43 rfl rfl ?_
        refine V_iconst (pc := 44) (v := 1) dX12_as_44 rfl ?_
        refine V_callV (pc := 45) (As := [.int 1]) (st := []) (c_X12_refused G 1 hw) mf_X12_refused ml_X12_128 iv_X12_refused (wN hw (by decide)) (wS1 hw (by decide) rfl) (by decide) rfl dX12_as_45 rfl rfl (by omega) (by omega) (by omega) (Nat.le_of_ble_eq_true rfl) (fun r_45_7 n_45_7 sh_45_7 I_45_7 L_45_7 R_45_7 hq_45_7 => ?_)
        obtain ⟨rfl, rfl, rfl, rfl, rfl, rfl⟩ := hq_45_7
        refine V_goto (pc := 48) (tgt := 56) dX12_as_48 (by decide) ?_
        refine V_iret (pc := 56) rfl rfl dX12_as_56 (by omega) (by omega) ?_
        subst_vars
        refine ⟨rfl, rfl, rfl, rfl, _, ?_, rfl⟩
        unfold sAs isCar
        (repeat' split) <;> first | rfl | (exfalso; omega)
    · have c_20_4 : ¬ (0 ≤ x_15_3.toInt ∧ x_15_3.toInt ≤ 2) := c_20_4
      refine V_if_ne_f (pc := 23) (tgt := 33) dX12_as_23 (by decide) (by decide) ?_
      refine V_aload_n (pc := 26) 0 dX12_as_26 rfl rfl ?_
      refine V_bipush (pc := 27) (v := (-2)) dX12_as_27 rfl ?_
      refine V_callV (pc := 29) (As := [.int (-2)]) (st := []) (c_X12_refused G (-2) hw) mf_X12_refused ml_X12_128 iv_X12_refused (wN hw (by decide)) (wS1 hw (by decide) rfl) (by decide) rfl dX12_as_29 rfl rfl (by omega) (by omega) (by omega) (Nat.le_of_ble_eq_true rfl) (fun r_29_8 n_29_8 sh_29_8 I_29_8 L_29_8 R_29_8 hq_29_8 => ?_)
      obtain ⟨rfl, rfl, rfl, rfl, rfl, rfl⟩ := hq_29_8
      refine V_iret (pc := 32) rfl rfl dX12_as_32 (by omega) (by omega) ?_
      subst_vars
      refine ⟨rfl, rfl, rfl, rfl, _, ?_, rfl⟩
      unfold sAs isCar
      (repeat' split) <;> first | rfl | (exfalso; omega)
set_option maxRecDepth 100000 in
set_option maxHeartbeats 4000000 in
theorem c_X12_trace (G : vG) {n : Nat} {sh : vS} {I : vI} {L : vL} {R : vR}  (hw : WF n sh R) : CT G yX12_trace cX12_trace 1 (some .int) 0 0 0 [.ref (ad G 27)] n sh I L R (PI n sh L R (fun I' r => I = I' ∧ r = some (.int (I 27 42)))) := by
  refine CT_of (own := RX12) (ini := false) (lo := [(0, .ref (ad G 27))]) mf_X12_trace (Nat.le_of_ble_eq_true rfl) rfl (fun h => by first | rfl | cases h) rfl ?_
  refine V_aload_n (pc := 0) 0 dX12_trace_0 rfl rfl ?_
  refine V_gI (pc := 1) (v := (I 27 42)) rfl fk_X12_274_12 dX12_trace_1 (wN hw (by decide)) (wS1 hw (by decide) rfl) ?_
  refine V_iret (pc := 4) rfl rfl dX12_trace_4 (by omega) (by omega) ?_
  exact ⟨rfl, rfl, rfl, rfl, rfl, rfl⟩
set_option maxRecDepth 100000 in
set_option maxHeartbeats 4000000 in
theorem c_X12_fault (G : vG) {n : Nat} {sh : vS} {I : vI} {L : vL} {R : vR}  (hw : WF n sh R) : CT G yX12_fault cX12_fault 1 (some .int) 0 0 0 [.ref (ad G 27)] n sh I L R (PI n sh L R (fun I' r => I = I' ∧ r = some (.int (I 27 0)))) := by
  refine CT_of (own := RX12) (ini := false) (lo := [(0, .ref (ad G 27))]) mf_X12_fault (Nat.le_of_ble_eq_true rfl) rfl (fun h => by first | rfl | cases h) rfl ?_
  refine V_aload_n (pc := 0) 0 dX12_fault_0 rfl rfl ?_
  refine V_gI (pc := 1) (v := (I 27 0)) rfl fk_X12_101_12 dX12_fault_1 (wN hw (by decide)) (wS1 hw (by decide) rfl) ?_
  refine V_iret (pc := 4) rfl rfl dX12_fault_4 (by omega) (by omega) ?_
  exact ⟨rfl, rfl, rfl, rfl, rfl, rfl⟩
set_option maxRecDepth 100000 in
set_option maxHeartbeats 4000000 in
theorem c_X12_told (G : vG) {n : Nat} {sh : vS} {I : vI} {L : vL} {R : vR} (w : Int32) (hw : WF n sh R) : CT G yX12_told cX12_told 2 (some .int) 0 0 0 [.ref (ad G 27), .int w] n sh I L R (PI n sh L R (fun I' r => I = I' ∧ r = some (.int (sTold I w)))) := by
  refine CT_of (own := RX12) (ini := false) (lo := [(0, .ref (ad G 27)), (1, .int w)]) mf_X12_told (Nat.le_of_ble_eq_true rfl) rfl (fun h => by first | rfl | cases h) rfl ?_
  refine V_iload_n (pc := 0) 1 dX12_told_0 rfl rfl ?_
  by_cases c_1_1 : 0 ≤ w.toInt ∧ w.toInt ≤ 7
  · rcases (show w.toInt = 0 ∨ w.toInt = 1 ∨ w.toInt = 2 ∨ w.toInt = 3 ∨ w.toInt = 4 ∨ w.toInt = 5 ∨ w.toInt = 6 ∨ w.toInt = 7 by omega) with k_1_1 | k_1_1 | k_1_1 | k_1_1 | k_1_1 | k_1_1 | k_1_1 | k_1_1
    · refine V_tableIn (pc := 1) (tgt := 48) (off := 47) dX12_told_1 (by omega) (by omega) (by rw [k_1_1]; rfl) (by decide) ?_
      refine V_aload_n (pc := 48) 0 dX12_told_48 rfl rfl ?_
      refine V_gI (pc := 49) (v := (I 27 1)) rfl fk_X12_108_12 dX12_told_49 (wN hw (by decide)) (wS1 hw (by decide) rfl) ?_
      refine V_iret (pc := 52) rfl rfl dX12_told_52 (by omega) (by omega) ?_
      refine ⟨rfl, rfl, rfl, rfl, rfl, ?_⟩
      unfold sTold
      (repeat' split) <;> first | rfl | (exfalso; omega)
    · refine V_tableIn (pc := 1) (tgt := 53) (off := 52) dX12_told_1 (by omega) (by omega) (by rw [k_1_1]; rfl) (by decide) ?_
      refine V_aload_n (pc := 53) 0 dX12_told_53 rfl rfl ?_
      refine V_gI (pc := 54) (v := (I 27 24)) rfl fk_X12_95_12 dX12_told_54 (wN hw (by decide)) (wS1 hw (by decide) rfl) ?_
      refine V_iret (pc := 57) rfl rfl dX12_told_57 (by omega) (by omega) ?_
      refine ⟨rfl, rfl, rfl, rfl, rfl, ?_⟩
      unfold sTold
      (repeat' split) <;> first | rfl | (exfalso; omega)
    · refine V_tableIn (pc := 1) (tgt := 58) (off := 57) dX12_told_1 (by omega) (by omega) (by rw [k_1_1]; rfl) (by decide) ?_
      refine V_aload_n (pc := 58) 0 dX12_told_58 rfl rfl ?_
      refine V_gI (pc := 59) (v := (I 27 24)) rfl fk_X12_95_12 dX12_told_59 (wN hw (by decide)) (wS1 hw (by decide) rfl) ?_
      refine V_if_ne (pc := 62) (tgt := 69) dX12_told_62 (by decide) (fun c_62_2 => ?_) (fun c_62_2 => ?_)
      · have c_62_2 : (I 27 24).toInt ≠ 0 := c_62_2
        refine V_aload_n (pc := 69) 0 dX12_told_69 rfl rfl ?_
        refine V_gI (pc := 70) (v := (I 27 25)) rfl fk_X12_193_12 dX12_told_70 (wN hw (by decide)) (wS1 hw (by decide) rfl) ?_
        refine V_iret (pc := 73) rfl rfl dX12_told_73 (by omega) (by omega) ?_
        refine ⟨rfl, rfl, rfl, rfl, rfl, ?_⟩
        unfold sTold
        (repeat' split) <;> first | rfl | (exfalso; omega)
      · have c_62_2 : (I 27 24).toInt = 0 := c_62_2
        refine V_iconst (pc := 65) (v := 0) dX12_told_65 rfl ?_
        refine V_goto (pc := 66) (tgt := 73) dX12_told_66 (by decide) ?_
        refine V_iret (pc := 73) rfl rfl dX12_told_73 (by omega) (by omega) ?_
        refine ⟨rfl, rfl, rfl, rfl, rfl, ?_⟩
        unfold sTold
        (repeat' split) <;> first | rfl | (exfalso; omega)
    · refine V_tableIn (pc := 1) (tgt := 74) (off := 73) dX12_told_1 (by omega) (by omega) (by rw [k_1_1]; rfl) (by decide) ?_
      refine V_aload_n (pc := 74) 0 dX12_told_74 rfl rfl ?_
      refine V_gI (pc := 75) (v := (I 27 27)) rfl fk_X12_196_12 dX12_told_75 (wN hw (by decide)) (wS1 hw (by decide) rfl) ?_
      refine V_iret (pc := 78) rfl rfl dX12_told_78 (by omega) (by omega) ?_
      refine ⟨rfl, rfl, rfl, rfl, rfl, ?_⟩
      unfold sTold
      (repeat' split) <;> first | rfl | (exfalso; omega)
    · refine V_tableIn (pc := 1) (tgt := 79) (off := 78) dX12_told_1 (by omega) (by omega) (by rw [k_1_1]; rfl) (by decide) ?_
      refine V_aload_n (pc := 79) 0 dX12_told_79 rfl rfl ?_
      refine V_gI (pc := 80) (v := (I 27 30)) rfl fk_X12_199_12 dX12_told_80 (wN hw (by decide)) (wS1 hw (by decide) rfl) ?_
      refine V_iret (pc := 83) rfl rfl dX12_told_83 (by omega) (by omega) ?_
      refine ⟨rfl, rfl, rfl, rfl, rfl, ?_⟩
      unfold sTold
      (repeat' split) <;> first | rfl | (exfalso; omega)
    · refine V_tableIn (pc := 1) (tgt := 84) (off := 83) dX12_told_1 (by omega) (by omega) (by rw [k_1_1]; rfl) (by decide) ?_
      refine V_aload_n (pc := 84) 0 dX12_told_84 rfl rfl ?_
      refine V_gI (pc := 85) (v := (I 27 35)) rfl fk_X12_238_12 dX12_told_85 (wN hw (by decide)) (wS1 hw (by decide) rfl) ?_
      refine V_iret (pc := 88) rfl rfl dX12_told_88 (by omega) (by omega) ?_
      refine ⟨rfl, rfl, rfl, rfl, rfl, ?_⟩
      unfold sTold
      (repeat' split) <;> first | rfl | (exfalso; omega)
    · refine V_tableIn (pc := 1) (tgt := 89) (off := 88) dX12_told_1 (by omega) (by omega) (by rw [k_1_1]; rfl) (by decide) ?_
      refine V_aload_n (pc := 89) 0 dX12_told_89 rfl rfl ?_
      refine V_gI (pc := 90) (v := (I 27 12)) rfl fk_X12_161_12 dX12_told_90 (wN hw (by decide)) (wS1 hw (by decide) rfl) ?_
      refine V_iret (pc := 93) rfl rfl dX12_told_93 (by omega) (by omega) ?_
      refine ⟨rfl, rfl, rfl, rfl, rfl, ?_⟩
      unfold sTold
      (repeat' split) <;> first | rfl | (exfalso; omega)
    · refine V_tableIn (pc := 1) (tgt := 94) (off := 93) dX12_told_1 (by omega) (by omega) (by rw [k_1_1]; rfl) (by decide) ?_
      refine V_aload_n (pc := 94) 0 dX12_told_94 rfl rfl ?_
      refine V_gI (pc := 95) (v := (I 27 14)) rfl fk_X12_176_12 dX12_told_95 (wN hw (by decide)) (wS1 hw (by decide) rfl) ?_
      refine V_iret (pc := 98) rfl rfl dX12_told_98 (by omega) (by omega) ?_
      refine ⟨rfl, rfl, rfl, rfl, rfl, ?_⟩
      unfold sTold
      (repeat' split) <;> first | rfl | (exfalso; omega)
  · refine V_tableOut (pc := 1) (tgt := 99) dX12_told_1 (by omega) (by decide) ?_
    refine V_bipush (pc := 99) (v := (-2)) dX12_told_99 rfl ?_
    refine V_iret (pc := 101) rfl rfl dX12_told_101 (by omega) (by omega) ?_
    refine ⟨rfl, rfl, rfl, rfl, rfl, ?_⟩
    unfold sTold
    (repeat' split) <;> first | rfl | (exfalso; omega)
