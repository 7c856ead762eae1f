set_option maxRecDepth 100000 in
set_option maxHeartbeats 4000000 in
theorem c_X7_init (G : vG) {n : Nat} {sh : vS} {I : vI} {L : vL} {R : vR} (j : Nat) (a b l k : Int32) (hj : j < n) (hcj : (sh j).1 = 7 ∨ (sh j).1 = 6 ∨ (sh j).1 = 3) : CT G yX7_init cX7_init 5 (none) 1 0 0 [.ref (ad G j), .int a, .int b, .int l, .int k] n sh I L R (PI n sh L R (fun I' r => (up2 (up2 (up2 (up2 I j 0 a) j 1 b) j 2 l) j 3 k) = I' ∧ r = none)) := by
  refine CT_of (own := RX7) (ini := true) (lo := [(0, .ref (ad G j)), (1, .int a), (2, .int b), (3, .int l), (4, .int k)]) mf_X7_init (Nat.le_of_ble_eq_true rfl) rfl (fun h => by first | rfl | cases h) rfl ?_
  refine V_aload_n (pc := 0) 0 dX7_init_0 rfl rfl ?_
  refine V_objInit (pc := 1) mo_X7 mo_i mo_c dX7_init_1 (by omega) (Nat.le_of_ble_eq_true rfl) ?_
  refine V_aload_n (pc := 4) 0 dX7_init_4 rfl rfl ?_
  refine V_iload_n (pc := 5) 1 dX7_init_5 rfl rfl ?_
  refine V_putIF (pc := 6) rfl (fw_X7_9_s hcj) rfl rfl dX7_init_6 hj rfl ?_
  refine V_aload_n (pc := 9) 0 dX7_init_9 rfl rfl ?_
  refine V_iload_n (pc := 10) 2 dX7_init_10 rfl rfl ?_
  refine V_putIF (pc := 11) rfl (fw_X7_15_s hcj) rfl rfl dX7_init_11 hj rfl ?_
  refine V_aload_n (pc := 14) 0 dX7_init_14 rfl rfl ?_
  refine V_iload_n (pc := 15) 3 dX7_init_15 rfl rfl ?_
  refine V_putIF (pc := 16) rfl (fw_X7_18_s hcj) rfl rfl dX7_init_16 hj rfl ?_
  refine V_aload_n (pc := 19) 0 dX7_init_19 rfl rfl ?_
  refine V_iload (pc := 20) 4 dX7_init_20 rfl ?_
  refine V_putIF (pc := 22) rfl (fw_X7_21_s hcj) rfl rfl dX7_init_22 hj rfl ?_
  refine V_vret (pc := 25) rfl dX7_init_25 (by omega) (by omega) ?_
  exact ⟨rfl, rfl, rfl, rfl, rfl, rfl⟩
set_option maxRecDepth 100000 in
set_option maxHeartbeats 4000000 in
theorem c_X6_init (G : vG) {n : Nat} {sh : vS} {I : vI} {L : vL} {R : vR} (j : Nat) (a b l : Int32) (hj : j < n) (hcj : (sh j).1 = 7 ∨ (sh j).1 = 6 ∨ (sh j).1 = 3) : CT G yX6_init cX6_init 4 (none) 2 0 0 [.ref (ad G j), .int a, .int b, .int l] n sh I L R (PI n sh L R (fun I' r => (up2 (up2 (up2 (up2 I j 0 a) j 1 b) j 2 l) j 3 1) = I' ∧ r = none)) := by
  refine CT_of (own := RX6) (ini := true) (lo := [(0, .ref (ad G j)), (1, .int a), (2, .int b), (3, .int l)]) mf_X6_init (Nat.le_of_ble_eq_true rfl) rfl (fun h => by first | rfl | cases h) rfl ?_
  refine V_aload_n (pc := 0) 0 dX6_init_0 rfl rfl ?_
  refine V_iload_n (pc := 1) 1 dX6_init_1 rfl rfl ?_
  refine V_iload_n (pc := 2) 2 dX6_init_2 rfl rfl ?_
  refine V_iload_n (pc := 3) 3 dX6_init_3 rfl rfl ?_
  refine V_iconst (pc := 4) (v := 1) dX6_init_4 rfl ?_
  refine V_callI (pc := 5) (As := [.int a, .int b, .int l, .int 1]) (st := []) (c_X7_init G j a b l 1 hj hcj) mf_X7_init ml_X6_3 ii_X7_init dX6_init_5 rfl rfl (by omega) (by omega) (by omega) (Nat.le_of_ble_eq_true rfl) (fun r_5_1 n_5_1 sh_5_1 I_5_1 L_5_1 R_5_1 hq_5_1 => ?_)
  obtain ⟨rfl, rfl, rfl, rfl, rfl, rfl⟩ := hq_5_1
  refine V_vret (pc := 8) rfl dX6_init_8 (by omega) (by omega) ?_
  exact ⟨rfl, rfl, rfl, rfl, rfl, rfl⟩
set_option maxRecDepth 100000 in
set_option maxHeartbeats 4000000 in
theorem c_X3_init (G : vG) {n : Nat} {sh : vS} {I : vI} {L : vL} {R : vR} (j : Nat) (a b l : Int32) (hj : j < n) (hcj : (sh j).1 = 7 ∨ (sh j).1 = 6 ∨ (sh j).1 = 3) : CT G yX3_init cX3_init 4 (none) 2 0 0 [.ref (ad G j), .int a, .int b, .int l] n sh I L R (PI n sh L R (fun I' r => (up2 (up2 (up2 (up2 I j 0 a) j 1 b) j 2 l) j 3 2) = I' ∧ r = none)) := by
  refine CT_of (own := RX3) (ini := true) (lo := [(0, .ref (ad G j)), (1, .int a), (2, .int b), (3, .int l)]) mf_X3_init (Nat.le_of_ble_eq_true rfl) rfl (fun h => by first | rfl | cases h) rfl ?_
  refine V_aload_n (pc := 0) 0 dX3_init_0 rfl rfl ?_
  refine V_iload_n (pc := 1) 1 dX3_init_1 rfl rfl ?_
  refine V_iload_n (pc := 2) 2 dX3_init_2 rfl rfl ?_
  refine V_iload_n (pc := 3) 3 dX3_init_3 rfl rfl ?_
  refine V_iconst (pc := 4) (v := 2) dX3_init_4 rfl ?_
  refine V_callI (pc := 5) (As := [.int a, .int b, .int l, .int 2]) (st := []) (c_X7_init G j a b l 2 hj hcj) mf_X7_init ml_X3_1 ii_X7_init dX3_init_5 rfl rfl (by omega) (by omega) (by omega) (Nat.le_of_ble_eq_true rfl) (fun r_5_1 n_5_1 sh_5_1 I_5_1 L_5_1 R_5_1 hq_5_1 => ?_)
  obtain ⟨rfl, rfl, rfl, rfl, rfl, rfl⟩ := hq_5_1
  refine V_vret (pc := 8) rfl dX3_init_8 (by omega) (by omega) ?_
  exact ⟨rfl, rfl, rfl, rfl, rfl, rfl⟩
set_option maxRecDepth 100000 in
set_option maxHeartbeats 4000000 in
theorem c_X11_newRoad (G : vG) {n : Nat} {sh : vS} {I : vI} {L : vL} {R : vR} (a b l k : Int32) (hk : 0 ≤ k.toInt ∧ k.toInt ≤ 2) : CT G yX11_newRoad cX11_newRoad 4 (some (.object "RegularRally$Road")) 3 1 6 [.int a, .int b, .int l, .int k] n sh I L R (fun r n' sh' I' L' R' => r = some (.ref (ad G n)) ∧ n' = n + 1 ∧ sh' = uph sh n (rdC k.toInt, 0) ∧ I' = up2 (up2 (up2 (up2 (uph I n (fun _ => 0)) n 0 a) n 1 b) n 2 l) n 3 k ∧ L' = uph L n (fun _ => 0) ∧ R' = uph R n (fun _ => none)) := by
  refine CT_of (own := RX11) (ini := false) (lo := [(0, .int a), (1, .int b), (2, .int l), (3, .int k)]) mf_X11_newRoad (Nat.le_of_ble_eq_true rfl) rfl (fun h => by first | rfl | cases h) rfl ?_
  refine V_iload_n (pc := 0) 3 dX11_newRoad_0 rfl rfl ?_
  refine V_iconst (pc := 1) (v := 1) dX11_newRoad_1 rfl ?_
  refine V_icmp_ne (pc := 2) (tgt := 16) dX11_newRoad_2 (by decide) (fun c_2_1 => ?_) (fun c_2_1 => ?_)
  · have c_2_1 : k.toInt ≠ 1 := c_2_1
    refine V_iload_n (pc := 16) 3 dX11_newRoad_16 rfl rfl ?_
    refine V_iconst (pc := 17) (v := 2) dX11_newRoad_17 rfl ?_
    refine V_icmp_ne (pc := 18) (tgt := 32) dX11_newRoad_18 (by decide) (fun c_18_2 => ?_) (fun c_18_2 => ?_)
    · have c_18_2 : k.toInt ≠ 2 := c_18_2
      refine V_new7 (pc := 32) ⟨kl_X11_11, kin_X7, kini_X7⟩ dX11_newRoad_32 (by omega) (by omega) rfl rfl rfl rfl ?_
      refine V_dup (pc := 35) dX11_newRoad_35 rfl ?_
      refine V_iload_n (pc := 36) 0 dX11_newRoad_36 rfl rfl ?_
      refine V_iload_n (pc := 37) 1 dX11_newRoad_37 rfl rfl ?_
      refine V_iload_n (pc := 38) 2 dX11_newRoad_38 rfl rfl ?_
      refine V_iconst (pc := 39) (v := 0) dX11_newRoad_39 rfl ?_
      refine V_callI (pc := 40) (As := [.int a, .int b, .int l, .int 0]) (st := [.ref (ad G n)]) (c_X7_init G n a b l 0 (by omega) (by rw [uph_e]; decide)) mf_X7_init ml_X11_301 ii_X7_init dX11_newRoad_40 rfl rfl (by omega) (by omega) (by omega) (Nat.le_of_ble_eq_true rfl) (fun r_40_3 n_40_3 sh_40_3 I_40_3 L_40_3 R_40_3 hq_40_3 => ?_)
      obtain ⟨rfl, rfl, rfl, rfl, rfl, rfl⟩ := hq_40_3
      refine V_aret (pc := 43) rfl (Or.inr ⟨_, rfl⟩) dX11_newRoad_43 (by omega) (by omega) ?_
      obtain rfl : k = 0 := ti_eq.mpr (by show _ = (0 : Int); omega)
      exact ⟨rfl, rfl, rfl, rfl, rfl, rfl⟩
    · have c_18_2 : k.toInt = 2 := c_18_2
      refine V_new3 (pc := 21) ⟨kl_X11_84, kin_X3, kini_X3⟩ dX11_newRoad_21 (by omega) (by omega) rfl rfl rfl rfl ?_
      refine V_dup (pc := 24) dX11_newRoad_24 rfl ?_
      refine V_iload_n (pc := 25) 0 dX11_newRoad_25 rfl rfl ?_
      refine V_iload_n (pc := 26) 1 dX11_newRoad_26 rfl rfl ?_
      refine V_iload_n (pc := 27) 2 dX11_newRoad_27 rfl rfl ?_
      refine V_callI (pc := 28) (As := [.int a, .int b, .int l]) (st := [.ref (ad G n)]) (c_X3_init G n a b l (by omega) (by rw [uph_e]; decide)) mf_X3_init ml_X11_300 ii_X3_init dX11_newRoad_28 rfl rfl (by omega) (by omega) (by omega) (Nat.le_of_ble_eq_true rfl) (fun r_28_4 n_28_4 sh_28_4 I_28_4 L_28_4 R_28_4 hq_28_4 => ?_)
      obtain ⟨rfl, rfl, rfl, rfl, rfl, rfl⟩ := hq_28_4
      refine V_aret (pc := 31) rfl (Or.inr ⟨_, rfl⟩) dX11_newRoad_31 (by omega) (by omega) ?_
      obtain rfl : k = 2 := ti_eq.mpr (by show _ = (2 : Int); omega)
      exact ⟨rfl, rfl, rfl, rfl, rfl, rfl⟩
  · have c_2_1 : k.toInt = 1 := c_2_1
    refine V_new6 (pc := 5) ⟨kl_X11_295, kin_X6, kini_X6⟩ dX11_newRoad_5 (by omega) (by omega) rfl rfl rfl rfl ?_
    refine V_dup (pc := 8) dX11_newRoad_8 rfl ?_
    refine V_iload_n (pc := 9) 0 dX11_newRoad_9 rfl rfl ?_
    refine V_iload_n (pc := 10) 1 dX11_newRoad_10 rfl rfl ?_
    refine V_iload_n (pc := 11) 2 dX11_newRoad_11 rfl rfl ?_
    refine V_callI (pc := 12) (As := [.int a, .int b, .int l]) (st := [.ref (ad G n)]) (c_X6_init G n a b l (by omega) (by rw [uph_e]; decide)) mf_X6_init ml_X11_297 ii_X6_init dX11_newRoad_12 rfl rfl (by omega) (by omega) (by omega) (Nat.le_of_ble_eq_true rfl) (fun r_12_5 n_12_5 sh_12_5 I_12_5 L_12_5 R_12_5 hq_12_5 => ?_)
    obtain ⟨rfl, rfl, rfl, rfl, rfl, rfl⟩ := hq_12_5
    refine V_aret (pc := 15) rfl (Or.inr ⟨_, rfl⟩) dX11_newRoad_15 (by omega) (by omega) ?_
    obtain rfl : k = 1 := ti_eq.mpr (by show _ = (1 : Int); omega)
    exact ⟨rfl, rfl, rfl, rfl, rfl, rfl⟩
set_option maxRecDepth 100000 in
set_option maxHeartbeats 4000000 in
theorem c_X11_road (G : vG) {n : Nat} {sh : vS} {I : vI} {L : vL} {R : vR} (t : Int) (X : vI) (a b l kd : Int32) (hJ : JZ t n sh I L R X) : CT G yX11_road cX11_road 5 (some .int) 4 1 6 [.ref (ad G 0), .int a, .int b, .int l, .int kd] n sh I L R (ZP t I (qi (sRoad X a b l kd))) := by
  refine CT_of (own := RX11) (ini := false) (lo := [(0, .ref (ad G 0)), (1, .int a), (2, .int b), (3, .int l), (4, .int kd)]) mf_X11_road (Nat.le_of_ble_eq_true rfl) rfl (fun h => by first | rfl | cases h) rfl ?_
  obtain ⟨⟨hw, hR, hC, hK, hS, hT, hB, hQ, hY, hV⟩, hx⟩ := id hJ
  have c01 : (I 0 1).toInt = (X 27 1).toInt := by rw [hR.1]
  have c06 : (I 0 6).toInt = (X 27 30).toInt := by rw [hC.1]
  have c08 : (I 0 8).toInt = (X 27 35).toInt := by rw [hK.1]
  have c21 : (I 2 1).toInt = (X 27 12).toInt := by rw [hB.1]
  have b01 := hR.2.1
  have b30 := hC.2.1
  have b35 := hK.2.1
  have b12 := hB.2.2.1
  obtain ⟨cy2, cy3, cy6, b24, b27, b25, y13⟩ := JW_d hY
  refine V_iload_n (pc := 0) 1 dX11_road_0 rfl rfl ?_
  refine V_callS (pc := 1) (As := [.int a]) (st := []) (c_X11_isSpot G a) mf_X11_isSpot ml_X11_57 st_X11_isSpot dX11_road_1 rfl rfl (by omega) (by omega) (by omega) (Nat.le_of_ble_eq_true rfl) (fun r_1_1 n_1_1 sh_1_1 I_1_1 L_1_1 R_1_1 hq_1_1 => ?_)
  obtain ⟨rfl, rfl, rfl, rfl, rfl, hq_1_1⟩ := hq_1_1
  rcases hq_1_1 with ⟨c_1_1, rfl⟩ | ⟨c_1_1, rfl⟩
  · have c_1_1 : 0 ≤ a.toInt ∧ a.toInt ≤ 9 := c_1_1
    refine V_if_eq_f (pc := 4) (tgt := 14) dX11_road_4 (by decide) (by decide) ?_
    refine V_iload_n (pc := 7) 2 dX11_road_7 rfl rfl ?_
    refine V_callS (pc := 8) (As := [.int b]) (st := []) (c_X11_isSpot G b) mf_X11_isSpot ml_X11_57 st_X11_isSpot dX11_road_8 rfl rfl (by omega) (by omega) (by omega) (Nat.le_of_ble_eq_true rfl) (fun r_8_2 n_8_2 sh_8_2 I_8_2 L_8_2 R_8_2 hq_8_2 => ?_)
    obtain ⟨rfl, rfl, rfl, rfl, rfl, hq_8_2⟩ := hq_8_2
    rcases hq_8_2 with ⟨c_8_2, rfl⟩ | ⟨c_8_2, rfl⟩
    · have c_8_2 : 0 ≤ b.toInt ∧ b.toInt ≤ 9 := c_8_2
      refine V_if_ne_t (pc := 11) (tgt := 16) dX11_road_11 (by decide) (by decide) ?_
      refine V_iload_n (pc := 16) 1 dX11_road_16 rfl rfl ?_
      refine V_iload_n (pc := 17) 2 dX11_road_17 rfl rfl ?_
      refine V_icmp_eq (pc := 18) (tgt := 42) dX11_road_18 (by decide) (fun c_18_3 => ?_) (fun c_18_3 => ?_)
      · have c_18_3 : a.toInt = b.toInt := c_18_3
        refine V_bipush (pc := 42) (v := (-2)) dX11_road_42 rfl ?_
        refine V_iret (pc := 44) rfl rfl dX11_road_44 (by omega) (by omega) ?_
        refine ⟨fun X' r' hq => ?_, fun a h1 h2 => ?_, hw, ⟨_, rfl⟩⟩
        · obtain ⟨v0, e0, rfl⟩ := hq
          unfold sRoad at e0
          (repeat' split at e0) <;> first | (exfalso; omega) | (obtain ⟨rfl, rfl⟩ := Prod.mk.inj e0; exact ⟨by (exact rfl), by (exact JZ_le hJ (by omega))⟩)
        · (repeat first | rw [up2_o (by omega)] | rw [cpF_r (by omega)] | rw [uph_o (by omega)]) <;> rfl
      · have c_18_3 : a.toInt ≠ b.toInt := c_18_3
        refine V_iload_n (pc := 21) 3 dX11_road_21 rfl rfl ?_
        refine V_iconst (pc := 22) (v := 1) dX11_road_22 rfl ?_
        refine V_sipush (pc := 23) (v := 20000) dX11_road_23 rfl ?_
        refine V_callS (pc := 26) (As := [.int l, .int 1, .int 20000]) (st := []) (c_X11_isWithin G l 1 20000) mf_X11_isWithin ml_X11_61 st_X11_isWithin dX11_road_26 rfl rfl (by omega) (by omega) (by omega) (Nat.le_of_ble_eq_true rfl) (fun r_26_4 n_26_4 sh_26_4 I_26_4 L_26_4 R_26_4 hq_26_4 => ?_)
        obtain ⟨rfl, rfl, rfl, rfl, rfl, hq_26_4⟩ := hq_26_4
        rcases hq_26_4 with ⟨c_26_4, rfl⟩ | ⟨c_26_4, rfl⟩
        · have c_26_4 : 1 ≤ l.toInt ∧ l.toInt ≤ 20000 := c_26_4
          refine V_if_eq_f (pc := 29) (tgt := 42) dX11_road_29 (by decide) (by decide) ?_
          refine V_iload (pc := 32) 4 dX11_road_32 rfl ?_
          refine V_iconst (pc := 34) (v := 0) dX11_road_34 rfl ?_
          refine V_iconst (pc := 35) (v := 2) dX11_road_35 rfl ?_
          refine V_callS (pc := 36) (As := [.int kd, .int 0, .int 2]) (st := []) (c_X11_isWithin G kd 0 2) mf_X11_isWithin ml_X11_61 st_X11_isWithin dX11_road_36 rfl rfl (by omega) (by omega) (by omega) (Nat.le_of_ble_eq_true rfl) (fun r_36_5 n_36_5 sh_36_5 I_36_5 L_36_5 R_36_5 hq_36_5 => ?_)
          obtain ⟨rfl, rfl, rfl, rfl, rfl, hq_36_5⟩ := hq_36_5
          rcases hq_36_5 with ⟨c_36_5, rfl⟩ | ⟨c_36_5, rfl⟩
          · have c_36_5 : 0 ≤ kd.toInt ∧ kd.toInt ≤ 2 := c_36_5
            refine V_if_ne_t (pc := 39) (tgt := 45) dX11_road_39 (by decide) (by decide) ?_
            refine V_aload_n (pc := 45) 0 dX11_road_45 rfl rfl ?_
            refine V_gI (pc := 46) (v := (I 0 1)) (by first | rfl | rw [up2_o (by omega), up2_o (by omega), up2_o (by omega), up2_o (by omega), uph_o (by omega)]) fk_X11_65_11 dX11_road_46 (wN hw (by decide)) (wS1 hw (by decide) rfl) ?_
            refine V_bipush (pc := 49) (v := 16) dX11_road_49 rfl ?_
            refine V_icmp_lt (pc := 51) (tgt := 57) dX11_road_51 (by decide) (fun c_51_6 => ?_) (fun c_51_6 => ?_)
            · have c_51_6 : (I 0 1).toInt < 16 := c_51_6
              refine V_aload_n (pc := 57) 0 dX11_road_57 rfl rfl ?_
              refine V_getR (pc := 58) (j := 1) fk_X11_13_11 (wR hw (i := 0) (k := 0) (j := 1) rfl) dX11_road_58 (wN hw (by decide)) (wS1 hw (by decide) rfl) ?_
              refine V_aload_n (pc := 61) 0 dX11_road_61 rfl rfl ?_
              refine V_gI (pc := 62) (v := (I 0 1)) (by first | rfl | rw [up2_o (by omega), up2_o (by omega), up2_o (by omega), up2_o (by omega), uph_o (by omega)]) fk_X11_65_11 dX11_road_62 (wN hw (by decide)) (wS1 hw (by decide) rfl) ?_
              refine V_iload_n (pc := 65) 1 dX11_road_65 rfl rfl ?_
              refine V_iload_n (pc := 66) 2 dX11_road_66 rfl rfl ?_
              refine V_iload_n (pc := 67) 3 dX11_road_67 rfl rfl ?_
              refine V_iload (pc := 68) 4 dX11_road_68 rfl ?_
              refine V_callS (pc := 70) (As := [.int a, .int b, .int l, .int kd]) (st := [.int (I 0 1), .ref (ad G 1)]) (c_X11_newRoad G a b l kd (by omega)) mf_X11_newRoad ml_X11_69 st_X11_newRoad dX11_road_70 rfl rfl (by omega) (by omega) (by omega) (Nat.le_of_ble_eq_true rfl) (fun r_70_7 n_70_7 sh_70_7 I_70_7 L_70_7 R_70_7 hq_70_7 => ?_)
              obtain ⟨rfl, rfl, rfl, rfl, rfl, rfl⟩ := hq_70_7
              have hn56 := hw.1
              have hw := WF_new (c := (rdC kd.toInt, 0)) hw
              refine V_aastR (pc := 73) (t := 2) (N := 16) (k := (I 0 1).toInt.toNat) dX11_road_73 (wN hw (by decide)) (wS hw (by decide) rfl) (by decide) rfl (show n < n + 1 ∧ uph sh n (rdC kd.toInt, 0) n = (rdC kd.toInt, 0) from ⟨by omega, uph_e⟩) (by omega) (by omega) ?_
              have hw := WF_u (w := some n) (c := (I 0 1).toInt.toNat) hw (by decide : 1 = 1 ∨ 1 = 16 ∨ 1 = 17)
              refine V_aload_n (pc := 74) 0 dX11_road_74 rfl rfl ?_
              refine V_dup (pc := 75) dX11_road_75 rfl ?_
              refine V_gI (pc := 76) (v := (I 0 1)) (by first | rfl | rw [up2_o (by omega), up2_o (by omega), up2_o (by omega), up2_o (by omega), uph_o (by omega)]) fk_X11_65_11 dX11_road_76 (wN hw (by decide)) (wS1 hw (by decide) rfl) ?_
              refine V_iconst (pc := 79) (v := 1) dX11_road_79 rfl ?_
              refine V_iadd (pc := 80) dX11_road_80 (fun x_80_8 e_80_8 => ?_)
              have t_80_8 : x_80_8.toInt = (I 0 1).toInt + 1 := addT e_80_8 rfl rfl (by omega) (by omega)
              refine V_putI (pc := 81) fw_X11_65_11 rfl rfl dX11_road_81 (wN hw (by decide)) (wS1 hw (by decide) rfl) ?_
              refine V_aload_n (pc := 84) 0 dX11_road_84 rfl rfl ?_
              refine V_gI (pc := 85) (v := x_80_8) rfl fk_X11_65_11 dX11_road_85 (wN hw (by decide)) (wS1 hw (by decide) rfl) ?_
              refine V_iconst (pc := 88) (v := 1) dX11_road_88 rfl ?_
              refine V_isub (pc := 89) dX11_road_89 (fun x_89_9 e_89_9 => ?_)
              have t_89_9 : x_89_9.toInt = x_80_8.toInt - 1 := subT e_89_9 rfl rfl (by omega) (by omega)
              refine V_iret (pc := 90) rfl rfl dX11_road_90 (by omega) (by omega) ?_
              refine ⟨fun X' r' hq => ?_, fun z h1 h2 => ?_, hw, ⟨_, rfl⟩⟩
              · obtain ⟨v0, e0, rfl⟩ := hq
                unfold sRoad at e0
                rw [if_neg (by omega), if_neg (by omega), if_neg (by omega)] at e0
                obtain ⟨rfl, rfl⟩ := Prod.mk.inj e0
                refine ⟨by rw [e_89_9, e_80_8, hR.1], ?_⟩
                have ek : (I 0 1).toInt.toNat = (X 27 1).toInt.toNat := by rw [hR.1]
                rw [e_80_8, hR.1]
                exact JZ_le (JZ_road (X 27 1).toInt.toNat a b l kd (X 27 1 + 1) hJ (by omega) (by omega) rfl (by omega) (by omega) (by omega) (by omega) (by omega)) (by omega)
              · (repeat first | rw [up2_o (by omega)] | rw [cpF_r (by omega)] | rw [uph_o (by omega)]) <;> rfl
            · have c_51_6 : 16 ≤ (I 0 1).toInt := c_51_6
              refine V_bipush (pc := 54) (v := (-4)) dX11_road_54 rfl ?_
              refine V_iret (pc := 56) rfl rfl dX11_road_56 (by omega) (by omega) ?_
              refine ⟨fun X' r' hq => ?_, fun a h1 h2 => ?_, hw, ⟨_, rfl⟩⟩
              · obtain ⟨v0, e0, rfl⟩ := hq
                unfold sRoad at e0
                (repeat' split at e0) <;> first | (exfalso; omega) | (obtain ⟨rfl, rfl⟩ := Prod.mk.inj e0; exact ⟨by (exact rfl), by (exact JZ_le hJ (by omega))⟩)
              · (repeat first | rw [up2_o (by omega)] | rw [cpF_r (by omega)] | rw [uph_o (by omega)]) <;> rfl
          · have c_36_5 : ¬ (0 ≤ kd.toInt ∧ kd.toInt ≤ 2) := c_36_5
            refine V_if_ne_f (pc := 39) (tgt := 45) dX11_road_39 (by decide) (by decide) ?_
            refine V_bipush (pc := 42) (v := (-2)) dX11_road_42 rfl ?_
            refine V_iret (pc := 44) rfl rfl dX11_road_44 (by omega) (by omega) ?_
            refine ⟨fun X' r' hq => ?_, fun a h1 h2 => ?_, hw, ⟨_, rfl⟩⟩
            · obtain ⟨v0, e0, rfl⟩ := hq
              unfold sRoad at e0
              (repeat' split at e0) <;> first | (exfalso; omega) | (obtain ⟨rfl, rfl⟩ := Prod.mk.inj e0; exact ⟨by (exact rfl), by (exact JZ_le hJ (by omega))⟩)
            · (repeat first | rw [up2_o (by omega)] | rw [cpF_r (by omega)] | rw [uph_o (by omega)]) <;> rfl
        · have c_26_4 : ¬ (1 ≤ l.toInt ∧ l.toInt ≤ 20000) := c_26_4
          refine V_if_eq_t (pc := 29) (tgt := 42) dX11_road_29 (by decide) (by decide) ?_
          refine V_bipush (pc := 42) (v := (-2)) dX11_road_42 rfl ?_
          refine V_iret (pc := 44) rfl rfl dX11_road_44 (by omega) (by omega) ?_
          refine ⟨fun X' r' hq => ?_, fun a h1 h2 => ?_, hw, ⟨_, rfl⟩⟩
          · obtain ⟨v0, e0, rfl⟩ := hq
            unfold sRoad at e0
            (repeat' split at e0) <;> first | (exfalso; omega) | (obtain ⟨rfl, rfl⟩ := Prod.mk.inj e0; exact ⟨by (exact rfl), by (exact JZ_le hJ (by omega))⟩)
          · (repeat first | rw [up2_o (by omega)] | rw [cpF_r (by omega)] | rw [uph_o (by omega)]) <;> rfl
    · have c_8_2 : ¬ (0 ≤ b.toInt ∧ b.toInt ≤ 9) := c_8_2
      refine V_if_ne_f (pc := 11) (tgt := 16) dX11_road_11 (by decide) (by decide) ?_
      refine V_iconst (pc := 14) (v := (-1)) dX11_road_14 rfl ?_
      refine V_iret (pc := 15) rfl rfl dX11_road_15 (by omega) (by omega) ?_
      refine ⟨fun X' r' hq => ?_, fun a h1 h2 => ?_, hw, ⟨_, rfl⟩⟩
      · obtain ⟨v0, e0, rfl⟩ := hq
        unfold sRoad at e0
        (repeat' split at e0) <;> first | (exfalso; omega) | (obtain ⟨rfl, rfl⟩ := Prod.mk.inj e0; exact ⟨by (exact rfl), by (exact JZ_le hJ (by omega))⟩)
      · (repeat first | rw [up2_o (by omega)] | rw [cpF_r (by omega)] | rw [uph_o (by omega)]) <;> rfl
  · have c_1_1 : ¬ (0 ≤ a.toInt ∧ a.toInt ≤ 9) := c_1_1
    refine V_if_eq_t (pc := 4) (tgt := 14) dX11_road_4 (by decide) (by decide) ?_
    refine V_iconst (pc := 14) (v := (-1)) dX11_road_14 rfl ?_
    refine V_iret (pc := 15) rfl rfl dX11_road_15 (by omega) (by omega) ?_
    refine ⟨fun X' r' hq => ?_, fun a h1 h2 => ?_, hw, ⟨_, rfl⟩⟩
    · obtain ⟨v0, e0, rfl⟩ := hq
      unfold sRoad at e0
      (repeat' split at e0) <;> first | (exfalso; omega) | (obtain ⟨rfl, rfl⟩ := Prod.mk.inj e0; exact ⟨by (exact rfl), by (exact JZ_le hJ (by omega))⟩)
    · (repeat first | rw [up2_o (by omega)] | rw [cpF_r (by omega)] | rw [uph_o (by omega)]) <;> rfl
set_option maxRecDepth 100000 in
set_option maxHeartbeats 4000000 in
theorem c_X2_init (G : vG) {n : Nat} {sh : vS} {I : vI} {L : vL} {R : vR} (j : Nat) (p : Int32) (hj : j < n) (hsj : (sh j).1 = 2) : CT G yX2_init cX2_init 2 (none) 1 0 0 [.ref (ad G j), .int p] n sh I L R (PI n sh L R (fun I' r => up2 I j 0 p = I' ∧ r = none)) := by
  refine CT_of (own := RX2) (ini := true) (lo := [(0, .ref (ad G j)), (1, .int p)]) mf_X2_init (Nat.le_of_ble_eq_true rfl) rfl (fun h => by first | rfl | cases h) rfl ?_
  refine V_aload_n (pc := 0) 0 dX2_init_0 rfl rfl ?_
  refine V_objInit (pc := 1) mo_X2 mo_i mo_c dX2_init_1 (by omega) (Nat.le_of_ble_eq_true rfl) ?_
  refine V_aload_n (pc := 4) 0 dX2_init_4 rfl rfl ?_
  refine V_iload_n (pc := 5) 1 dX2_init_5 rfl rfl ?_
  refine V_putIF (pc := 6) rfl fw_X2_7_2 rfl rfl dX2_init_6 hj hsj ?_
  refine V_vret (pc := 9) rfl dX2_init_9 (by omega) (by omega) ?_
  exact ⟨rfl, rfl, rfl, rfl, rfl, rfl⟩
set_option maxRecDepth 100000 in
set_option maxHeartbeats 4000000 in
theorem c_X11_control (G : vG) {n : Nat} {sh : vS} {I : vI} {L : vL} {R : vR} (t : Int) (X : vI) (p : Int32) (hJ : JZ t n sh I L R X) : CT G yX11_control cX11_control 2 (some .int) 2 1 6 [.ref (ad G 0), .int p] n sh I L R (ZP t I (qi (sControl X p))) := by
  refine CT_of (own := RX11) (ini := false) (lo := [(0, .ref (ad G 0)), (1, .int p)]) mf_X11_control (Nat.le_of_ble_eq_true rfl) rfl (fun h => by first | rfl | cases h) rfl ?_
  obtain ⟨⟨hw, hR, hC, hK, hS, hT, hB, hQ, hY, hV⟩, hx⟩ := id hJ
  have c01 : (I 0 1).toInt = (X 27 1).toInt := by rw [hR.1]
  have c06 : (I 0 6).toInt = (X 27 30).toInt := by rw [hC.1]
  have c08 : (I 0 8).toInt = (X 27 35).toInt := by rw [hK.1]
  have c21 : (I 2 1).toInt = (X 27 12).toInt := by rw [hB.1]
  have b01 := hR.2.1
  have b30 := hC.2.1
  have b35 := hK.2.1
  have b12 := hB.2.2.1
  obtain ⟨cy2, cy3, cy6, b24, b27, b25, y13⟩ := JW_d hY
  refine V_aload_n (pc := 0) 0 dX11_control_0 rfl rfl ?_
  refine V_getR (pc := 1) (j := 11) fk_X11_34_11 (wR hw (i := 0) (k := 4) (j := 11) rfl) dX11_control_1 (wN hw (by decide)) (wS1 hw (by decide) rfl) ?_
  refine V_gI (pc := 4) (v := (I 11 2)) rfl fk_X11_150_10 dX11_control_4 (wN hw (by decide)) (wS1 hw (by decide) rfl) ?_
  refine V_if_ne (pc := 7) (tgt := 13) dX11_control_7 (by decide) (fun c_7_1 => ?_) (fun c_7_1 => ?_)
  · have c_7_1 : (I 11 2).toInt ≠ 0 := c_7_1
    refine V_iload_n (pc := 13) 1 dX11_control_13 rfl rfl ?_
    refine V_iconst (pc := 14) (v := 1) dX11_control_14 rfl ?_
    refine V_aload_n (pc := 15) 0 dX11_control_15 rfl rfl ?_
    refine V_getR (pc := 16) (j := 11) fk_X11_34_11 (wR hw (i := 0) (k := 4) (j := 11) rfl) dX11_control_16 (wN hw (by decide)) (wS1 hw (by decide) rfl) ?_
    refine V_gI (pc := 19) (v := (I 11 3)) rfl fk_X11_164_10 dX11_control_19 (wN hw (by decide)) (wS1 hw (by decide) rfl) ?_
    refine V_callS (pc := 22) (As := [.int p, .int 1, .int (I 11 3)]) (st := []) (c_X11_isWithin G p 1 (I 11 3)) mf_X11_isWithin ml_X11_61 st_X11_isWithin dX11_control_22 rfl rfl (by omega) (by omega) (by omega) (Nat.le_of_ble_eq_true rfl) (fun r_22_2 n_22_2 sh_22_2 I_22_2 L_22_2 R_22_2 hq_22_2 => ?_)
    obtain ⟨rfl, rfl, rfl, rfl, rfl, hq_22_2⟩ := hq_22_2
    rcases hq_22_2 with ⟨c_22_2, rfl⟩ | ⟨c_22_2, rfl⟩
    · have c_22_2 : 1 ≤ p.toInt ∧ p.toInt ≤ (I 11 3).toInt := c_22_2
      refine V_if_ne_t (pc := 25) (tgt := 31) dX11_control_25 (by decide) (by decide) ?_
      refine V_aload_n (pc := 31) 0 dX11_control_31 rfl rfl ?_
      refine V_iload_n (pc := 32) 1 dX11_control_32 rfl rfl ?_
      refine V_callV (pc := 33) (As := [.int p]) (st := []) (c_X11_isControlAt G X p hw hC) mf_X11_isControlAt ml_X11_183 iv_X11_isControlAt (wN hw (by decide)) (wS1 hw (by decide) rfl) (by decide) rfl dX11_control_33 rfl rfl (by omega) (by omega) (by omega) (Nat.le_of_ble_eq_true rfl) (fun r_33_3 n_33_3 sh_33_3 I_33_3 L_33_3 R_33_3 hq_33_3 => ?_)
      have hn56 := hw.1
      obtain ⟨rfl, rfl, rfl, rfl, rfl, hq_33_3⟩ := hq_33_3
      rcases hq_33_3 with ⟨hca, rfl⟩ | ⟨hca, rfl⟩
      · skip
        refine V_if_eq_f (pc := 36) (tgt := 42) dX11_control_36 (by decide) (by decide) ?_
        refine V_bipush (pc := 39) (v := (-3)) dX11_control_39 rfl ?_
        refine V_iret (pc := 41) rfl rfl dX11_control_41 (by omega) (by omega) ?_
        refine ⟨fun X' r' hq => ?_, fun z h1 h2 => rfl, hw, ⟨_, rfl⟩⟩
        obtain ⟨v0, e0, rfl⟩ := hq
        unfold sControl at e0
        rw [if_neg (by omega), if_neg (by omega), if_pos hca] at e0
        obtain ⟨rfl, rfl⟩ := Prod.mk.inj e0
        exact ⟨rfl, JZ_le hJ (by omega)⟩
      · skip
        refine V_if_eq_t (pc := 36) (tgt := 42) dX11_control_36 (by decide) (by decide) ?_
        refine V_aload_n (pc := 42) 0 dX11_control_42 rfl rfl ?_
        refine V_gI (pc := 43) (v := (I 0 6)) (by first | rfl | rw [up2_o (by omega), uph_o (by omega)]) fk_X11_186_11 dX11_control_43 (wN hw (by decide)) (wS1 hw (by decide) rfl) ?_
        refine V_bipush (pc := 46) (v := 8) dX11_control_46 rfl ?_
        refine V_icmp_lt (pc := 48) (tgt := 54) dX11_control_48 (by decide) (fun c_48_4 => ?_) (fun c_48_4 => ?_)
        · have c_48_4 : (I 0 6).toInt < 8 := c_48_4
          refine V_aload_n (pc := 54) 0 dX11_control_54 rfl rfl ?_
          refine V_getR (pc := 55) (j := 16) fk_X11_40_11 (wR hw (i := 0) (k := 5) (j := 16) rfl) dX11_control_55 (wN hw (by decide)) (wS1 hw (by decide) rfl) ?_
          refine V_aload_n (pc := 58) 0 dX11_control_58 rfl rfl ?_
          refine V_gI (pc := 59) (v := (I 0 6)) (by first | rfl | rw [up2_o (by omega), uph_o (by omega)]) fk_X11_186_11 dX11_control_59 (wN hw (by decide)) (wS1 hw (by decide) rfl) ?_
          refine V_new2 (pc := 62) ⟨kl_X11_38, kin_X2, kini_X2⟩ dX11_control_62 (by omega) (by omega) rfl rfl rfl rfl ?_
          have hw := WF_new (c := (2, 0)) hw
          refine V_dup (pc := 65) dX11_control_65 rfl ?_
          refine V_iload_n (pc := 66) 1 dX11_control_66 rfl rfl ?_
          refine V_callI (pc := 67) (As := [.int p]) (st := [.ref (ad G n), .int (I 0 6), .ref (ad G 16)]) (c_X2_init G n p (by omega) (by rw [uph_e])) mf_X2_init ml_X11_189 ii_X2_init dX11_control_67 rfl rfl (by omega) (by omega) (by omega) (Nat.le_of_ble_eq_true rfl) (fun r_67_5 n_67_5 sh_67_5 I_67_5 L_67_5 R_67_5 hq_67_5 => ?_)
          obtain ⟨rfl, rfl, rfl, rfl, rfl, rfl⟩ := hq_67_5
          refine V_aastO (pc := 70) (t := 3) (N := 8) (k := (I 0 6).toInt.toNat) dX11_control_70 (wN hw (by decide)) (wS hw (by decide) rfl) (by decide) rfl (show (n < n + 1 ∧ (uph sh n (2, 0) n).1 = 2) ∧ 2 < 13 ∧ vwCl[2]? = some _ from ⟨⟨by omega, by rw [uph_e]⟩, by decide, rfl⟩) (by omega) (by omega) ?_
          have hw := WF_u (w := some n) (c := (I 0 6).toInt.toNat) hw (by decide : 16 = 1 ∨ 16 = 16 ∨ 16 = 17)
          refine V_aload_n (pc := 71) 0 dX11_control_71 rfl rfl ?_
          refine V_dup (pc := 72) dX11_control_72 rfl ?_
          refine V_gI (pc := 73) (v := (I 0 6)) (by first | rfl | rw [up2_o (by omega), uph_o (by omega)]) fk_X11_186_11 dX11_control_73 (wN hw (by decide)) (wS1 hw (by decide) rfl) ?_
          refine V_iconst (pc := 76) (v := 1) dX11_control_76 rfl ?_
          refine V_iadd (pc := 77) dX11_control_77 (fun x_77_6 e_77_6 => ?_)
          have t_77_6 : x_77_6.toInt = (I 0 6).toInt + 1 := addT e_77_6 rfl rfl (by omega) (by omega)
          refine V_putI (pc := 78) fw_X11_186_11 rfl rfl dX11_control_78 (wN hw (by decide)) (wS1 hw (by decide) rfl) ?_
          refine V_aload_n (pc := 81) 0 dX11_control_81 rfl rfl ?_
          refine V_gI (pc := 82) (v := x_77_6) rfl fk_X11_186_11 dX11_control_82 (wN hw (by decide)) (wS1 hw (by decide) rfl) ?_
          refine V_iconst (pc := 85) (v := 1) dX11_control_85 rfl ?_
          refine V_isub (pc := 86) dX11_control_86 (fun x_86_7 e_86_7 => ?_)
          have t_86_7 : x_86_7.toInt = x_77_6.toInt - 1 := subT e_86_7 rfl rfl (by omega) (by omega)
          refine V_iret (pc := 87) rfl rfl dX11_control_87 (by omega) (by omega) ?_
          refine ⟨fun X' r' hq => ?_, fun z h1 h2 => ?_, hw, ⟨_, rfl⟩⟩
          · obtain ⟨v0, e0, rfl⟩ := hq
            unfold sControl at e0
            rw [if_neg (by omega), if_neg (by omega), if_neg hca, if_neg (by omega)] at e0
            obtain ⟨rfl, rfl⟩ := Prod.mk.inj e0
            refine ⟨by rw [e_86_7, e_77_6, hC.1], ?_⟩
            have ek : (I 0 6).toInt.toNat = (X 27 30).toInt.toNat := by rw [hC.1]
            rw [e_77_6, hC.1]
            exact JZ_le (JZ_control (X 27 30).toInt.toNat p (X 27 30 + 1) hJ (by omega) (by omega) (by omega) rfl) (by omega)
          · (repeat first | rw [up2_o (by omega)] | rw [cpF_r (by omega)] | rw [uph_o (by omega)]) <;> rfl
        · have c_48_4 : 8 ≤ (I 0 6).toInt := c_48_4
          refine V_bipush (pc := 51) (v := (-4)) dX11_control_51 rfl ?_
          refine V_iret (pc := 53) rfl rfl dX11_control_53 (by omega) (by omega) ?_
          refine ⟨fun X' r' hq => ?_, fun z h1 h2 => rfl, hw, ⟨_, rfl⟩⟩
          obtain ⟨v0, e0, rfl⟩ := hq
          unfold sControl at e0
          rw [if_neg (by omega), if_neg (by omega), if_neg hca, if_pos (by omega)] at e0
          obtain ⟨rfl, rfl⟩ := Prod.mk.inj e0
          exact ⟨rfl, JZ_le hJ (by omega)⟩
    · have c_22_2 : ¬ (1 ≤ p.toInt ∧ p.toInt ≤ (I 11 3).toInt) := c_22_2
      refine V_if_ne_f (pc := 25) (tgt := 31) dX11_control_25 (by decide) (by decide) ?_
      refine V_bipush (pc := 28) (v := (-2)) dX11_control_28 rfl ?_
      refine V_iret (pc := 30) rfl rfl dX11_control_30 (by omega) (by omega) ?_
      refine ⟨fun X' r' hq => ?_, fun z h1 h2 => rfl, hw, ⟨_, rfl⟩⟩
      obtain ⟨v0, e0, rfl⟩ := hq
      unfold sControl at e0
      rw [if_neg (by omega), if_pos (by omega)] at e0
      obtain ⟨rfl, rfl⟩ := Prod.mk.inj e0
      exact ⟨rfl, JZ_le hJ (by omega)⟩
  · have c_7_1 : (I 11 2).toInt = 0 := c_7_1
    refine V_bipush (pc := 10) (v := (-3)) dX11_control_10 rfl ?_
    refine V_iret (pc := 12) rfl rfl dX11_control_12 (by omega) (by omega) ?_
    refine ⟨fun X' r' hq => ?_, fun z h1 h2 => rfl, hw, ⟨_, rfl⟩⟩
    obtain ⟨v0, e0, rfl⟩ := hq
    unfold sControl at e0
    rw [if_pos (by omega)] at e0
    obtain ⟨rfl, rfl⟩ := Prod.mk.inj e0
    exact ⟨rfl, JZ_le hJ (by omega)⟩
set_option maxRecDepth 100000 in
set_option maxHeartbeats 4000000 in
theorem c_X1_init (G : vG) {n : Nat} {sh : vS} {I : vI} {L : vL} {R : vR} (j : Nat) (num s : Int32) (hj : j < n) (hcj : (sh j).1 = 1 ∨ (sh j).1 = 5 ∨ (sh j).1 = 4) : CT G yX1_init cX1_init 3 (none) 1 3 24 [.ref (ad G j), .int num, .int s] n sh I L R (CarP n sh I L R j num s) := by
  refine CT_of (own := RX1) (ini := true) (lo := [(0, .ref (ad G j)), (1, .int num), (2, .int s)]) mf_X1_init (Nat.le_of_ble_eq_true rfl) rfl (fun h => by first | rfl | cases h) rfl ?_
  refine V_aload_n (pc := 0) 0 dX1_init_0 rfl rfl ?_
  refine V_objInit (pc := 1) mo_X1 mo_i mo_c dX1_init_1 (by omega) (Nat.le_of_ble_eq_true rfl) ?_
  refine V_aload_n (pc := 4) 0 dX1_init_4 rfl rfl ?_
  refine V_bipush (pc := 5) (v := 8) dX1_init_5 rfl ?_
  refine V_newa (pc := 7) (t := 0) (ty := .int) (N := 8) rfl rfl (by decide) rfl kac_int dX1_init_7 rfl (Nat.le_of_ble_eq_true rfl) (by omega) (by omega) rfl rfl rfl rfl ?_
  refine V_putRF (pc := 9) rfl (fw_X1_9_s (by (repeat rw [uph_o (by omega)]) <;> exact hcj)) rfl rfl dX1_init_9 (by omega) rfl ?_
  refine V_aload_n (pc := 12) 0 dX1_init_12 rfl rfl ?_
  refine V_bipush (pc := 13) (v := 8) dX1_init_13 rfl ?_
  refine V_newa (pc := 15) (t := 0) (ty := .int) (N := 8) rfl rfl (by decide) rfl kac_int dX1_init_15 rfl (Nat.le_of_ble_eq_true rfl) (by omega) (by omega) rfl rfl rfl rfl ?_
  refine V_putRF (pc := 17) rfl (fw_X1_15_s (by (repeat rw [uph_o (by omega)]) <;> exact hcj)) rfl rfl dX1_init_17 (by omega) rfl ?_
  refine V_aload_n (pc := 20) 0 dX1_init_20 rfl rfl ?_
  refine V_bipush (pc := 21) (v := 8) dX1_init_21 rfl ?_
  refine V_newa (pc := 23) (t := 0) (ty := .int) (N := 8) rfl rfl (by decide) rfl kac_int dX1_init_23 rfl (Nat.le_of_ble_eq_true rfl) (by omega) (by omega) rfl rfl rfl rfl ?_
  refine V_putRF (pc := 25) rfl (fw_X1_18_s (by (repeat rw [uph_o (by omega)]) <;> exact hcj)) rfl rfl dX1_init_25 (by omega) rfl ?_
  refine V_aload_n (pc := 28) 0 dX1_init_28 rfl rfl ?_
  refine V_iload_n (pc := 29) 1 dX1_init_29 rfl rfl ?_
  refine V_putIF (pc := 30) rfl (fw_X1_21_s (by (repeat rw [uph_o (by omega)]) <;> exact hcj)) rfl rfl dX1_init_30 (by omega) rfl ?_
  refine V_aload_n (pc := 33) 0 dX1_init_33 rfl rfl ?_
  refine V_iload_n (pc := 34) 2 dX1_init_34 rfl rfl ?_
  refine V_putIF (pc := 35) rfl (fw_X1_25_s (by (repeat rw [uph_o (by omega)]) <;> exact hcj)) rfl rfl dX1_init_35 (by omega) rfl ?_
  refine V_vret (pc := 38) rfl dX1_init_38 (by omega) (by omega) ?_
  refine ⟨rfl, rfl, fun i hi => ?_, ?_, ?_, ?_, fun i hi hij => ?_, ?_, ?_, fun b h0 h1 => ?_, fun c => ?_, fun c => ?_, fun i hi => ?_, fun i hi hij => ?_, ?_, ?_, ?_⟩ <;> (repeat first | rw [up2_o (by omega)] | rw [uph_o (by omega)] | rw [uph_e] | rw [up2_e] | rw [up2_k (by omega)])
set_option maxRecDepth 100000 in
set_option maxHeartbeats 4000000 in
theorem c_X5_init (G : vG) {n : Nat} {sh : vS} {I : vI} {L : vL} {R : vR} (j : Nat) (num s : Int32) (hj : j < n) (hcj : (sh j).1 = 1 ∨ (sh j).1 = 5 ∨ (sh j).1 = 4) : CT G yX5_init cX5_init 3 (none) 2 3 24 [.ref (ad G j), .int num, .int s] n sh I L R (CarP n sh I L R j num s) := by
  refine CT_of (own := RX5) (ini := true) (lo := [(0, .ref (ad G j)), (1, .int num), (2, .int s)]) mf_X5_init (Nat.le_of_ble_eq_true rfl) rfl (fun h => by first | rfl | cases h) rfl ?_
  refine V_aload_n (pc := 0) 0 dX5_init_0 rfl rfl ?_
  refine V_iload_n (pc := 1) 1 dX5_init_1 rfl rfl ?_
  refine V_iload_n (pc := 2) 2 dX5_init_2 rfl rfl ?_
  refine V_callI (pc := 3) (As := [.int num, .int s]) (st := []) (c_X1_init G j num s hj hcj) mf_X1_init ml_X5_1 ii_X1_init dX5_init_3 rfl rfl (by omega) (by omega) (by omega) (Nat.le_of_ble_eq_true rfl) (fun r_3_1 n_3_1 sh_3_1 I_3_1 L_3_1 R_3_1 hq_3_1 => ?_)
  obtain rfl := hq_3_1.1
  refine V_vret (pc := 6) rfl dX5_init_6 (by omega) (by omega) ?_
  exact hq_3_1
set_option maxRecDepth 100000 in
set_option maxHeartbeats 4000000 in
theorem c_X4_init (G : vG) {n : Nat} {sh : vS} {I : vI} {L : vL} {R : vR} (j : Nat) (num s : Int32) (hj : j < n) (hcj : (sh j).1 = 1 ∨ (sh j).1 = 5 ∨ (sh j).1 = 4) : CT G yX4_init cX4_init 3 (none) 3 3 24 [.ref (ad G j), .int num, .int s] n sh I L R (CarP n sh I L R j num s) := by
  refine CT_of (own := RX4) (ini := true) (lo := [(0, .ref (ad G j)), (1, .int num), (2, .int s)]) mf_X4_init (Nat.le_of_ble_eq_true rfl) rfl (fun h => by first | rfl | cases h) rfl ?_
  refine V_aload_n (pc := 0) 0 dX4_init_0 rfl rfl ?_
  refine V_iload_n (pc := 1) 1 dX4_init_1 rfl rfl ?_
  refine V_iload_n (pc := 2) 2 dX4_init_2 rfl rfl ?_
  refine V_callI (pc := 3) (As := [.int num, .int s]) (st := []) (c_X5_init G j num s hj hcj) mf_X5_init ml_X4_3 ii_X5_init dX4_init_3 rfl rfl (by omega) (by omega) (by omega) (Nat.le_of_ble_eq_true rfl) (fun r_3_1 n_3_1 sh_3_1 I_3_1 L_3_1 R_3_1 hq_3_1 => ?_)
  obtain rfl := hq_3_1.1
  refine V_vret (pc := 6) rfl dX4_init_6 (by omega) (by omega) ?_
  exact hq_3_1
set_option maxRecDepth 100000 in
set_option maxHeartbeats 4000000 in
theorem c_X11_newCar (G : vG) {n : Nat} {sh : vS} {I : vI} {L : vL} {R : vR} (num s k : Int32) (hk : 0 ≤ k.toInt ∧ k.toInt ≤ 2) : CT G yX11_newCar cX11_newCar 3 (some (.object "RegularRally$Car")) 4 4 30 [.int num, .int s, .int k] n sh I L R (fun r n' sh' I' L' R' => r = some (.ref (ad G n)) ∧ CarP (n + 1) (uph sh n (crC k.toInt, 0)) (uph I n (fun _ => 0)) (uph L n (fun _ => 0)) (uph R n (fun _ => none)) n num s none n' sh' I' L' R') := by
  refine CT_of (own := RX11) (ini := false) (lo := [(0, .int num), (1, .int s), (2, .int k)]) mf_X11_newCar (Nat.le_of_ble_eq_true rfl) rfl (fun h => by first | rfl | cases h) rfl ?_
  refine V_iload_n (pc := 0) 2 dX11_newCar_0 rfl rfl ?_
  refine V_iconst (pc := 1) (v := 1) dX11_newCar_1 rfl ?_
  refine V_icmp_ne (pc := 2) (tgt := 15) dX11_newCar_2 (by decide) (fun c_2_1 => ?_) (fun c_2_1 => ?_)
  · have c_2_1 : k.toInt ≠ 1 := c_2_1
    refine V_iload_n (pc := 15) 2 dX11_newCar_15 rfl rfl ?_
    refine V_iconst (pc := 16) (v := 2) dX11_newCar_16 rfl ?_
    refine V_icmp_ne (pc := 17) (tgt := 30) dX11_newCar_17 (by decide) (fun c_17_2 => ?_) (fun c_17_2 => ?_)
    · have c_17_2 : k.toInt ≠ 2 := c_17_2
      refine V_new1 (pc := 30) ⟨kl_X11_44, kin_X1, kini_X1⟩ dX11_newCar_30 (by omega) (by omega) rfl rfl rfl rfl ?_
      refine V_dup (pc := 33) dX11_newCar_33 rfl ?_
      refine V_iload_n (pc := 34) 0 dX11_newCar_34 rfl rfl ?_
      refine V_iload_n (pc := 35) 1 dX11_newCar_35 rfl rfl ?_
      refine V_callI (pc := 36) (As := [.int num, .int s]) (st := [.ref (ad G n)]) (c_X1_init G n num s (by omega) (by rw [uph_e]; decide)) mf_X1_init ml_X11_377 ii_X1_init dX11_newCar_36 rfl rfl (by omega) (by omega) (by omega) (Nat.le_of_ble_eq_true rfl) (fun r_36_3 n_36_3 sh_36_3 I_36_3 L_36_3 R_36_3 hq_36_3 => ?_)
      obtain rfl := hq_36_3.1
      refine V_aret (pc := 39) rfl (Or.inr ⟨_, rfl⟩) dX11_newCar_39 (by omega) (by omega) ?_
      obtain rfl : k = 0 := ti_eq.mpr (by show _ = (0 : Int); omega)
      exact ⟨rfl, hq_36_3⟩
    · have c_17_2 : k.toInt = 2 := c_17_2
      refine V_new4 (pc := 20) ⟨kl_X11_374, kin_X4, kini_X4⟩ dX11_newCar_20 (by omega) (by omega) rfl rfl rfl rfl ?_
      refine V_dup (pc := 23) dX11_newCar_23 rfl ?_
      refine V_iload_n (pc := 24) 0 dX11_newCar_24 rfl rfl ?_
      refine V_iload_n (pc := 25) 1 dX11_newCar_25 rfl rfl ?_
      refine V_callI (pc := 26) (As := [.int num, .int s]) (st := [.ref (ad G n)]) (c_X4_init G n num s (by omega) (by rw [uph_e]; decide)) mf_X4_init ml_X11_376 ii_X4_init dX11_newCar_26 rfl rfl (by omega) (by omega) (by omega) (Nat.le_of_ble_eq_true rfl) (fun r_26_4 n_26_4 sh_26_4 I_26_4 L_26_4 R_26_4 hq_26_4 => ?_)
      obtain rfl := hq_26_4.1
      refine V_aret (pc := 29) rfl (Or.inr ⟨_, rfl⟩) dX11_newCar_29 (by omega) (by omega) ?_
      obtain rfl : k = 2 := ti_eq.mpr (by show _ = (2 : Int); omega)
      exact ⟨rfl, hq_26_4⟩
  · have c_2_1 : k.toInt = 1 := c_2_1
    refine V_new5 (pc := 5) ⟨kl_X11_370, kin_X5, kini_X5⟩ dX11_newCar_5 (by omega) (by omega) rfl rfl rfl rfl ?_
    refine V_dup (pc := 8) dX11_newCar_8 rfl ?_
    refine V_iload_n (pc := 9) 0 dX11_newCar_9 rfl rfl ?_
    refine V_iload_n (pc := 10) 1 dX11_newCar_10 rfl rfl ?_
    refine V_callI (pc := 11) (As := [.int num, .int s]) (st := [.ref (ad G n)]) (c_X5_init G n num s (by omega) (by rw [uph_e]; decide)) mf_X5_init ml_X11_372 ii_X5_init dX11_newCar_11 rfl rfl (by omega) (by omega) (by omega) (Nat.le_of_ble_eq_true rfl) (fun r_11_5 n_11_5 sh_11_5 I_11_5 L_11_5 R_11_5 hq_11_5 => ?_)
    obtain rfl := hq_11_5.1
    refine V_aret (pc := 14) rfl (Or.inr ⟨_, rfl⟩) dX11_newCar_14 (by omega) (by omega) ?_
    obtain rfl : k = 1 := ti_eq.mpr (by show _ = (1 : Int); omega)
    exact ⟨rfl, hq_11_5⟩
set_option maxRecDepth 100000 in
set_option maxHeartbeats 4000000 in
theorem c_X11_car (G : vG) {n : Nat} {sh : vS} {I : vI} {L : vL} {R : vR} (t : Int) (X : vI) (s kd : Int32) (hJ : JZ t n sh I L R X) : CT G yX11_car cX11_car 3 (some .int) 5 4 30 [.ref (ad G 0), .int s, .int kd] n sh I L R (ZP t I (qi (sCar X s kd))) := by
  refine CT_of (own := RX11) (ini := false) (lo := [(0, .ref (ad G 0)), (1, .int s), (2, .int kd)]) mf_X11_car (Nat.le_of_ble_eq_true rfl) rfl (fun h => by first | rfl | cases h) rfl ?_
  obtain ⟨⟨hw, hR, hC, hK, hS, hT, hB, hQ, hY, hV⟩, hx⟩ := id hJ
  have c01 : (I 0 1).toInt = (X 27 1).toInt := by rw [hR.1]
  have c06 : (I 0 6).toInt = (X 27 30).toInt := by rw [hC.1]
  have c08 : (I 0 8).toInt = (X 27 35).toInt := by rw [hK.1]
  have c21 : (I 2 1).toInt = (X 27 12).toInt := by rw [hB.1]
  have b01 := hR.2.1
  have b30 := hC.2.1
  have b35 := hK.2.1
  have b12 := hB.2.2.1
  obtain ⟨cy2, cy3, cy6, b24, b27, b25, y13⟩ := JW_d hY
  refine V_iload_n (pc := 0) 1 dX11_car_0 rfl rfl ?_
  refine V_iconst (pc := 1) (v := 0) dX11_car_1 rfl ?_
  refine V_ldc (pc := 2) dX11_car_2 kk_X11_213 ?_
  refine V_callS (pc := 4) (As := [.int s, .int 0, .int 500000]) (st := []) (c_X11_isWithin G s 0 500000) mf_X11_isWithin ml_X11_61 st_X11_isWithin dX11_car_4 rfl rfl (by omega) (by omega) (by omega) (Nat.le_of_ble_eq_true rfl) (fun r_4_1 n_4_1 sh_4_1 I_4_1 L_4_1 R_4_1 hq_4_1 => ?_)
  obtain ⟨rfl, rfl, rfl, rfl, rfl, hq_4_1⟩ := hq_4_1
  rcases hq_4_1 with ⟨c_4_1, rfl⟩ | ⟨c_4_1, rfl⟩
  · have c_4_1 : 0 ≤ s.toInt ∧ s.toInt ≤ 500000 := c_4_1
    refine V_if_eq_f (pc := 7) (tgt := 19) dX11_car_7 (by decide) (by decide) ?_
    refine V_iload_n (pc := 10) 2 dX11_car_10 rfl rfl ?_
    refine V_iconst (pc := 11) (v := 0) dX11_car_11 rfl ?_
    refine V_iconst (pc := 12) (v := 2) dX11_car_12 rfl ?_
    refine V_callS (pc := 13) (As := [.int kd, .int 0, .int 2]) (st := []) (c_X11_isWithin G kd 0 2) mf_X11_isWithin ml_X11_61 st_X11_isWithin dX11_car_13 rfl rfl (by omega) (by omega) (by omega) (Nat.le_of_ble_eq_true rfl) (fun r_13_2 n_13_2 sh_13_2 I_13_2 L_13_2 R_13_2 hq_13_2 => ?_)
    obtain ⟨rfl, rfl, rfl, rfl, rfl, hq_13_2⟩ := hq_13_2
    rcases hq_13_2 with ⟨c_13_2, rfl⟩ | ⟨c_13_2, rfl⟩
    · have c_13_2 : 0 ≤ kd.toInt ∧ kd.toInt ≤ 2 := c_13_2
      refine V_if_ne_t (pc := 16) (tgt := 22) dX11_car_16 (by decide) (by decide) ?_
      refine V_aload_n (pc := 22) 0 dX11_car_22 rfl rfl ?_
      refine V_gI (pc := 23) (v := (I 0 8)) rfl fk_X11_214_11 dX11_car_23 (wN hw (by decide)) (wS1 hw (by decide) rfl) ?_
      refine V_bipush (pc := 26) (v := 8) dX11_car_26 rfl ?_
      refine V_icmp_lt (pc := 28) (tgt := 34) dX11_car_28 (by decide) (fun c_28_3 => ?_) (fun c_28_3 => ?_)
      · have c_28_3 : (I 0 8).toInt < 8 := c_28_3
        refine V_aload_n (pc := 34) 0 dX11_car_34 rfl rfl ?_
        refine V_getR (pc := 35) (j := 17) fk_X11_46_11 (wR hw (i := 0) (k := 7) (j := 17) rfl) dX11_car_35 (wN hw (by decide)) (wS1 hw (by decide) rfl) ?_
        refine V_aload_n (pc := 38) 0 dX11_car_38 rfl rfl ?_
        refine V_gI (pc := 39) (v := (I 0 8)) rfl fk_X11_214_11 dX11_car_39 (wN hw (by decide)) (wS1 hw (by decide) rfl) ?_
        refine V_aload_n (pc := 42) 0 dX11_car_42 rfl rfl ?_
        refine V_gI (pc := 43) (v := (I 0 8)) rfl fk_X11_214_11 dX11_car_43 (wN hw (by decide)) (wS1 hw (by decide) rfl) ?_
        refine V_iload_n (pc := 46) 1 dX11_car_46 rfl rfl ?_
        refine V_iload_n (pc := 47) 2 dX11_car_47 rfl rfl ?_
        refine V_callS (pc := 48) (As := [.int (I 0 8), .int s, .int kd]) (st := [.int (I 0 8), .ref (ad G 17)]) (c_X11_newCar G (I 0 8) s kd (by omega)) mf_X11_newCar ml_X11_217 st_X11_newCar dX11_car_48 rfl rfl (by omega) (by omega) (by omega) (Nat.le_of_ble_eq_true rfl) (fun r_48_4 n_48_4 sh9 I9 L9 R9 hq_48_4 => ?_)
        obtain ⟨rfl, -, rfl, p1, p2, p3, p4, p5, p6, p7, p8, p9, q1, q2, q3, q4, q5, q6⟩ := hq_48_4
        have hn56 := hw.1
        have hw9 : WF (n + 1 + 3) sh9 R9 := FWf hw (by omega) (fun i hi => (p1 i (by omega)).trans (uph_o (by omega))) (fun i k j e => by have z := rF_56 e; rw [q3 i (by omega) (by omega), uph_o (by omega)])
        have hw := hw9
        have i0 : ∀ b, I9 0 b = I 0 b := fun b => by rw [p5 0 (by omega) (by omega), uph_o (by omega)]
        have i08 : (I9 0 8).toInt = (X 27 35).toInt := by rw [i0]; exact c08
        refine V_aastP (pc := 51) (t := 4) (N := 8) (k := (I 0 8).toInt.toNat) dX11_car_51 (wN hw (by decide)) (wS hw (by decide) rfl) (by decide) rfl (show n < n + 1 + 3 ∧ sh9 n = (crC kd.toInt, 0) from ⟨by omega, (p1 n (by omega)).trans uph_e⟩) (by omega) (by omega) ?_
        have hw := WF_u (w := some n) (c := (I 0 8).toInt.toNat) hw (by decide : 17 = 1 ∨ 17 = 16 ∨ 17 = 17)
        refine V_aload_n (pc := 52) 0 dX11_car_52 rfl rfl ?_
        refine V_dup (pc := 53) dX11_car_53 rfl ?_
        refine V_gI (pc := 54) (v := (I9 0 8)) rfl fk_X11_214_11 dX11_car_54 (wN hw (by decide)) (wS1 hw (by decide) rfl) ?_
        refine V_iconst (pc := 57) (v := 1) dX11_car_57 rfl ?_
        refine V_iadd (pc := 58) dX11_car_58 (fun x_58_5 e_58_5 => ?_)
        have t_58_5 : x_58_5.toInt = (I9 0 8).toInt + 1 := addT e_58_5 rfl rfl (by omega) (by omega)
        refine V_putI (pc := 59) fw_X11_214_11 rfl rfl dX11_car_59 (wN hw (by decide)) (wS1 hw (by decide) rfl) ?_
        refine V_aload_n (pc := 62) 0 dX11_car_62 rfl rfl ?_
        refine V_gI (pc := 63) (v := x_58_5) rfl fk_X11_214_11 dX11_car_63 (wN hw (by decide)) (wS1 hw (by decide) rfl) ?_
        refine V_iconst (pc := 66) (v := 1) dX11_car_66 rfl ?_
        refine V_isub (pc := 67) dX11_car_67 (fun x_67_6 e_67_6 => ?_)
        have t_67_6 : x_67_6.toInt = x_58_5.toInt - 1 := subT e_67_6 rfl rfl (by omega) (by omega)
        refine V_iret (pc := 68) rfl rfl dX11_car_68 (by omega) (by omega) ?_
        refine ⟨fun X' r' hq => ?_, fun z h1 h2 => ?_, hw, ⟨_, rfl⟩⟩
        · obtain ⟨v0, e0, rfl⟩ := hq
          unfold sCar at e0
          rw [if_neg (by omega), if_neg (by omega)] at e0
          obtain ⟨rfl, rfl⟩ := Prod.mk.inj e0
          refine ⟨by rw [e_67_6, e_58_5, i0, hK.1], ?_⟩
          have ek : (I 0 8).toInt.toNat = (X 27 35).toInt.toNat := by rw [hK.1]
          refine JZ_le (JZ_car (n := n) (sh := sh) (I := I) (L := L) (R := R) (X := X) (X 27 35).toInt.toNat s kd (X 27 35 + 1) (I 0 8) hJ (by omega) (by omega) rfl (by omega) (by omega) (by omega) (by omega) (fun i hi => (p1 i (by omega)).trans (uph_o (by omega))) ((p1 n (by omega)).trans uph_e) p2 p3 p4 (fun i hi h0 => ?_) (fun b hb => ?_) ?_ ?_ ?_ ?_ (fun c => ?_) (fun c => ?_) (fun i hi => ?_) (fun i hi h17 => ?_) (fun a ha => ?_) ?_ ?_ ?_ ?_) (by omega)
          · rw [up2_o h0, p5 i (by omega) (by omega), uph_o (by omega)]
          · rw [up2_k hb]; exact i0 b
          · rw [up2_e, e_58_5, i0, hK.1]
          · rw [up2_o (by omega)]; exact p6
          · rw [up2_o (by omega)]; exact p7
          · rw [up2_o (by omega), p8 4 (by decide) (by decide), uph_e]
          · rw [up2_o (by omega)]; exact p9 c
          · rw [up2_o (by omega)]; exact q1 c
          · rw [q2 i (by omega), uph_o (by omega)]
          · rw [up2_o h17, q3 i (by omega) (by omega), uph_o (by omega)]
          · rw [up2_k (by omega), q3 17 (by omega) (by omega), uph_o (by omega)]
          · rw [show (X 27 35).toInt.toNat = (I 0 8).toInt.toNat from ek.symm]; exact up2_e
          · rw [up2_o (by omega)]; exact q4
          · rw [up2_o (by omega)]; exact q5
          · rw [up2_o (by omega)]; exact q6
        · rw [up2_o (by omega), p5 z (by omega) (by omega), uph_o (by omega)]
      · have c_28_3 : 8 ≤ (I 0 8).toInt := c_28_3
        refine V_bipush (pc := 31) (v := (-4)) dX11_car_31 rfl ?_
        refine V_iret (pc := 33) rfl rfl dX11_car_33 (by omega) (by omega) ?_
        refine ⟨fun X' r' hq => ?_, fun a h1 h2 => ?_, hw, ⟨_, rfl⟩⟩
        · obtain ⟨v0, e0, rfl⟩ := hq
          unfold sCar at e0
          (repeat' split at e0) <;> first | (exfalso; omega) | (obtain ⟨rfl, rfl⟩ := Prod.mk.inj e0; exact ⟨by (exact rfl), by (exact JZ_le hJ (by omega))⟩)
        · (repeat first | rw [up2_o (by omega)] | rw [cpF_r (by omega)] | rw [uph_o (by omega)]) <;> rfl
    · have c_13_2 : ¬ (0 ≤ kd.toInt ∧ kd.toInt ≤ 2) := c_13_2
      refine V_if_ne_f (pc := 16) (tgt := 22) dX11_car_16 (by decide) (by decide) ?_
      refine V_bipush (pc := 19) (v := (-2)) dX11_car_19 rfl ?_
      refine V_iret (pc := 21) rfl rfl dX11_car_21 (by omega) (by omega) ?_
      refine ⟨fun X' r' hq => ?_, fun a h1 h2 => ?_, hw, ⟨_, rfl⟩⟩
      · obtain ⟨v0, e0, rfl⟩ := hq
        unfold sCar at e0
        (repeat' split at e0) <;> first | (exfalso; omega) | (obtain ⟨rfl, rfl⟩ := Prod.mk.inj e0; exact ⟨by (exact rfl), by (exact JZ_le hJ (by omega))⟩)
      · (repeat first | rw [up2_o (by omega)] | rw [cpF_r (by omega)] | rw [uph_o (by omega)]) <;> rfl
  · have c_4_1 : ¬ (0 ≤ s.toInt ∧ s.toInt ≤ 500000) := c_4_1
    refine V_if_eq_t (pc := 7) (tgt := 19) dX11_car_7 (by decide) (by decide) ?_
    refine V_bipush (pc := 19) (v := (-2)) dX11_car_19 rfl ?_
    refine V_iret (pc := 21) rfl rfl dX11_car_21 (by omega) (by omega) ?_
    refine ⟨fun X' r' hq => ?_, fun a h1 h2 => ?_, hw, ⟨_, rfl⟩⟩
    · obtain ⟨v0, e0, rfl⟩ := hq
      unfold sCar at e0
      (repeat' split at e0) <;> first | (exfalso; omega) | (obtain ⟨rfl, rfl⟩ := Prod.mk.inj e0; exact ⟨by (exact rfl), by (exact JZ_le hJ (by omega))⟩)
    · (repeat first | rw [up2_o (by omega)] | rw [cpF_r (by omega)] | rw [uph_o (by omega)]) <;> rfl
