set_option maxRecDepth 100000 in
set_option maxHeartbeats 4000000 in
theorem c_X11_clock (G : vG) {n : Nat} {sh : vS} {I : vI} {L : vL} {R : vR} (t : Int) (X : vI) (car c t0 : Int32) (hJ : JZ t n sh I L R X) (ht : t < 1000000) : CT G yX11_clock cX11_clock 5 (some .int) 2 0 0 [.ref (ad G 0), .int car, .int c, .int t0] n sh I L R (ZP t I (qi (sClock X car c t0))) := by
  refine CT_of (own := RX11) (ini := false) (lo := [(0, .ref (ad G 0)), (1, .int car), (2, .int c), (3, .int t0)]) mf_X11_clock (Nat.le_of_ble_eq_true rfl) rfl (fun h => by first | rfl | cases h) rfl ?_
  obtain ⟨⟨hw, hR, hC, hK, hS, hT, hB, hQ, hY, hV⟩, hx⟩ := id hJ
  have c01 : (I 0 1).toInt = (X 27 1).toInt := by rw [hR.1]
  have c06 : (I 0 6).toInt = (X 27 30).toInt := by rw [hC.1]
  have c08 : (I 0 8).toInt = (X 27 35).toInt := by rw [hK.1]
  have c21 : (I 2 1).toInt = (X 27 12).toInt := by rw [hB.1]
  have b01 := hR.2.1
  have b30 := hC.2.1
  have b35 := hK.2.1
  have b12 := hB.2.2.1
  obtain ⟨cy2, cy3, cy6, b24, b27, b25, y13⟩ := JW_d hY
  refine V_aload_n (pc := 0) 0 dX11_clock_0 rfl rfl ?_
  refine V_iload_n (pc := 1) 1 dX11_clock_1 rfl rfl ?_
  refine V_callV (pc := 2) (As := [.int car]) (st := []) (c_X11_carOf G X car hw hK) mf_X11_carOf ml_X11_221 iv_X11_carOf (wN hw (by decide)) (wS1 hw (by decide) rfl) (by decide) rfl dX11_clock_2 rfl rfl (by omega) (by omega) (by omega) (Nat.le_of_ble_eq_true rfl) (fun r_2_1 n_2_1 sh_2_1 I_2_1 L_2_1 R_2_1 hq_2_1 => ?_)
  obtain ⟨rfl, rfl, rfl, rfl, rfl, hq_2_1⟩ := hq_2_1
  rcases hq_2_1 with ⟨c_2_1, rfl⟩ | ⟨c_2_1, rfl⟩
  · have c_2_1 : ¬ (0 ≤ car.toInt ∧ car.toInt < (X 27 35).toInt) := c_2_1
    refine V_astoreN (pc := 5) (lo' := [(0, .ref (ad G 0)), (1, .int car), (2, .int c), (3, .int t0), (4, .null)]) dX11_clock_5 (by decide) rfl ?_
    refine V_aloadN (pc := 7) 4 dX11_clock_7 rfl ?_
    refine V_ifnull_n (pc := 9) (tgt := 20) dX11_clock_9 (by decide) ?_
    refine V_iconst (pc := 20) (v := (-1)) dX11_clock_20 rfl ?_
    refine V_iret (pc := 21) rfl rfl dX11_clock_21 (by omega) (by omega) ?_
    refine ⟨fun X' r' hq => ?_, fun a h1 h2 => ?_, hw, ⟨_, rfl⟩⟩
    · obtain ⟨v0, e0, rfl⟩ := hq
      unfold sClock isCar isCtl isTm at e0
      (repeat' split at e0) <;> first | (exfalso; omega) | (obtain ⟨rfl, rfl⟩ := Prod.mk.inj e0; exact ⟨by (exact rfl), by (exact JZ_le hJ (by omega))⟩)
    · (repeat first | rw [up2_o (by omega)] | rw [cpF_r (by omega)] | rw [uph_o (by omega)]) <;> rfl
  · have c_2_1 : 0 ≤ car.toInt ∧ car.toInt < (X 27 35).toInt := c_2_1
    have hdk := hK.2.2.1 car.toInt.toNat (by omega)
    have hk56 := hdk.2.1
    have hkn := hdk.2.2.1
    have hks := kdS hdk
    refine V_astore (pc := 5) (lo' := [(0, .ref (ad G 0)), (1, .int car), (2, .int c), (3, .int t0), (4, .ref (ad G (oj R 17 car.toInt.toNat)))]) dX11_clock_5 (by decide) rfl ?_
    refine V_aload (pc := 7) 4 dX11_clock_7 rfl ?_
    refine V_ifnull_r (pc := 9) dX11_clock_9 ?_
    refine V_aload_n (pc := 12) 0 dX11_clock_12 rfl rfl ?_
    refine V_iload_n (pc := 13) 2 dX11_clock_13 rfl rfl ?_
    refine V_callV (pc := 14) (As := [.int c]) (st := []) (c_X11_controlOf G X c hw hC) mf_X11_controlOf ml_X11_192 iv_X11_controlOf (wN hw (by decide)) (wS1 hw (by decide) rfl) (by decide) rfl dX11_clock_14 rfl rfl (by omega) (by omega) (by omega) (Nat.le_of_ble_eq_true rfl) (fun r_14_2 n_14_2 sh_14_2 I_14_2 L_14_2 R_14_2 hq_14_2 => ?_)
    obtain ⟨rfl, rfl, rfl, rfl, rfl, hq_14_2⟩ := hq_14_2
    rcases hq_14_2 with ⟨c_14_2, rfl⟩ | ⟨c_14_2, rfl⟩
    · have c_14_2 : ¬ (0 ≤ c.toInt ∧ c.toInt < (X 27 30).toInt) := c_14_2
      refine V_ifnonnull_n (pc := 17) dX11_clock_17 ?_
      refine V_iconst (pc := 20) (v := (-1)) dX11_clock_20 rfl ?_
      refine V_iret (pc := 21) rfl rfl dX11_clock_21 (by omega) (by omega) ?_
      refine ⟨fun X' r' hq => ?_, fun a h1 h2 => ?_, hw, ⟨_, rfl⟩⟩
      · obtain ⟨v0, e0, rfl⟩ := hq
        unfold sClock isCar isCtl isTm at e0
        (repeat' split at e0) <;> first | (exfalso; omega) | (obtain ⟨rfl, rfl⟩ := Prod.mk.inj e0; exact ⟨by (exact rfl), by (exact JZ_le hJ (by omega))⟩)
      · (repeat first | rw [up2_o (by omega)] | rw [cpF_r (by omega)] | rw [uph_o (by omega)]) <;> rfl
    · have c_14_2 : 0 ≤ c.toInt ∧ c.toInt < (X 27 30).toInt := c_14_2
      have hdc := hC.2.2.1 c.toInt.toNat (by omega)
      have hc56 := hdc.2.1
      have hdct := cdF hC c.toInt.toNat (by omega)
      refine V_ifnonnull_r (pc := 17) (tgt := 22) dX11_clock_17 (by decide) ?_
      refine V_iload_n (pc := 22) 3 dX11_clock_22 rfl rfl ?_
      refine V_callS (pc := 23) (As := [.int t0]) (st := []) (c_X11_isTime G t0) mf_X11_isTime ml_X11_204 st_X11_isTime dX11_clock_23 rfl rfl (by omega) (by omega) (by omega) (Nat.le_of_ble_eq_true rfl) (fun r_23_3 n_23_3 sh_23_3 I_23_3 L_23_3 R_23_3 hq_23_3 => ?_)
      obtain ⟨rfl, rfl, rfl, rfl, rfl, hq_23_3⟩ := hq_23_3
      rcases hq_23_3 with ⟨c_23_3, rfl⟩ | ⟨c_23_3, rfl⟩
      · have c_23_3 : 0 ≤ t0.toInt ∧ t0.toInt ≤ 1000000 := c_23_3
        refine V_if_ne_t (pc := 26) (tgt := 32) dX11_clock_26 (by decide) (by decide) ?_
        refine V_aload (pc := 32) 4 dX11_clock_32 rfl ?_
        refine V_iload_n (pc := 34) 2 dX11_clock_34 rfl rfl ?_
        have e8 : ((8 * car.toInt) + c.toInt).toNat = 8 * car.toInt.toNat + c.toInt.toNat := by omega
        have hkf := kdF hdk c.toInt.toNat (by omega)
        refine V_clk (pc := 35) (st := []) (cn := c.toInt.toNat) hw hdk (by omega) (by omega) ov_X11_225_1 ov_X11_225_5 ov_X11_225_4 dX11_clock_35 (by omega) (by omega) (by omega) (Nat.le_of_ble_eq_true rfl) (fun hck => ?_) (fun hck => ?_)
        · skip
          refine V_if_eq_f (pc := 38) (tgt := 44) dX11_clock_38 (by decide) (by decide) ?_
          refine V_bipush (pc := 41) (v := (-3)) dX11_clock_41 rfl ?_
          refine V_iret (pc := 43) rfl rfl dX11_clock_43 (by omega) (by omega) ?_
          refine ⟨fun X' r' hq => ?_, fun a h1 h2 => ?_, hw, ⟨_, rfl⟩⟩
          · obtain ⟨v0, e0, rfl⟩ := hq
            unfold sClock isCar isCtl isTm at e0
            simp only [e8] at e0
            (repeat' split at e0) <;> first | (exfalso; omega) | (obtain ⟨rfl, rfl⟩ := Prod.mk.inj e0; exact ⟨by (exact rfl), by (exact JZ_le hJ (by omega))⟩)
          · (repeat first | rw [up2_o (by omega)] | rw [cpF_r (by omega)] | rw [uph_o (by omega)]) <;> rfl
        · skip
          refine V_if_eq_t (pc := 38) (tgt := 44) dX11_clock_38 (by decide) (by decide) ?_
          refine V_aload (pc := 44) 4 dX11_clock_44 rfl ?_
          refine V_iload_n (pc := 46) 2 dX11_clock_46 rfl rfl ?_
          refine V_iload_n (pc := 47) 3 dX11_clock_47 rfl rfl ?_
          refine V_arr (pc := 48) (st := []) hw hdk (by omega) ov_X11_228_1 ov_X11_228_5 ov_X11_228_4 dX11_clock_48 (by omega) (by omega) (by omega) (Nat.le_of_ble_eq_true rfl) ?_
          refine V_iconst (pc := 51) (v := 1) dX11_clock_51 rfl ?_
          refine V_iret (pc := 52) rfl rfl dX11_clock_52 (by omega) (by omega) ?_
          refine ⟨fun X' r' hq => ?_, fun a h1 h2 => ?_, hw, ⟨_, rfl⟩⟩
          · obtain ⟨v0, e0, rfl⟩ := hq
            unfold sClock isCar isCtl isTm at e0
            simp only [e8] at e0
            (repeat' split at e0) <;> first | (exfalso; omega) | (obtain ⟨rfl, rfl⟩ := Prod.mk.inj e0; exact ⟨by (exact rfl), by (exact (JZ_clock car.toInt.toNat c.toInt.toNat _ _ _ t0 hJ (by omega) rfl (by omega) ht rfl rfl (by omega)))⟩)
          · (repeat first | rw [up2_o (by omega)] | rw [cpF_r (by omega)] | rw [uph_o (by omega)]) <;> rfl
      · have c_23_3 : ¬ (0 ≤ t0.toInt ∧ t0.toInt ≤ 1000000) := c_23_3
        refine V_if_ne_f (pc := 26) (tgt := 32) dX11_clock_26 (by decide) (by decide) ?_
        refine V_bipush (pc := 29) (v := (-2)) dX11_clock_29 rfl ?_
        refine V_iret (pc := 31) rfl rfl dX11_clock_31 (by omega) (by omega) ?_
        refine ⟨fun X' r' hq => ?_, fun a h1 h2 => ?_, hw, ⟨_, rfl⟩⟩
        · obtain ⟨v0, e0, rfl⟩ := hq
          unfold sClock isCar isCtl isTm at e0
          (repeat' split at e0) <;> first | (exfalso; omega) | (obtain ⟨rfl, rfl⟩ := Prod.mk.inj e0; exact ⟨by (exact rfl), by (exact JZ_le hJ (by omega))⟩)
        · (repeat first | rw [up2_o (by omega)] | rw [cpF_r (by omega)] | rw [uph_o (by omega)]) <;> rfl
set_option maxRecDepth 100000 in
set_option maxHeartbeats 4000000 in
theorem c_X11_allow (G : vG) {n : Nat} {sh : vS} {I : vI} {L : vL} {R : vR} (t : Int) (X : vI) (car c a : Int32) (hJ : JZ t n sh I L R X) : CT G yX11_allow cX11_allow 6 (some .int) 2 0 0 [.ref (ad G 0), .int car, .int c, .int a] n sh I L R (ZP t I (qi (sAllow X car c a))) := by
  refine CT_of (own := RX11) (ini := false) (lo := [(0, .ref (ad G 0)), (1, .int car), (2, .int c), (3, .int a)]) mf_X11_allow (Nat.le_of_ble_eq_true rfl) rfl (fun h => by first | rfl | cases h) rfl ?_
  obtain ⟨⟨hw, hR, hC, hK, hS, hT, hB, hQ, hY, hV⟩, hx⟩ := id hJ
  have c01 : (I 0 1).toInt = (X 27 1).toInt := by rw [hR.1]
  have c06 : (I 0 6).toInt = (X 27 30).toInt := by rw [hC.1]
  have c08 : (I 0 8).toInt = (X 27 35).toInt := by rw [hK.1]
  have c21 : (I 2 1).toInt = (X 27 12).toInt := by rw [hB.1]
  have b01 := hR.2.1
  have b30 := hC.2.1
  have b35 := hK.2.1
  have b12 := hB.2.2.1
  obtain ⟨cy2, cy3, cy6, b24, b27, b25, y13⟩ := JW_d hY
  refine V_aload_n (pc := 0) 0 dX11_allow_0 rfl rfl ?_
  refine V_iload_n (pc := 1) 1 dX11_allow_1 rfl rfl ?_
  refine V_callV (pc := 2) (As := [.int car]) (st := []) (c_X11_carOf G X car hw hK) mf_X11_carOf ml_X11_221 iv_X11_carOf (wN hw (by decide)) (wS1 hw (by decide) rfl) (by decide) rfl dX11_allow_2 rfl rfl (by omega) (by omega) (by omega) (Nat.le_of_ble_eq_true rfl) (fun r_2_1 n_2_1 sh_2_1 I_2_1 L_2_1 R_2_1 hq_2_1 => ?_)
  obtain ⟨rfl, rfl, rfl, rfl, rfl, hq_2_1⟩ := hq_2_1
  rcases hq_2_1 with ⟨c_2_1, rfl⟩ | ⟨c_2_1, rfl⟩
  · have c_2_1 : ¬ (0 ≤ car.toInt ∧ car.toInt < (X 27 35).toInt) := c_2_1
    refine V_astoreN (pc := 5) (lo' := [(0, .ref (ad G 0)), (1, .int car), (2, .int c), (3, .int a), (4, .null)]) dX11_allow_5 (by decide) rfl ?_
    refine V_aloadN (pc := 7) 4 dX11_allow_7 rfl ?_
    refine V_ifnull_n (pc := 9) (tgt := 20) dX11_allow_9 (by decide) ?_
    refine V_iconst (pc := 20) (v := (-1)) dX11_allow_20 rfl ?_
    refine V_iret (pc := 21) rfl rfl dX11_allow_21 (by omega) (by omega) ?_
    refine ⟨fun X' r' hq => ?_, fun a h1 h2 => ?_, hw, ⟨_, rfl⟩⟩
    · obtain ⟨v0, e0, rfl⟩ := hq
      unfold sAllow isCar isCtl at e0
      (repeat' split at e0) <;> first | (exfalso; omega) | (obtain ⟨rfl, rfl⟩ := Prod.mk.inj e0; exact ⟨by (first | rfl | (refine ie ?_; (repeat' split) <;> omega) | (refine le' ?_; (repeat' split) <;> omega)), by (exact JZ_le hJ (by omega))⟩)
    · (repeat first | rw [up2_o (by omega)] | rw [cpF_r (by omega)] | rw [uph_o (by omega)]) <;> rfl
  · have c_2_1 : 0 ≤ car.toInt ∧ car.toInt < (X 27 35).toInt := c_2_1
    have hdk := hK.2.2.1 car.toInt.toNat (by omega)
    have hk56 := hdk.2.1
    have hkn := hdk.2.2.1
    have hks := kdS hdk
    refine V_astore (pc := 5) (lo' := [(0, .ref (ad G 0)), (1, .int car), (2, .int c), (3, .int a), (4, .ref (ad G (oj R 17 car.toInt.toNat)))]) dX11_allow_5 (by decide) rfl ?_
    refine V_aload (pc := 7) 4 dX11_allow_7 rfl ?_
    refine V_ifnull_r (pc := 9) dX11_allow_9 ?_
    refine V_aload_n (pc := 12) 0 dX11_allow_12 rfl rfl ?_
    refine V_iload_n (pc := 13) 2 dX11_allow_13 rfl rfl ?_
    refine V_callV (pc := 14) (As := [.int c]) (st := []) (c_X11_controlOf G X c hw hC) mf_X11_controlOf ml_X11_192 iv_X11_controlOf (wN hw (by decide)) (wS1 hw (by decide) rfl) (by decide) rfl dX11_allow_14 rfl rfl (by omega) (by omega) (by omega) (Nat.le_of_ble_eq_true rfl) (fun r_14_2 n_14_2 sh_14_2 I_14_2 L_14_2 R_14_2 hq_14_2 => ?_)
    obtain ⟨rfl, rfl, rfl, rfl, rfl, hq_14_2⟩ := hq_14_2
    rcases hq_14_2 with ⟨c_14_2, rfl⟩ | ⟨c_14_2, rfl⟩
    · have c_14_2 : ¬ (0 ≤ c.toInt ∧ c.toInt < (X 27 30).toInt) := c_14_2
      refine V_ifnonnull_n (pc := 17) dX11_allow_17 ?_
      refine V_iconst (pc := 20) (v := (-1)) dX11_allow_20 rfl ?_
      refine V_iret (pc := 21) rfl rfl dX11_allow_21 (by omega) (by omega) ?_
      refine ⟨fun X' r' hq => ?_, fun a h1 h2 => ?_, hw, ⟨_, rfl⟩⟩
      · obtain ⟨v0, e0, rfl⟩ := hq
        unfold sAllow isCar isCtl at e0
        (repeat' split at e0) <;> first | (exfalso; omega) | (obtain ⟨rfl, rfl⟩ := Prod.mk.inj e0; exact ⟨by (first | rfl | (refine ie ?_; (repeat' split) <;> omega) | (refine le' ?_; (repeat' split) <;> omega)), by (exact JZ_le hJ (by omega))⟩)
      · (repeat first | rw [up2_o (by omega)] | rw [cpF_r (by omega)] | rw [uph_o (by omega)]) <;> rfl
    · have c_14_2 : 0 ≤ c.toInt ∧ c.toInt < (X 27 30).toInt := c_14_2
      have hdc := hC.2.2.1 c.toInt.toNat (by omega)
      have hc56 := hdc.2.1
      have hdct := cdF hC c.toInt.toNat (by omega)
      refine V_ifnonnull_r (pc := 17) (tgt := 22) dX11_allow_17 (by decide) ?_
      refine V_iload_n (pc := 22) 3 dX11_allow_22 rfl rfl ?_
      refine V_iconst (pc := 23) (v := 0) dX11_allow_23 rfl ?_
      refine V_sipush (pc := 24) (v := 3000) dX11_allow_24 rfl ?_
      refine V_callS (pc := 27) (As := [.int a, .int 0, .int 3000]) (st := []) (c_X11_isWithin G a 0 3000) mf_X11_isWithin ml_X11_61 st_X11_isWithin dX11_allow_27 rfl rfl (by omega) (by omega) (by omega) (Nat.le_of_ble_eq_true rfl) (fun r_27_3 n_27_3 sh_27_3 I_27_3 L_27_3 R_27_3 hq_27_3 => ?_)
      obtain ⟨rfl, rfl, rfl, rfl, rfl, hq_27_3⟩ := hq_27_3
      rcases hq_27_3 with ⟨c_27_3, rfl⟩ | ⟨c_27_3, rfl⟩
      · have c_27_3 : 0 ≤ a.toInt ∧ a.toInt ≤ 3000 := c_27_3
        refine V_if_ne_t (pc := 30) (tgt := 36) dX11_allow_30 (by decide) (by decide) ?_
        refine V_aload (pc := 36) 4 dX11_allow_36 rfl ?_
        refine V_getR (pc := 38) (j := ((oj R 17 car.toInt.toNat) + 3)) (fk_X11_231_s hks.1.2) hks.2.1.2.2 dX11_allow_38 hks.1.1 rfl ?_
        refine V_iload_n (pc := 41) 2 dX11_allow_41 rfl rfl ?_
        refine V_ia (pc := 42) (k := c.toInt.toNat) (v := (I ((oj R 17 car.toInt.toNat) + 3) c.toInt.toNat)) rfl dX11_allow_42 hks.2.2.1.2.2 hks.2.2.2.2.2 (by omega) (by omega) ?_
        refine V_istore (pc := 43) (lo' := [(0, .ref (ad G 0)), (1, .int car), (2, .int c), (3, .int a), (4, .ref (ad G (oj R 17 car.toInt.toNat))), (5, .int (I ((oj R 17 car.toInt.toNat) + 3) c.toInt.toNat))]) dX11_allow_43 (by decide) rfl ?_
        refine V_aload (pc := 45) 4 dX11_allow_45 rfl ?_
        refine V_getR (pc := 47) (j := ((oj R 17 car.toInt.toNat) + 3)) (fk_X11_231_s hks.1.2) hks.2.1.2.2 dX11_allow_47 hks.1.1 rfl ?_
        refine V_iload_n (pc := 50) 2 dX11_allow_50 rfl rfl ?_
        refine V_iload_n (pc := 51) 3 dX11_allow_51 rfl rfl ?_
        refine V_iask (pc := 52) (k := c.toInt.toNat) dX11_allow_52 hks.2.2.1.2.2 hks.2.2.2.2.2 (by omega) (by omega) ?_
        refine V_iload (pc := 53) 5 dX11_allow_53 rfl ?_
        refine V_iret (pc := 55) rfl rfl dX11_allow_55 (by omega) (by omega) ?_
        refine ⟨fun X' r' hq => ?_, fun a h1 h2 => ?_, hw, ⟨_, rfl⟩⟩
        · obtain ⟨v0, e0, rfl⟩ := hq
          unfold sAllow isCar isCtl at e0
          have e8 : ((8 * car.toInt) + c.toInt).toNat = 8 * car.toInt.toNat + c.toInt.toNat := by omega
          have hkf := kdF hdk c.toInt.toNat (by omega)
          simp only [e8] at e0
          (repeat' split at e0) <;> first | (exfalso; omega) | (obtain ⟨rfl, rfl⟩ := Prod.mk.inj e0; exact ⟨by (first | rfl | (refine ie ?_; (repeat' split) <;> omega) | (refine le' ?_; (repeat' split) <;> omega)), by (exact JZ_le (JZ_allow car.toInt.toNat c.toInt.toNat _ a hJ (by omega) rfl (by omega) (by omega)) (by omega))⟩)
        · (repeat first | rw [up2_o (by omega)] | rw [cpF_r (by omega)] | rw [uph_o (by omega)]) <;> rfl
      · have c_27_3 : ¬ (0 ≤ a.toInt ∧ a.toInt ≤ 3000) := c_27_3
        refine V_if_ne_f (pc := 30) (tgt := 36) dX11_allow_30 (by decide) (by decide) ?_
        refine V_bipush (pc := 33) (v := (-2)) dX11_allow_33 rfl ?_
        refine V_iret (pc := 35) rfl rfl dX11_allow_35 (by omega) (by omega) ?_
        refine ⟨fun X' r' hq => ?_, fun a h1 h2 => ?_, hw, ⟨_, rfl⟩⟩
        · obtain ⟨v0, e0, rfl⟩ := hq
          unfold sAllow isCar isCtl at e0
          (repeat' split at e0) <;> first | (exfalso; omega) | (obtain ⟨rfl, rfl⟩ := Prod.mk.inj e0; exact ⟨by (first | rfl | (refine ie ?_; (repeat' split) <;> omega) | (refine le' ?_; (repeat' split) <;> omega)), by (exact JZ_le hJ (by omega))⟩)
        · (repeat first | rw [up2_o (by omega)] | rw [cpF_r (by omega)] | rw [uph_o (by omega)]) <;> rfl
set_option maxRecDepth 100000 in
set_option maxHeartbeats 4000000 in
theorem c_X11_error (G : vG) {n : Nat} {sh : vS} {I : vI} {L : vL} {R : vR} (t : Int) (X : vI) (car c : Int32) (hJ : JZ t n sh I L R X) : CT G yX11_error cX11_error 4 (some .long) 3 0 0 [.ref (ad G 0), .int car, .int c] n sh I L R (ZP t I (zL X (sError X car c))) := by
  refine CT_of (own := RX11) (ini := false) (lo := [(0, .ref (ad G 0)), (1, .int car), (2, .int c)]) mf_X11_error (Nat.le_of_ble_eq_true rfl) rfl (fun h => by first | rfl | cases h) rfl ?_
  obtain ⟨⟨hw, hR, hC, hK, hS, hT, hB, hQ, hY, hV⟩, hx⟩ := id hJ
  have c01 : (I 0 1).toInt = (X 27 1).toInt := by rw [hR.1]
  have c06 : (I 0 6).toInt = (X 27 30).toInt := by rw [hC.1]
  have c08 : (I 0 8).toInt = (X 27 35).toInt := by rw [hK.1]
  have c21 : (I 2 1).toInt = (X 27 12).toInt := by rw [hB.1]
  have b01 := hR.2.1
  have b30 := hC.2.1
  have b35 := hK.2.1
  have b12 := hB.2.2.1
  obtain ⟨cy2, cy3, cy6, b24, b27, b25, y13⟩ := JW_d hY
  refine V_aload_n (pc := 0) 0 dX11_error_0 rfl rfl ?_
  refine V_iload_n (pc := 1) 1 dX11_error_1 rfl rfl ?_
  refine V_callV (pc := 2) (As := [.int car]) (st := []) (c_X11_carOf G X car hw hK) mf_X11_carOf ml_X11_221 iv_X11_carOf (wN hw (by decide)) (wS1 hw (by decide) rfl) (by decide) rfl dX11_error_2 rfl rfl (by omega) (by omega) (by omega) (Nat.le_of_ble_eq_true rfl) (fun r_2_1 n_2_1 sh_2_1 I_2_1 L_2_1 R_2_1 hq_2_1 => ?_)
  obtain ⟨rfl, rfl, rfl, rfl, rfl, hq_2_1⟩ := hq_2_1
  rcases hq_2_1 with ⟨c_2_1, rfl⟩ | ⟨c_2_1, rfl⟩
  · have c_2_1 : ¬ (0 ≤ car.toInt ∧ car.toInt < (X 27 35).toInt) := c_2_1
    refine V_astore_nN (pc := 5) (lo' := [(0, .ref (ad G 0)), (1, .int car), (2, .int c), (3, .null)]) dX11_error_5 rfl (by decide) rfl ?_
    refine V_aload_nN (pc := 6) 3 dX11_error_6 rfl rfl ?_
    refine V_ifnull_n (pc := 7) (tgt := 18) dX11_error_7 (by decide) ?_
    refine V_ldc2 (pc := 18) dX11_error_18 kk_X11_154 ?_
    refine V_lret (pc := 21) rfl dX11_error_21 (by omega) (by omega) ?_
    refine ⟨fun X' r' hq => ?_, fun a h1 h2 => rfl, hw, ⟨_, rfl⟩⟩
    obtain ⟨rfl, v0, rfl, e0⟩ := hq
    refine ⟨le' ?_, JZ_le hJ (by omega)⟩
    rw [e0]
    unfold sError
    rw [pIf_neg (fun z => by first | (exact (by assumption : ¬ _) z.1) | (exact (by assumption : ¬ _) z.2.1) | exact h0e ((hasD hY).mp z.2.2.2) | (have z3 := z.2.2.1; rw [e8] at z3; exact z3 hck))]
    rfl
  · have c_2_1 : 0 ≤ car.toInt ∧ car.toInt < (X 27 35).toInt := c_2_1
    have hdk := hK.2.2.1 car.toInt.toNat (by omega)
    have hk56 := hdk.2.1
    have hkn := hdk.2.2.1
    have hks := kdS hdk
    refine V_astore_n (pc := 5) (lo' := [(0, .ref (ad G 0)), (1, .int car), (2, .int c), (3, .ref (ad G (oj R 17 car.toInt.toNat)))]) dX11_error_5 rfl (by decide) rfl ?_
    refine V_aload_n (pc := 6) 3 dX11_error_6 rfl rfl ?_
    refine V_ifnull_r (pc := 7) dX11_error_7 ?_
    refine V_aload_n (pc := 10) 0 dX11_error_10 rfl rfl ?_
    refine V_iload_n (pc := 11) 2 dX11_error_11 rfl rfl ?_
    refine V_callV (pc := 12) (As := [.int c]) (st := []) (c_X11_controlOf G X c hw hC) mf_X11_controlOf ml_X11_192 iv_X11_controlOf (wN hw (by decide)) (wS1 hw (by decide) rfl) (by decide) rfl dX11_error_12 rfl rfl (by omega) (by omega) (by omega) (Nat.le_of_ble_eq_true rfl) (fun r_12_2 n_12_2 sh_12_2 I_12_2 L_12_2 R_12_2 hq_12_2 => ?_)
    obtain ⟨rfl, rfl, rfl, rfl, rfl, hq_12_2⟩ := hq_12_2
    rcases hq_12_2 with ⟨c_12_2, rfl⟩ | ⟨c_12_2, rfl⟩
    · have c_12_2 : ¬ (0 ≤ c.toInt ∧ c.toInt < (X 27 30).toInt) := c_12_2
      refine V_ifnonnull_n (pc := 15) dX11_error_15 ?_
      refine V_ldc2 (pc := 18) dX11_error_18 kk_X11_154 ?_
      refine V_lret (pc := 21) rfl dX11_error_21 (by omega) (by omega) ?_
      refine ⟨fun X' r' hq => ?_, fun a h1 h2 => rfl, hw, ⟨_, rfl⟩⟩
      obtain ⟨rfl, v0, rfl, e0⟩ := hq
      refine ⟨le' ?_, JZ_le hJ (by omega)⟩
      rw [e0]
      unfold sError
      rw [pIf_neg (fun z => by first | (exact (by assumption : ¬ _) z.1) | (exact (by assumption : ¬ _) z.2.1) | exact h0e ((hasD hY).mp z.2.2.2) | (have z3 := z.2.2.1; rw [e8] at z3; exact z3 hck))]
      rfl
    · have c_12_2 : 0 ≤ c.toInt ∧ c.toInt < (X 27 30).toInt := c_12_2
      have hdc := hC.2.2.1 c.toInt.toNat (by omega)
      have hc56 := hdc.2.1
      have hdct := cdF hC c.toInt.toNat (by omega)
      refine V_ifnonnull_r (pc := 15) (tgt := 22) dX11_error_15 (by decide) ?_
      refine V_aload_n (pc := 22) 3 dX11_error_22 rfl rfl ?_
      refine V_iload_n (pc := 23) 2 dX11_error_23 rfl rfl ?_
      have e8 : ((8 * car.toInt) + c.toInt).toNat = 8 * car.toInt.toNat + c.toInt.toNat := by omega
      have hkf := kdF hdk c.toInt.toNat (by omega)
      refine V_clk (pc := 24) (st := []) (cn := c.toInt.toNat) hw hdk (by omega) (by omega) ov_X11_225_1 ov_X11_225_5 ov_X11_225_4 dX11_error_24 (by omega) (by omega) (by omega) (Nat.le_of_ble_eq_true rfl) (fun hck => ?_) (fun hck => ?_)
      · skip
        refine V_if_eq_f (pc := 27) (tgt := 40) dX11_error_27 (by decide) (by decide) ?_
        refine V_aload_n (pc := 30) 0 dX11_error_30 rfl rfl ?_
        refine V_getR (pc := 31) (j := 11) fk_X11_34_11 (wR hw (i := 0) (k := 4) (j := 11) rfl) dX11_error_31 (wN hw (by decide)) (wS1 hw (by decide) rfl) ?_
        obtain ⟨y1, y2, y3, y4, y5, y6, y7, y8, y9, y10, y11, y12, -⟩ := id hY
        have hvv : ∀ k, k < (X 27 27).toInt.toNat → 1 ≤ (X 46 k).toInt ∧ (X 46 k).toInt ≤ 3000 := fun k hk => y11 k (by omega)
        refine V_callV (pc := 34) (As := []) (st := []) (c_X10_hasFirstSpeed G X hw y9 y3 y5 y6 hvv) mf_X10_hasFirstSpeed ml_X11_174 iv_X10_hasFirstSpeed (wN hw (by decide)) (wS1 hw (by decide) rfl) (by decide) rfl dX11_error_34 rfl rfl (by omega) (by omega) (by omega) (Nat.le_of_ble_eq_true rfl) (fun r_34_3 n_34_3 sh_34_3 I_34_3 L_34_3 R_34_3 hq_34_3 => ?_)
        obtain ⟨rfl, rfl, rfl, rfl, rfl, hq_34_3⟩ := hq_34_3
        rcases hq_34_3 with ⟨h0e, rfl⟩ | ⟨h0e, rfl⟩
        · skip
          refine V_if_ne_t (pc := 37) (tgt := 44) dX11_error_37 (by decide) (by decide) ?_
          refine V_aload_n (pc := 44) 0 dX11_error_44 rfl rfl ?_
          refine V_aload_n (pc := 45) 3 dX11_error_45 rfl rfl ?_
          refine V_iload_n (pc := 46) 2 dX11_error_46 rfl rfl ?_
          refine V_callV (pc := 47) (As := [.ref (ad G (oj R 17 car.toInt.toNat)), .int c]) (st := []) (c_X11_errorOf G X car.toInt.toNat (oj R 17 car.toInt.toNat) c.toInt.toNat c hw hC hdk hY hV h0e (by omega) (by omega) hck) mf_X11_errorOf ml_X11_234 iv_X11_errorOf (wN hw (by decide)) (wS1 hw (by decide) rfl) (by decide) rfl dX11_error_47 rfl rfl (by omega) (by omega) (by omega) (Nat.le_of_ble_eq_true rfl) (fun r_47_4 n_47_4 sh_47_4 I_47_4 L_47_4 R_47_4 hq_47_4 => ?_)
          obtain ⟨rfl, rfl, rfl, rfl, rfl, v_47_4, rfl, hv_47_4⟩ := hq_47_4
          refine V_lret (pc := 50) rfl dX11_error_50 (by omega) (by omega) ?_
          refine ⟨fun X' r' hq => ?_, fun a h1 h2 => rfl, hw, ⟨_, rfl⟩⟩
          obtain ⟨rfl, v0, rfl, e0⟩ := hq
          refine ⟨le' ?_, JZ_le hJ (by omega)⟩
          rw [e0]
          unfold sError
          rw [pIf_pos ⟨by omega, by omega, by rw [e8]; omega, (hasD hY).mpr h0e⟩]
          rw [show car.toInt = ((car.toInt.toNat : Nat) : Int) by omega, show c.toInt = ((c.toInt.toNat : Nat) : Int) by omega]
          exact hv_47_4.1
        · skip
          refine V_if_ne_f (pc := 37) (tgt := 44) dX11_error_37 (by decide) (by decide) ?_
          refine V_ldc2 (pc := 40) dX11_error_40 kk_X11_154 ?_
          refine V_lret (pc := 43) rfl dX11_error_43 (by omega) (by omega) ?_
          refine ⟨fun X' r' hq => ?_, fun a h1 h2 => rfl, hw, ⟨_, rfl⟩⟩
          obtain ⟨rfl, v0, rfl, e0⟩ := hq
          refine ⟨le' ?_, JZ_le hJ (by omega)⟩
          rw [e0]
          unfold sError
          rw [pIf_neg (fun z => by first | (exact (by assumption : ¬ _) z.1) | (exact (by assumption : ¬ _) z.2.1) | exact h0e ((hasD hY).mp z.2.2.2) | (have z3 := z.2.2.1; rw [e8] at z3; exact z3 hck))]
          rfl
      · skip
        refine V_if_eq_t (pc := 27) (tgt := 40) dX11_error_27 (by decide) (by decide) ?_
        refine V_ldc2 (pc := 40) dX11_error_40 kk_X11_154 ?_
        refine V_lret (pc := 43) rfl dX11_error_43 (by omega) (by omega) ?_
        refine ⟨fun X' r' hq => ?_, fun a h1 h2 => rfl, hw, ⟨_, rfl⟩⟩
        obtain ⟨rfl, v0, rfl, e0⟩ := hq
        refine ⟨le' ?_, JZ_le hJ (by omega)⟩
        rw [e0]
        unfold sError
        rw [pIf_neg (fun z => by first | (exact (by assumption : ¬ _) z.1) | (exact (by assumption : ¬ _) z.2.1) | exact h0e ((hasD hY).mp z.2.2.2) | (have z3 := z.2.2.1; rw [e8] at z3; exact z3 hck))]
        rfl
set_option maxRecDepth 100000 in
set_option maxHeartbeats 4000000 in
theorem c_X11_points (G : vG) {n : Nat} {sh : vS} {I : vI} {L : vL} {R : vR} (t : Int) (X : vI) (car c : Int32) (hJ : JZ t n sh I L R X) : CT G yX11_points cX11_points 4 (some .int) 5 0 0 [.ref (ad G 0), .int car, .int c] n sh I L R (ZP t I (iN X (sPoints X car c))) := by
  refine CT_of (own := RX11) (ini := false) (lo := [(0, .ref (ad G 0)), (1, .int car), (2, .int c)]) mf_X11_points (Nat.le_of_ble_eq_true rfl) rfl (fun h => by first | rfl | cases h) rfl ?_
  obtain ⟨⟨hw, hR, hC, hK, hS, hT, hB, hQ, hY, hV⟩, hx⟩ := id hJ
  have c01 : (I 0 1).toInt = (X 27 1).toInt := by rw [hR.1]
  have c06 : (I 0 6).toInt = (X 27 30).toInt := by rw [hC.1]
  have c08 : (I 0 8).toInt = (X 27 35).toInt := by rw [hK.1]
  have c21 : (I 2 1).toInt = (X 27 12).toInt := by rw [hB.1]
  have b01 := hR.2.1
  have b30 := hC.2.1
  have b35 := hK.2.1
  have b12 := hB.2.2.1
  obtain ⟨cy2, cy3, cy6, b24, b27, b25, y13⟩ := JW_d hY
  refine V_aload_n (pc := 0) 0 dX11_points_0 rfl rfl ?_
  refine V_iload_n (pc := 1) 1 dX11_points_1 rfl rfl ?_
  refine V_callV (pc := 2) (As := [.int car]) (st := []) (c_X11_carOf G X car hw hK) mf_X11_carOf ml_X11_221 iv_X11_carOf (wN hw (by decide)) (wS1 hw (by decide) rfl) (by decide) rfl dX11_points_2 rfl rfl (by omega) (by omega) (by omega) (Nat.le_of_ble_eq_true rfl) (fun r_2_1 n_2_1 sh_2_1 I_2_1 L_2_1 R_2_1 hq_2_1 => ?_)
  obtain ⟨rfl, rfl, rfl, rfl, rfl, hq_2_1⟩ := hq_2_1
  rcases hq_2_1 with ⟨c_2_1, rfl⟩ | ⟨c_2_1, rfl⟩
  · have c_2_1 : ¬ (0 ≤ car.toInt ∧ car.toInt < (X 27 35).toInt) := c_2_1
    refine V_astore_nN (pc := 5) (lo' := [(0, .ref (ad G 0)), (1, .int car), (2, .int c), (3, .null)]) dX11_points_5 rfl (by decide) rfl ?_
    refine V_aload_nN (pc := 6) 3 dX11_points_6 rfl rfl ?_
    refine V_ifnull_n (pc := 7) (tgt := 18) dX11_points_7 (by decide) ?_
    refine V_iconst (pc := 18) (v := (-1)) dX11_points_18 rfl ?_
    refine V_iret (pc := 19) rfl rfl dX11_points_19 (by omega) (by omega) ?_
    refine ⟨fun X' r' hq => ?_, fun a h1 h2 => rfl, hw, ⟨_, rfl⟩⟩
    obtain ⟨rfl, v0, rfl, e0⟩ := hq
    refine ⟨ie ?_, JZ_le hJ (by omega)⟩
    rw [e0]
    unfold sPoints
    rw [if_pos (by omega)]
    rfl
  · have c_2_1 : 0 ≤ car.toInt ∧ car.toInt < (X 27 35).toInt := c_2_1
    have hdk := hK.2.2.1 car.toInt.toNat (by omega)
    have hk56 := hdk.2.1
    have hkn := hdk.2.2.1
    have hks := kdS hdk
    refine V_astore_n (pc := 5) (lo' := [(0, .ref (ad G 0)), (1, .int car), (2, .int c), (3, .ref (ad G (oj R 17 car.toInt.toNat)))]) dX11_points_5 rfl (by decide) rfl ?_
    refine V_aload_n (pc := 6) 3 dX11_points_6 rfl rfl ?_
    refine V_ifnull_r (pc := 7) dX11_points_7 ?_
    refine V_aload_n (pc := 10) 0 dX11_points_10 rfl rfl ?_
    refine V_iload_n (pc := 11) 2 dX11_points_11 rfl rfl ?_
    refine V_callV (pc := 12) (As := [.int c]) (st := []) (c_X11_controlOf G X c hw hC) mf_X11_controlOf ml_X11_192 iv_X11_controlOf (wN hw (by decide)) (wS1 hw (by decide) rfl) (by decide) rfl dX11_points_12 rfl rfl (by omega) (by omega) (by omega) (Nat.le_of_ble_eq_true rfl) (fun r_12_2 n_12_2 sh_12_2 I_12_2 L_12_2 R_12_2 hq_12_2 => ?_)
    obtain ⟨rfl, rfl, rfl, rfl, rfl, hq_12_2⟩ := hq_12_2
    rcases hq_12_2 with ⟨c_12_2, rfl⟩ | ⟨c_12_2, rfl⟩
    · have c_12_2 : ¬ (0 ≤ c.toInt ∧ c.toInt < (X 27 30).toInt) := c_12_2
      refine V_ifnonnull_n (pc := 15) dX11_points_15 ?_
      refine V_iconst (pc := 18) (v := (-1)) dX11_points_18 rfl ?_
      refine V_iret (pc := 19) rfl rfl dX11_points_19 (by omega) (by omega) ?_
      refine ⟨fun X' r' hq => ?_, fun a h1 h2 => rfl, hw, ⟨_, rfl⟩⟩
      obtain ⟨rfl, v0, rfl, e0⟩ := hq
      refine ⟨ie ?_, JZ_le hJ (by omega)⟩
      rw [e0]
      unfold sPoints
      rw [if_pos (by omega)]
      rfl
    · have c_12_2 : 0 ≤ c.toInt ∧ c.toInt < (X 27 30).toInt := c_12_2
      have hdc := hC.2.2.1 c.toInt.toNat (by omega)
      have hc56 := hdc.2.1
      have hdct := cdF hC c.toInt.toNat (by omega)
      refine V_ifnonnull_r (pc := 15) (tgt := 20) dX11_points_15 (by decide) ?_
      refine V_aload_n (pc := 20) 0 dX11_points_20 rfl rfl ?_
      refine V_getR (pc := 21) (j := 11) fk_X11_34_11 (wR hw (i := 0) (k := 4) (j := 11) rfl) dX11_points_21 (wN hw (by decide)) (wS1 hw (by decide) rfl) ?_
      obtain ⟨y1, y2, y3, y4, y5, y6, y7, y8, y9, y10, y11, y12, -⟩ := id hY
      have hvv : ∀ k, k < (X 27 27).toInt.toNat → 1 ≤ (X 46 k).toInt ∧ (X 46 k).toInt ≤ 3000 := fun k hk => y11 k (by omega)
      refine V_callV (pc := 24) (As := []) (st := []) (c_X10_hasFirstSpeed G X hw y9 y3 y5 y6 hvv) mf_X10_hasFirstSpeed ml_X11_174 iv_X10_hasFirstSpeed (wN hw (by decide)) (wS1 hw (by decide) rfl) (by decide) rfl dX11_points_24 rfl rfl (by omega) (by omega) (by omega) (Nat.le_of_ble_eq_true rfl) (fun r_24_3 n_24_3 sh_24_3 I_24_3 L_24_3 R_24_3 hq_24_3 => ?_)
      obtain ⟨rfl, rfl, rfl, rfl, rfl, hq_24_3⟩ := hq_24_3
      rcases hq_24_3 with ⟨h0e, rfl⟩ | ⟨h0e, rfl⟩
      · skip
        refine V_if_ne_t (pc := 27) (tgt := 33) dX11_points_27 (by decide) (by decide) ?_
        refine V_aload_n (pc := 33) 0 dX11_points_33 rfl rfl ?_
        refine V_aload_n (pc := 34) 3 dX11_points_34 rfl rfl ?_
        refine V_iload_n (pc := 35) 2 dX11_points_35 rfl rfl ?_
        refine V_callV (pc := 36) (As := [.ref (ad G (oj R 17 car.toInt.toNat)), .int c]) (st := []) (c_X11_pointsOf G X car.toInt.toNat (oj R 17 car.toInt.toNat) c.toInt.toNat c hw hC hdk hY hV h0e (by omega) (by omega)) mf_X11_pointsOf ml_X11_238 iv_X11_pointsOf (wN hw (by decide)) (wS1 hw (by decide) rfl) (by decide) rfl dX11_points_36 rfl rfl (by omega) (by omega) (by omega) (Nat.le_of_ble_eq_true rfl) (fun r_36_4 n_36_4 sh_36_4 I_36_4 L_36_4 R_36_4 hq_36_4 => ?_)
        obtain ⟨rfl, rfl, rfl, rfl, rfl, v_36_4, rfl, hv_36_4⟩ := hq_36_4
        refine V_iret (pc := 39) rfl rfl dX11_points_39 (by omega) (by omega) ?_
        refine ⟨fun X' r' hq => ?_, fun a h1 h2 => rfl, hw, ⟨_, rfl⟩⟩
        obtain ⟨rfl, v0, rfl, e0⟩ := hq
        refine ⟨ie ?_, JZ_le hJ (by omega)⟩
        rw [e0]
        unfold sPoints
        rw [if_neg (by omega), pIf_pos ((hasD hY).mpr h0e)]
        rw [show car.toInt = ((car.toInt.toNat : Nat) : Int) by omega, show c.toInt = ((c.toInt.toNat : Nat) : Int) by omega]
        exact hv_36_4.1
      · skip
        refine V_if_ne_f (pc := 27) (tgt := 33) dX11_points_27 (by decide) (by decide) ?_
        refine V_bipush (pc := 30) (v := (-3)) dX11_points_30 rfl ?_
        refine V_iret (pc := 32) rfl rfl dX11_points_32 (by omega) (by omega) ?_
        refine ⟨fun X' r' hq => ?_, fun a h1 h2 => rfl, hw, ⟨_, rfl⟩⟩
        obtain ⟨rfl, v0, rfl, e0⟩ := hq
        refine ⟨ie ?_, JZ_le hJ (by omega)⟩
        rw [e0]
        unfold sPoints
        rw [if_neg (by omega), pIf_neg (fun z => h0e ((hasD hY).mp z))]
        rfl
set_option maxRecDepth 100000 in
set_option maxHeartbeats 4000000 in
theorem c_X11_result (G : vG) {n : Nat} {sh : vS} {I : vI} {L : vL} {R : vR} (t : Int) (X : vI) (car w : Int32) (hJ : JZ t n sh I L R X) : CT G yX11_result cX11_result 4 (some .int) 8 0 0 [.ref (ad G 0), .int car, .int w] n sh I L R (ZP t I (iN X (sResult X car w))) := by
  refine CT_of (own := RX11) (ini := false) (lo := [(0, .ref (ad G 0)), (1, .int car), (2, .int w)]) mf_X11_result (Nat.le_of_ble_eq_true rfl) rfl (fun h => by first | rfl | cases h) rfl ?_
  obtain ⟨⟨hw, hR, hC, hK, hS, hT, hB, hQ, hY, hV⟩, hx⟩ := id hJ
  have c01 : (I 0 1).toInt = (X 27 1).toInt := by rw [hR.1]
  have c06 : (I 0 6).toInt = (X 27 30).toInt := by rw [hC.1]
  have c08 : (I 0 8).toInt = (X 27 35).toInt := by rw [hK.1]
  have c21 : (I 2 1).toInt = (X 27 12).toInt := by rw [hB.1]
  have b01 := hR.2.1
  have b30 := hC.2.1
  have b35 := hK.2.1
  have b12 := hB.2.2.1
  obtain ⟨cy2, cy3, cy6, b24, b27, b25, y13⟩ := JW_d hY
  refine V_aload_n (pc := 0) 0 dX11_result_0 rfl rfl ?_
  refine V_iload_n (pc := 1) 1 dX11_result_1 rfl rfl ?_
  refine V_callV (pc := 2) (As := [.int car]) (st := []) (c_X11_carOf G X car hw hK) mf_X11_carOf ml_X11_221 iv_X11_carOf (wN hw (by decide)) (wS1 hw (by decide) rfl) (by decide) rfl dX11_result_2 rfl rfl (by omega) (by omega) (by omega) (Nat.le_of_ble_eq_true rfl) (fun r_2_1 n_2_1 sh_2_1 I_2_1 L_2_1 R_2_1 hq_2_1 => ?_)
  obtain ⟨rfl, rfl, rfl, rfl, rfl, hq_2_1⟩ := hq_2_1
  rcases hq_2_1 with ⟨c_2_1, rfl⟩ | ⟨c_2_1, rfl⟩
  · have c_2_1 : ¬ (0 ≤ car.toInt ∧ car.toInt < (X 27 35).toInt) := c_2_1
    refine V_astore_nN (pc := 5) (lo' := [(0, .ref (ad G 0)), (1, .int car), (2, .int w), (3, .null)]) dX11_result_5 rfl (by decide) rfl ?_
    refine V_aload_nN (pc := 6) 3 dX11_result_6 rfl rfl ?_
    refine V_ifnonnull_n (pc := 7) dX11_result_7 ?_
    refine V_iconst (pc := 10) (v := (-1)) dX11_result_10 rfl ?_
    refine V_iret (pc := 11) rfl rfl dX11_result_11 (by omega) (by omega) ?_
    refine ⟨fun X' r' hq => ?_, fun a h1 h2 => rfl, hw, ⟨_, rfl⟩⟩
    obtain ⟨rfl, v0, rfl, e0⟩ := hq
    refine ⟨ie ?_, JZ_le hJ (by omega)⟩
    rw [e0]
    unfold sResult
    rw [if_pos (by omega)]
    rfl
  · have c_2_1 : 0 ≤ car.toInt ∧ car.toInt < (X 27 35).toInt := c_2_1
    have hdk := hK.2.2.1 car.toInt.toNat (by omega)
    have hk56 := hdk.2.1
    have hkn := hdk.2.2.1
    have hks := kdS hdk
    refine V_astore_n (pc := 5) (lo' := [(0, .ref (ad G 0)), (1, .int car), (2, .int w), (3, .ref (ad G (oj R 17 car.toInt.toNat)))]) dX11_result_5 rfl (by decide) rfl ?_
    refine V_aload_n (pc := 6) 3 dX11_result_6 rfl rfl ?_
    refine V_ifnonnull_r (pc := 7) (tgt := 12) dX11_result_7 (by decide) ?_
    refine V_iload_n (pc := 12) 2 dX11_result_12 rfl rfl ?_
    refine V_iconst (pc := 13) (v := 0) dX11_result_13 rfl ?_
    refine V_iconst (pc := 14) (v := 3) dX11_result_14 rfl ?_
    refine V_callS (pc := 15) (As := [.int w, .int 0, .int 3]) (st := []) (c_X11_isWithin G w 0 3) mf_X11_isWithin ml_X11_61 st_X11_isWithin dX11_result_15 rfl rfl (by omega) (by omega) (by omega) (Nat.le_of_ble_eq_true rfl) (fun r_15_2 n_15_2 sh_15_2 I_15_2 L_15_2 R_15_2 hq_15_2 => ?_)
    obtain ⟨rfl, rfl, rfl, rfl, rfl, hq_15_2⟩ := hq_15_2
    rcases hq_15_2 with ⟨c_15_2, rfl⟩ | ⟨c_15_2, rfl⟩
    · have c_15_2 : 0 ≤ w.toInt ∧ w.toInt ≤ 3 := c_15_2
      refine V_if_ne_t (pc := 18) (tgt := 24) dX11_result_18 (by decide) (by decide) ?_
      refine V_aload_n (pc := 24) 0 dX11_result_24 rfl rfl ?_
      refine V_getR (pc := 25) (j := 11) fk_X11_34_11 (wR hw (i := 0) (k := 4) (j := 11) rfl) dX11_result_25 (wN hw (by decide)) (wS1 hw (by decide) rfl) ?_
      obtain ⟨y1, y2, y3, y4, y5, y6, y7, y8, y9, y10, y11, y12, -⟩ := id hY
      have hvv : ∀ k, k < (X 27 27).toInt.toNat → 1 ≤ (X 46 k).toInt ∧ (X 46 k).toInt ≤ 3000 := fun k hk => y11 k (by omega)
      refine V_callV (pc := 28) (As := []) (st := []) (c_X10_hasFirstSpeed G X hw y9 y3 y5 y6 hvv) mf_X10_hasFirstSpeed ml_X11_174 iv_X10_hasFirstSpeed (wN hw (by decide)) (wS1 hw (by decide) rfl) (by decide) rfl dX11_result_28 rfl rfl (by omega) (by omega) (by omega) (Nat.le_of_ble_eq_true rfl) (fun r_28_3 n_28_3 sh_28_3 I_28_3 L_28_3 R_28_3 hq_28_3 => ?_)
      obtain ⟨rfl, rfl, rfl, rfl, rfl, hq_28_3⟩ := hq_28_3
      rcases hq_28_3 with ⟨h0e, rfl⟩ | ⟨h0e, rfl⟩
      · skip
        refine V_if_ne_t (pc := 31) (tgt := 37) dX11_result_31 (by decide) (by decide) ?_
        refine V_iload_n (pc := 37) 2 dX11_result_37 rfl rfl ?_
        by_cases c_38_4 : 0 ≤ w.toInt ∧ w.toInt ≤ 2
        · rcases (show w.toInt = 0 ∨ w.toInt = 1 ∨ w.toInt = 2 by omega) with k_38_4 | k_38_4 | k_38_4
          · refine V_tableIn (pc := 38) (tgt := 64) (off := 26) dX11_result_38 (by omega) (by omega) (by rw [k_38_4]; rfl) (by decide) ?_
            refine V_aload_n (pc := 64) 0 dX11_result_64 rfl rfl ?_
            refine V_aload_n (pc := 65) 3 dX11_result_65 rfl rfl ?_
            refine V_callV (pc := 66) (As := [.ref (ad G (oj R 17 car.toInt.toNat))]) (st := []) (c_X11_totalOf G X car.toInt.toNat (oj R 17 car.toInt.toNat) hw hC hdk hY hV h0e) mf_X11_totalOf ml_X11_242 iv_X11_totalOf (wN hw (by decide)) (wS1 hw (by decide) rfl) (by decide) rfl dX11_result_66 rfl rfl (by omega) (by omega) (by omega) (Nat.le_of_ble_eq_true rfl) (fun r_66_5 n_66_5 sh_66_5 I_66_5 L_66_5 R_66_5 hq_66_5 => ?_)
            obtain ⟨rfl, rfl, rfl, rfl, rfl, v_66_5, rfl, hv_66_5⟩ := hq_66_5
            refine V_iret (pc := 69) rfl rfl dX11_result_69 (by omega) (by omega) ?_
            refine ⟨fun X' r' hq => ?_, fun a h1 h2 => rfl, hw, ⟨_, rfl⟩⟩
            obtain ⟨rfl, v0, rfl, e0⟩ := hq
            refine ⟨ie ?_, JZ_le hJ (by omega)⟩
            rw [e0]
            unfold sResult
            rw [if_neg (by omega), if_neg (by omega), pIf_pos ((hasD hY).mpr h0e)]
            rw [if_pos (by omega)]
            rw [show car.toInt = ((car.toInt.toNat : Nat) : Int) by omega]
            exact hv_66_5.1
          · refine V_tableIn (pc := 38) (tgt := 70) (off := 32) dX11_result_38 (by omega) (by omega) (by rw [k_38_4]; rfl) (by decide) ?_
            refine V_aload_n (pc := 70) 0 dX11_result_70 rfl rfl ?_
            refine V_aload_n (pc := 71) 3 dX11_result_71 rfl rfl ?_
            refine V_callV (pc := 72) (As := [.ref (ad G (oj R 17 car.toInt.toNat))]) (st := []) (c_X11_rankOf G X car.toInt.toNat hw hC hK (by omega) hY hV h0e) mf_X11_rankOf ml_X11_246 iv_X11_rankOf (wN hw (by decide)) (wS1 hw (by decide) rfl) (by decide) rfl dX11_result_72 rfl rfl (by omega) (by omega) (by omega) (Nat.le_of_ble_eq_true rfl) (fun r_72_6 n_72_6 sh_72_6 I_72_6 L_72_6 R_72_6 hq_72_6 => ?_)
            obtain ⟨rfl, rfl, rfl, rfl, rfl, v_72_6, rfl, hv_72_6⟩ := hq_72_6
            refine V_iret (pc := 75) rfl rfl dX11_result_75 (by omega) (by omega) ?_
            refine ⟨fun X' r' hq => ?_, fun a h1 h2 => rfl, hw, ⟨_, rfl⟩⟩
            obtain ⟨rfl, v0, rfl, e0⟩ := hq
            refine ⟨ie ?_, JZ_le hJ (by omega)⟩
            rw [e0]
            unfold sResult
            rw [if_neg (by omega), if_neg (by omega), pIf_pos ((hasD hY).mpr h0e)]
            rw [if_neg (by omega), if_pos (by omega)]
            rw [show car.toInt = ((car.toInt.toNat : Nat) : Int) by omega]
            exact hv_72_6
          · refine V_tableIn (pc := 38) (tgt := 76) (off := 38) dX11_result_38 (by omega) (by omega) (by rw [k_38_4]; rfl) (by decide) ?_
            refine V_aload_n (pc := 76) 0 dX11_result_76 rfl rfl ?_
            refine V_aload_n (pc := 77) 3 dX11_result_77 rfl rfl ?_
            refine V_callV (pc := 78) (As := [.ref (ad G (oj R 17 car.toInt.toNat))]) (st := []) (c_X11_missedBy G X car.toInt.toNat (oj R 17 car.toInt.toNat) hw hC hdk) mf_X11_missedBy ml_X11_249 iv_X11_missedBy (wN hw (by decide)) (wS1 hw (by decide) rfl) (by decide) rfl dX11_result_78 rfl rfl (by omega) (by omega) (by omega) (Nat.le_of_ble_eq_true rfl) (fun r_78_7 n_78_7 sh_78_7 I_78_7 L_78_7 R_78_7 hq_78_7 => ?_)
            obtain ⟨rfl, rfl, rfl, rfl, rfl, v_78_7, rfl, hv_78_7⟩ := hq_78_7
            refine V_iret (pc := 81) rfl rfl dX11_result_81 (by omega) (by omega) ?_
            refine ⟨fun X' r' hq => ?_, fun a h1 h2 => rfl, hw, ⟨_, rfl⟩⟩
            obtain ⟨rfl, v0, rfl, e0⟩ := hq
            refine ⟨ie ?_, JZ_le hJ (by omega)⟩
            rw [e0]
            unfold sResult
            rw [if_neg (by omega), if_neg (by omega), pIf_pos ((hasD hY).mpr h0e)]
            rw [if_neg (by omega), if_neg (by omega)]
            rw [show car.toInt = ((car.toInt.toNat : Nat) : Int) by omega]
            rw [show w.toInt = 2 by omega]
            exact hv_78_7.1
        · refine V_tableOut (pc := 38) (tgt := 82) dX11_result_38 (by omega) (by decide) ?_
          refine V_aload_n (pc := 82) 0 dX11_result_82 rfl rfl ?_
          refine V_aload_n (pc := 83) 3 dX11_result_83 rfl rfl ?_
          refine V_callV (pc := 84) (As := [.ref (ad G (oj R 17 car.toInt.toNat))]) (st := []) (c_X11_outOfOrderBy G X car.toInt.toNat (oj R 17 car.toInt.toNat) hw hC hdk) mf_X11_outOfOrderBy ml_X11_252 iv_X11_outOfOrderBy (wN hw (by decide)) (wS1 hw (by decide) rfl) (by decide) rfl dX11_result_84 rfl rfl (by omega) (by omega) (by omega) (Nat.le_of_ble_eq_true rfl) (fun r_84_8 n_84_8 sh_84_8 I_84_8 L_84_8 R_84_8 hq_84_8 => ?_)
          obtain ⟨rfl, rfl, rfl, rfl, rfl, v_84_8, rfl, hv_84_8⟩ := hq_84_8
          refine V_iret (pc := 87) rfl rfl dX11_result_87 (by omega) (by omega) ?_
          refine ⟨fun X' r' hq => ?_, fun a h1 h2 => rfl, hw, ⟨_, rfl⟩⟩
          obtain ⟨rfl, v0, rfl, e0⟩ := hq
          refine ⟨ie ?_, JZ_le hJ (by omega)⟩
          rw [e0]
          unfold sResult
          rw [if_neg (by omega), if_neg (by omega), pIf_pos ((hasD hY).mpr h0e)]
          rw [if_neg (by omega), if_neg (by omega)]
          rw [show car.toInt = ((car.toInt.toNat : Nat) : Int) by omega]
          rw [show w.toInt = 3 by omega]
          exact hv_84_8.1
      · skip
        refine V_if_ne_f (pc := 31) (tgt := 37) dX11_result_31 (by decide) (by decide) ?_
        refine V_bipush (pc := 34) (v := (-3)) dX11_result_34 rfl ?_
        refine V_iret (pc := 36) rfl rfl dX11_result_36 (by omega) (by omega) ?_
        refine ⟨fun X' r' hq => ?_, fun a h1 h2 => rfl, hw, ⟨_, rfl⟩⟩
        obtain ⟨rfl, v0, rfl, e0⟩ := hq
        refine ⟨ie ?_, JZ_le hJ (by omega)⟩
        rw [e0]
        unfold sResult
        rw [if_neg (by omega), if_neg (by omega), pIf_neg (fun z => h0e ((hasD hY).mp z))]
        rfl
    · have c_15_2 : ¬ (0 ≤ w.toInt ∧ w.toInt ≤ 3) := c_15_2
      refine V_if_ne_f (pc := 18) (tgt := 24) dX11_result_18 (by decide) (by decide) ?_
      refine V_bipush (pc := 21) (v := (-2)) dX11_result_21 rfl ?_
      refine V_iret (pc := 23) rfl rfl dX11_result_23 (by omega) (by omega) ?_
      refine ⟨fun X' r' hq => ?_, fun a h1 h2 => rfl, hw, ⟨_, rfl⟩⟩
      obtain ⟨rfl, v0, rfl, e0⟩ := hq
      refine ⟨ie ?_, JZ_le hJ (by omega)⟩
      rw [e0]
      unfold sResult
      rw [if_neg (by omega), if_pos (by omega)]
      rfl
set_option maxRecDepth 100000 in
set_option maxHeartbeats 4000000 in
theorem c_X11_isOfClass (G : vG) {n : Nat} {sh : vS} {I : vI} {L : vL} {R : vR} (X : vI) (a j : Nat) (k : Int32) (hK : KD n sh I R X a j) (hk : 0 ≤ k.toInt ∧ k.toInt ≤ 2) : CT G yX11_isOfClass cX11_isOfClass 2 (some .boolean) 0 0 0 [.ref (ad G j), .int k] n sh I L R (PI n sh L R (fun I' o => I = I' ∧ rb o (k.toInt ≤ (X 52 a).toInt))) := by
  refine CT_of (own := RX11) (ini := false) (lo := [(0, .ref (ad G j)), (1, .int k)]) mf_X11_isOfClass (Nat.le_of_ble_eq_true rfl) rfl (fun h => by first | rfl | cases h) rfl ?_
  have hks := kdS hK
  have hk2 := hK.2.2.2.2.2.2.2.2.1
  refine V_iload_n (pc := 0) 1 dX11_isOfClass_0 rfl rfl ?_
  refine V_iconst (pc := 1) (v := 1) dX11_isOfClass_1 rfl ?_
  refine V_icmp_ne (pc := 2) (tgt := 10) dX11_isOfClass_2 (by decide) (fun c_2_1 => ?_) (fun c_2_1 => ?_)
  · have c_2_1 : k.toInt ≠ 1 := c_2_1
    refine V_iload_n (pc := 10) 1 dX11_isOfClass_10 rfl rfl ?_
    refine V_iconst (pc := 11) (v := 2) dX11_isOfClass_11 rfl ?_
    refine V_icmp_ne (pc := 12) (tgt := 20) dX11_isOfClass_12 (by decide) (fun c_12_2 => ?_) (fun c_12_2 => ?_)
    · have c_12_2 : k.toInt ≠ 2 := c_12_2
      refine V_iconst (pc := 20) (v := 1) dX11_isOfClass_20 rfl ?_
      refine V_iret (pc := 21) rfl rfl dX11_isOfClass_21 (by omega) (by omega) ?_
      exact ⟨rfl, rfl, rfl, rfl, rfl, Or.inl ⟨by omega, rfl⟩⟩
    · have c_12_2 : k.toInt = 2 := c_12_2
      refine V_aload_n (pc := 15) 0 dX11_isOfClass_15 rfl rfl ?_
      rcases kdC hK with ⟨hkd, hsj⟩ | ⟨hkd, hsj⟩ | ⟨hkd, hsj⟩
      · refine V_instN (pc := 16) kl_X11_374 (List.mem_of_getElem? (i := 3) rfl) hks.1.1 hsj (by decide) rfl dX11_isOfClass_16 ?_
        refine V_iret (pc := 19) rfl rfl dX11_isOfClass_19 (by omega) (by omega) ?_
        exact ⟨rfl, rfl, rfl, rfl, rfl, Or.inr ⟨by omega, rfl⟩⟩
      · refine V_instN (pc := 16) kl_X11_374 (List.mem_of_getElem? (i := 4) rfl) hks.1.1 hsj (by decide) rfl dX11_isOfClass_16 ?_
        refine V_iret (pc := 19) rfl rfl dX11_isOfClass_19 (by omega) (by omega) ?_
        exact ⟨rfl, rfl, rfl, rfl, rfl, Or.inr ⟨by omega, rfl⟩⟩
      · refine V_inst (pc := 16) 1 kl_X11_374 (Or.inl ⟨rfl, rfl⟩) hks.1.1 hsj (by decide) rfl dX11_isOfClass_16 ?_
        refine V_iret (pc := 19) rfl rfl dX11_isOfClass_19 (by omega) (by omega) ?_
        exact ⟨rfl, rfl, rfl, rfl, rfl, Or.inl ⟨by omega, rfl⟩⟩
  · have c_2_1 : k.toInt = 1 := c_2_1
    refine V_aload_n (pc := 5) 0 dX11_isOfClass_5 rfl rfl ?_
    rcases kdC hK with ⟨hkd, hsj⟩ | ⟨hkd, hsj⟩ | ⟨hkd, hsj⟩
    · refine V_instN (pc := 6) kl_X11_370 (List.mem_of_getElem? (i := 2) rfl) hks.1.1 hsj (by decide) rfl dX11_isOfClass_6 ?_
      refine V_iret (pc := 9) rfl rfl dX11_isOfClass_9 (by omega) (by omega) ?_
      exact ⟨rfl, rfl, rfl, rfl, rfl, Or.inr ⟨by omega, rfl⟩⟩
    · refine V_inst (pc := 6) 1 kl_X11_370 (Or.inl ⟨rfl, rfl⟩) hks.1.1 hsj (by decide) rfl dX11_isOfClass_6 ?_
      refine V_iret (pc := 9) rfl rfl dX11_isOfClass_9 (by omega) (by omega) ?_
      exact ⟨rfl, rfl, rfl, rfl, rfl, Or.inl ⟨by omega, rfl⟩⟩
    · refine V_inst (pc := 6) 1 kl_X11_370 (Or.inr (Or.inl ⟨rfl, List.mem_of_getElem? (i := 0) rfl⟩)) hks.1.1 hsj (by decide) rfl dX11_isOfClass_6 ?_
      refine V_iret (pc := 9) rfl rfl dX11_isOfClass_9 (by omega) (by omega) ?_
      exact ⟨rfl, rfl, rfl, rfl, rfl, Or.inl ⟨by omega, rfl⟩⟩
set_option maxRecDepth 100000 in
set_option maxHeartbeats 4000000 in
theorem c_X11_as (G : vG) {n : Nat} {sh : vS} {I : vI} {L : vL} {R : vR} (t : Int) (X : vI) (car kd : Int32) (hJ : JZ t n sh I L R X) : CT G yX11_as cX11_as 4 (some .int) 2 0 0 [.ref (ad G 0), .int car, .int kd] n sh I L R (ZP t I (qi (sAs X car kd))) := by
  refine CT_of (own := RX11) (ini := false) (lo := [(0, .ref (ad G 0)), (1, .int car), (2, .int kd)]) mf_X11_as (Nat.le_of_ble_eq_true rfl) rfl (fun h => by first | rfl | cases h) rfl ?_
  obtain ⟨⟨hw, hR, hC, hK, hS, hT, hB, hQ, hY, hV⟩, hx⟩ := id hJ
  have c01 : (I 0 1).toInt = (X 27 1).toInt := by rw [hR.1]
  have c06 : (I 0 6).toInt = (X 27 30).toInt := by rw [hC.1]
  have c08 : (I 0 8).toInt = (X 27 35).toInt := by rw [hK.1]
  have c21 : (I 2 1).toInt = (X 27 12).toInt := by rw [hB.1]
  have b01 := hR.2.1
  have b30 := hC.2.1
  have b35 := hK.2.1
  have b12 := hB.2.2.1
  obtain ⟨cy2, cy3, cy6, b24, b27, b25, y13⟩ := JW_d hY
  have i32_1 : (1 : Int32).toInt = 1 := rfl
  have hJ1 := JZ_fault (0 : Int32) hJ
  have hR1 : JRd n sh (up2 I 0 11 0) R X := FRd hR (Nat.le_refl _) (fun _ _ => rfl) rfl rfl (fun i h1 _ _ => up2_o (by omega)) rfl rfl rfl rfl rfl rfl rfl
  have hK1 : JK n sh (up2 I 0 11 0) R X := FKk hK (Nat.le_refl _) (fun _ _ => rfl) rfl (fun _ _ _ => rfl) rfl (fun i h1 _ _ => up2_o (by omega)) rfl rfl rfl rfl rfl rfl rfl
  have hS1 : JS (up2 I 0 11 0) X := FS hS (fun i h1 h2 => up2_o (by omega)) rfl rfl rfl
  have hB1 : JB (up2 I 0 11 0) X := FB hB rfl rfl rfl rfl
  refine V_aload_n (pc := 0) 0 dX11_as_0 rfl rfl ?_
  refine V_iconst (pc := 1) (v := 0) dX11_as_1 rfl ?_
  refine V_putI (pc := 2) fw_X11_81_11 rfl rfl dX11_as_2 (wN hw (by decide)) (wS1 hw (by decide) rfl) ?_
  refine V_aload_n (pc := 5) 0 dX11_as_5 rfl rfl ?_
  refine V_iload_n (pc := 6) 1 dX11_as_6 rfl rfl ?_
  refine V_callV (pc := 7) (As := [.int car]) (st := []) (c_X11_carOf G X car hw hK1) mf_X11_carOf ml_X11_221 iv_X11_carOf (wN hw (by decide)) (wS1 hw (by decide) rfl) (by decide) rfl dX11_as_7 rfl rfl (by omega) (by omega) (by omega) (Nat.le_of_ble_eq_true rfl) (fun r_7_1 n_7_1 sh_7_1 I_7_1 L_7_1 R_7_1 hq_7_1 => ?_)
  obtain ⟨rfl, rfl, rfl, rfl, rfl, hq_7_1⟩ := hq_7_1
  rcases hq_7_1 with ⟨c_7_1, rfl⟩ | ⟨c_7_1, rfl⟩
  · have c_7_1 : ¬ (0 ≤ car.toInt ∧ car.toInt < (X 27 35).toInt) := c_7_1
    refine V_astore_nN (pc := 10) (lo' := [(0, .ref (ad G 0)), (1, .int car), (2, .int kd), (3, .null)]) dX11_as_10 rfl (by decide) rfl ?_
    refine V_aload_nN (pc := 11) 3 dX11_as_11 rfl rfl ?_
    refine V_ifnonnull_n (pc := 12) dX11_as_12 ?_
    refine V_iconst (pc := 15) (v := (-1)) dX11_as_15 rfl ?_
    refine V_iret (pc := 16) rfl rfl dX11_as_16 (by omega) (by omega) ?_
    refine ⟨fun X' r' hq => ?_, fun a h1 h2 => ?_, hw, ⟨_, rfl⟩⟩
    · obtain ⟨v0, e0, rfl⟩ := hq
      unfold sAs isCar at e0
      (repeat' split at e0) <;> first | (exfalso; omega) | (obtain ⟨rfl, rfl⟩ := Prod.mk.inj e0; exact ⟨by (first | rfl | exact congrArg (fun z => some (Value.int z)) (by decide) | (refine ie ?_; (repeat' split) <;> omega)), by (exact JZ_le hJ1 (by omega))⟩)
    · (repeat first | rw [up2_o (by omega)] | rw [cpF_r (by omega)] | rw [uph_o (by omega)]) <;> rfl
  · have c_7_1 : 0 ≤ car.toInt ∧ car.toInt < (X 27 35).toInt := c_7_1
    have hdk := hK1.2.2.1 car.toInt.toNat (by omega)
    have hk56 := hdk.2.1
    have hkn := hdk.2.2.1
    have hks := kdS hdk
    refine V_astore_n (pc := 10) (lo' := [(0, .ref (ad G 0)), (1, .int car), (2, .int kd), (3, .ref (ad G (oj R 17 car.toInt.toNat)))]) dX11_as_10 rfl (by decide) rfl ?_
    refine V_aload_n (pc := 11) 3 dX11_as_11 rfl rfl ?_
    refine V_ifnonnull_r (pc := 12) (tgt := 17) dX11_as_12 (by decide) ?_
    refine V_iload_n (pc := 17) 2 dX11_as_17 rfl rfl ?_
    refine V_iconst (pc := 18) (v := 0) dX11_as_18 rfl ?_
    refine V_iconst (pc := 19) (v := 2) dX11_as_19 rfl ?_
    refine V_callS (pc := 20) (As := [.int kd, .int 0, .int 2]) (st := []) (c_X11_isWithin G kd 0 2) mf_X11_isWithin ml_X11_61 st_X11_isWithin dX11_as_20 rfl rfl (by omega) (by omega) (by omega) (Nat.le_of_ble_eq_true rfl) (fun r_20_2 n_20_2 sh_20_2 I_20_2 L_20_2 R_20_2 hq_20_2 => ?_)
    obtain ⟨rfl, rfl, rfl, rfl, rfl, hq_20_2⟩ := hq_20_2
    rcases hq_20_2 with ⟨c_20_2, rfl⟩ | ⟨c_20_2, rfl⟩
    · have c_20_2 : 0 ≤ kd.toInt ∧ kd.toInt ≤ 2 := c_20_2
      refine V_if_ne_t (pc := 23) (tgt := 29) dX11_as_23 (by decide) (by decide) ?_
      refine V_aload_n (pc := 29) 3 dX11_as_29 rfl rfl ?_
      refine V_iload_n (pc := 30) 2 dX11_as_30 rfl rfl ?_
      refine V_callS (pc := 31) (As := [.ref (ad G (oj R 17 car.toInt.toNat)), .int kd]) (st := []) (c_X11_isOfClass G X car.toInt.toNat (oj R 17 car.toInt.toNat) kd hdk (by omega)) mf_X11_isOfClass ml_X11_284 st_X11_isOfClass dX11_as_31 rfl rfl (by omega) (by omega) (by omega) (Nat.le_of_ble_eq_true rfl) (fun r_31_3 n_31_3 sh_31_3 I_31_3 L_31_3 R_31_3 hq_31_3 => ?_)
      obtain ⟨rfl, rfl, rfl, rfl, rfl, hq_31_3⟩ := hq_31_3
      rcases hq_31_3 with ⟨hof, rfl⟩ | ⟨hof, rfl⟩
      · skip
        refine V_if_eq_f (pc := 34) (tgt := 41) dX11_as_34 (by decide) (by decide) ?_
        refine V_iconst (pc := 37) (v := 1) dX11_as_37 rfl ?_
        refine V_goto (pc := 38) (tgt := 46) dX11_as_38 (by decide) ?_
        refine V_iret (pc := 46) rfl rfl dX11_as_46 (by omega) (by omega) ?_
        refine ⟨fun X' r' hq => ?_, fun a h1 h2 => ?_, hw, ⟨_, rfl⟩⟩
        · obtain ⟨v0, e0, rfl⟩ := hq
          unfold sAs isCar at e0
          (repeat' split at e0) <;> first | (exfalso; omega) | (obtain ⟨rfl, rfl⟩ := Prod.mk.inj e0; exact ⟨by (first | rfl | exact congrArg (fun z => some (Value.int z)) (by decide) | (refine ie ?_; (repeat' split) <;> omega)), by (exact JZ_le hJ1 (by omega))⟩)
        · (repeat first | rw [up2_o (by omega)] | rw [cpF_r (by omega)] | rw [uph_o (by omega)]) <;> rfl
      · skip
        refine V_if_eq_t (pc := 34) (tgt := 41) dX11_as_34 (by decide) (by decide) ?_
        refine V_aload_n (pc := 41) 0 dX11_as_41 rfl rfl ?_
        refine V_iconst (pc := 42) (v := 2) dX11_as_42 rfl ?_
        refine V_callV (pc := 43) (As := [.int 2]) (st := []) (c_X11_answerOfFault G 2 hw) mf_X11_answerOfFault ml_X11_89 iv_X11_answerOfFault (wN hw (by decide)) (wS1 hw (by decide) rfl) (by decide) rfl dX11_as_43 rfl rfl (by omega) (by omega) (by omega) (Nat.le_of_ble_eq_true rfl) (fun r_43_4 n_43_4 sh_43_4 I_43_4 L_43_4 R_43_4 hq_43_4 => ?_)
        obtain ⟨rfl, rfl, rfl, rfl, rfl, rfl⟩ := hq_43_4
        refine V_iret (pc := 46) rfl rfl dX11_as_46 (by omega) (by omega) ?_
        refine ⟨fun X' r' hq => ?_, fun a h1 h2 => ?_, hw, ⟨_, rfl⟩⟩
        · obtain ⟨v0, e0, rfl⟩ := hq
          unfold sAs isCar at e0
          (repeat' split at e0) <;> first | (exfalso; omega) | (obtain ⟨rfl, rfl⟩ := Prod.mk.inj e0; exact ⟨by (first | rfl | exact congrArg (fun z => some (Value.int z)) (by decide) | (refine ie ?_; (repeat' split) <;> omega)), by (rw [← up2_up (f := X) (v := 0)]; exact JZ_le (JZ_fault _ hJ1) (by omega))⟩)
        · (repeat first | rw [up2_o (by omega)] | rw [cpF_r (by omega)] | rw [uph_o (by omega)]) <;> rfl
    · have c_20_2 : ¬ (0 ≤ kd.toInt ∧ kd.toInt ≤ 2) := c_20_2
      refine V_if_ne_f (pc := 23) (tgt := 29) dX11_as_23 (by decide) (by decide) ?_
      refine V_bipush (pc := 26) (v := (-2)) dX11_as_26 rfl ?_
      refine V_iret (pc := 28) rfl rfl dX11_as_28 (by omega) (by omega) ?_
      refine ⟨fun X' r' hq => ?_, fun a h1 h2 => ?_, hw, ⟨_, rfl⟩⟩
      · obtain ⟨v0, e0, rfl⟩ := hq
        unfold sAs isCar at e0
        (repeat' split at e0) <;> first | (exfalso; omega) | (obtain ⟨rfl, rfl⟩ := Prod.mk.inj e0; exact ⟨by (first | rfl | exact congrArg (fun z => some (Value.int z)) (by decide) | (refine ie ?_; (repeat' split) <;> omega)), by (exact JZ_le hJ1 (by omega))⟩)
      · (repeat first | rw [up2_o (by omega)] | rw [cpF_r (by omega)] | rw [uph_o (by omega)]) <;> rfl
set_option maxRecDepth 100000 in
set_option maxHeartbeats 4000000 in
theorem c_X11_tell (G : vG) {n : Nat} {sh : vS} {I : vI} {L : vL} {R : vR} (t : Int) (X : vI) (r : Int32) (hJ : JZ t n sh I L R X) : CT G yX11_tell cX11_tell 3 (some .int) 4 0 0 [.ref (ad G 0), .int r] n sh I L R (ZP t I (qi (sTell X r))) := by
  refine CT_of (own := RX11) (ini := false) (lo := [(0, .ref (ad G 0)), (1, .int r)]) mf_X11_tell (Nat.le_of_ble_eq_true rfl) rfl (fun h => by first | rfl | cases h) rfl ?_
  obtain ⟨⟨hw, hR, hC, hK, hS, hT, hB, hQ, hY, hV⟩, hx⟩ := id hJ
  have c01 : (I 0 1).toInt = (X 27 1).toInt := by rw [hR.1]
  have c06 : (I 0 6).toInt = (X 27 30).toInt := by rw [hC.1]
  have c08 : (I 0 8).toInt = (X 27 35).toInt := by rw [hK.1]
  have c21 : (I 2 1).toInt = (X 27 12).toInt := by rw [hB.1]
  have b01 := hR.2.1
  have b30 := hC.2.1
  have b35 := hK.2.1
  have b12 := hB.2.2.1
  obtain ⟨cy2, cy3, cy6, b24, b27, b25, y13⟩ := JW_d hY
  refine V_aload_n (pc := 0) 0 dX11_tell_0 rfl rfl ?_
  refine V_iload_n (pc := 1) 1 dX11_tell_1 rfl rfl ?_
  refine V_callV (pc := 2) (As := [.int r]) (st := []) (c_X11_roadOf G X r hw hR) mf_X11_roadOf ml_X11_73 iv_X11_roadOf (wN hw (by decide)) (wS1 hw (by decide) rfl) (by decide) rfl dX11_tell_2 rfl rfl (by omega) (by omega) (by omega) (Nat.le_of_ble_eq_true rfl) (fun r_2_1 n_2_1 sh_2_1 I_2_1 L_2_1 R_2_1 hq_2_1 => ?_)
  obtain ⟨rfl, rfl, rfl, rfl, rfl, hq_2_1⟩ := hq_2_1
  rcases hq_2_1 with ⟨c_2_1, rfl⟩ | ⟨c_2_1, rfl⟩
  · have c_2_1 : ¬ (0 ≤ r.toInt ∧ r.toInt < (X 27 1).toInt) := c_2_1
    refine V_astore_nN (pc := 5) (lo' := [(0, .ref (ad G 0)), (1, .int r), (2, .null)]) dX11_tell_5 rfl (by decide) rfl ?_
    refine V_aload_nN (pc := 6) 2 dX11_tell_6 rfl rfl ?_
    refine V_ifnonnull_n (pc := 7) dX11_tell_7 ?_
    refine V_iconst (pc := 10) (v := (-1)) dX11_tell_10 rfl ?_
    refine V_iret (pc := 11) rfl rfl dX11_tell_11 (by omega) (by omega) ?_
    refine ⟨fun X' r' hq => ?_, fun a h1 h2 => ?_, hw, ⟨_, rfl⟩⟩
    · obtain ⟨v0, e0, rfl⟩ := hq
      unfold sTell isRoad at e0
      (repeat' split at e0) <;> first | (exfalso; omega) | (obtain ⟨rfl, rfl⟩ := Prod.mk.inj e0; exact ⟨by (exact rfl), by (exact JZ_le hJ (by omega))⟩)
    · (repeat first | rw [up2_o (by omega)] | rw [cpF_r (by omega)] | rw [uph_o (by omega)]) <;> rfl
  · have c_2_1 : 0 ≤ r.toInt ∧ r.toInt < (X 27 1).toInt := c_2_1
    have hd := hR.2.2.1 r.toInt.toNat (by omega)
    have h56 := hd.2.1
    have hdt := RDt hd
    refine V_astore_n (pc := 5) (lo' := [(0, .ref (ad G 0)), (1, .int r), (2, .ref (ad G (oj R 1 r.toInt.toNat)))]) dX11_tell_5 rfl (by decide) rfl ?_
    refine V_aload_n (pc := 6) 2 dX11_tell_6 rfl rfl ?_
    refine V_ifnonnull_r (pc := 7) (tgt := 12) dX11_tell_7 (by decide) ?_
    refine V_aload_n (pc := 12) 2 dX11_tell_12 rfl rfl ?_
    refine V_aload_n (pc := 13) 0 dX11_tell_13 rfl rfl ?_
    rcases rdK hd with ⟨hsj, hkd⟩ | ⟨hsj, hkd⟩ | ⟨hsj, hkd⟩
    · refine V_callO (pc := 14) (As := [.ref (ad G 0)]) (st := []) (c_X7_telling G (oj R 1 r.toInt.toNat) hw hd.2.2.1 (Or.inl hsj) h56) mf_X7_telling ov_X11_277_7 hd.2.2.1 hsj (by decide) rfl dX11_tell_14 rfl rfl (by omega) (by omega) (by omega) (Nat.le_of_ble_eq_true rfl) (fun r_14_2 n_14_2 sh_14_2 I_14_2 L_14_2 R_14_2 hq_14_2 => ?_)
      obtain ⟨rfl, rfl, rfl, rfl, rfl, rfl⟩ := hq_14_2
      refine V_iret (pc := 17) rfl rfl dX11_tell_17 (by omega) (by omega) ?_
      refine ⟨fun X' r' hq => ?_, fun a h1 h2 => ?_, hw, ⟨_, rfl⟩⟩
      · obtain ⟨v0, e0, rfl⟩ := hq
        unfold sTell at e0
        have h30 : I (oj R 1 r.toInt.toNat) 2 = X 30 r.toInt.toNat := hd.2.2.2.2.1.2.2.1
        rw [if_neg (by omega), if_neg (by omega), if_neg (by omega)] at e0
        obtain ⟨rfl, rfl⟩ := Prod.mk.inj e0
        refine ⟨by rw [h30, if_neg (by omega)], ?_⟩
        unfold trF
        rw [hT.1]
        exact JZ_le (JZ_trace _ hJ) (by omega)
      · (repeat first | rw [up2_o (by omega)] | rw [cpF_r (by omega)] | rw [uph_o (by omega)]) <;> rfl
    · refine V_callO (pc := 14) (As := [.ref (ad G 0)]) (st := []) (c_X6_telling G (oj R 1 r.toInt.toNat) hw hd.2.2.1 hsj h56) mf_X6_telling ov_X11_277_6 hd.2.2.1 hsj (by decide) rfl dX11_tell_14 rfl rfl (by omega) (by omega) (by omega) (Nat.le_of_ble_eq_true rfl) (fun r_14_3 n_14_3 sh_14_3 I_14_3 L_14_3 R_14_3 hq_14_3 => ?_)
      obtain ⟨rfl, rfl, rfl, rfl, rfl, rfl⟩ := hq_14_3
      refine V_iret (pc := 17) rfl rfl dX11_tell_17 (by omega) (by omega) ?_
      refine ⟨fun X' r' hq => ?_, fun a h1 h2 => ?_, hw, ⟨_, rfl⟩⟩
      · obtain ⟨v0, e0, rfl⟩ := hq
        unfold sTell at e0
        have h30 : I (oj R 1 r.toInt.toNat) 2 = X 30 r.toInt.toNat := hd.2.2.2.2.1.2.2.1
        rw [if_neg (by omega), if_pos (by omega)] at e0
        obtain ⟨rfl, rfl⟩ := Prod.mk.inj e0
        refine ⟨by rw [h30], ?_⟩
        rw [trF_2, hT.1]
        exact JZ_le (JZ_trace _ (JZ_trace _ hJ)) (by omega)
      · (repeat first | rw [up2_o (by omega)] | rw [cpF_r (by omega)] | rw [uph_o (by omega)]) <;> rfl
    · refine V_callO (pc := 14) (As := [.ref (ad G 0)]) (st := []) (c_X3_telling G (oj R 1 r.toInt.toNat) hw hd.2.2.1 hsj h56) mf_X3_telling ov_X11_277_3 hd.2.2.1 hsj (by decide) rfl dX11_tell_14 rfl rfl (by omega) (by omega) (by omega) (Nat.le_of_ble_eq_true rfl) (fun r_14_4 n_14_4 sh_14_4 I_14_4 L_14_4 R_14_4 hq_14_4 => ?_)
      obtain ⟨rfl, rfl, rfl, rfl, rfl, rfl⟩ := hq_14_4
      refine V_iret (pc := 17) rfl rfl dX11_tell_17 (by omega) (by omega) ?_
      refine ⟨fun X' r' hq => ?_, fun a h1 h2 => ?_, hw, ⟨_, rfl⟩⟩
      · obtain ⟨v0, e0, rfl⟩ := hq
        unfold sTell at e0
        have h30 : I (oj R 1 r.toInt.toNat) 2 = X 30 r.toInt.toNat := hd.2.2.2.2.1.2.2.1
        rw [if_neg (by omega), if_neg (by omega), if_pos (by omega)] at e0
        obtain ⟨rfl, rfl⟩ := Prod.mk.inj e0
        refine ⟨by rw [h30, hd.2.2.2.2.2.1 hkd], ?_⟩
        rw [trF_2, hT.1]
        exact JZ_le (JZ_trace _ (JZ_trace _ hJ)) (by omega)
      · (repeat first | rw [up2_o (by omega)] | rw [cpF_r (by omega)] | rw [uph_o (by omega)]) <;> rfl
set_option maxRecDepth 100000 in
set_option maxHeartbeats 4000000 in
theorem c_X11_greet (G : vG) {n : Nat} {sh : vS} {I : vI} {L : vL} {R : vR} (t : Int) (X : vI) (car : Int32) (hJ : JZ t n sh I L R X) : CT G yX11_greet cX11_greet 3 (some .int) 4 0 0 [.ref (ad G 0), .int car] n sh I L R (ZP t I (qi (sGreet X car))) := by
  refine CT_of (own := RX11) (ini := false) (lo := [(0, .ref (ad G 0)), (1, .int car)]) mf_X11_greet (Nat.le_of_ble_eq_true rfl) rfl (fun h => by first | rfl | cases h) rfl ?_
  obtain ⟨⟨hw, hR, hC, hK, hS, hT, hB, hQ, hY, hV⟩, hx⟩ := id hJ
  have c01 : (I 0 1).toInt = (X 27 1).toInt := by rw [hR.1]
  have c06 : (I 0 6).toInt = (X 27 30).toInt := by rw [hC.1]
  have c08 : (I 0 8).toInt = (X 27 35).toInt := by rw [hK.1]
  have c21 : (I 2 1).toInt = (X 27 12).toInt := by rw [hB.1]
  have b01 := hR.2.1
  have b30 := hC.2.1
  have b35 := hK.2.1
  have b12 := hB.2.2.1
  obtain ⟨cy2, cy3, cy6, b24, b27, b25, y13⟩ := JW_d hY
  refine V_aload_n (pc := 0) 0 dX11_greet_0 rfl rfl ?_
  refine V_iload_n (pc := 1) 1 dX11_greet_1 rfl rfl ?_
  refine V_callV (pc := 2) (As := [.int car]) (st := []) (c_X11_carOf G X car hw hK) mf_X11_carOf ml_X11_221 iv_X11_carOf (wN hw (by decide)) (wS1 hw (by decide) rfl) (by decide) rfl dX11_greet_2 rfl rfl (by omega) (by omega) (by omega) (Nat.le_of_ble_eq_true rfl) (fun r_2_1 n_2_1 sh_2_1 I_2_1 L_2_1 R_2_1 hq_2_1 => ?_)
  obtain ⟨rfl, rfl, rfl, rfl, rfl, hq_2_1⟩ := hq_2_1
  rcases hq_2_1 with ⟨c_2_1, rfl⟩ | ⟨c_2_1, rfl⟩
  · have c_2_1 : ¬ (0 ≤ car.toInt ∧ car.toInt < (X 27 35).toInt) := c_2_1
    refine V_astore_nN (pc := 5) (lo' := [(0, .ref (ad G 0)), (1, .int car), (2, .null)]) dX11_greet_5 rfl (by decide) rfl ?_
    refine V_aload_nN (pc := 6) 2 dX11_greet_6 rfl rfl ?_
    refine V_ifnonnull_n (pc := 7) dX11_greet_7 ?_
    refine V_iconst (pc := 10) (v := (-1)) dX11_greet_10 rfl ?_
    refine V_iret (pc := 11) rfl rfl dX11_greet_11 (by omega) (by omega) ?_
    refine ⟨fun X' r' hq => ?_, fun a h1 h2 => ?_, hw, ⟨_, rfl⟩⟩
    · obtain ⟨v0, e0, rfl⟩ := hq
      unfold sGreet isCar at e0
      (repeat' split at e0) <;> first | (exfalso; omega) | (obtain ⟨rfl, rfl⟩ := Prod.mk.inj e0; exact ⟨by (exact rfl), by (exact JZ_le hJ (by omega))⟩)
    · (repeat first | rw [up2_o (by omega)] | rw [cpF_r (by omega)] | rw [uph_o (by omega)]) <;> rfl
  · have c_2_1 : 0 ≤ car.toInt ∧ car.toInt < (X 27 35).toInt := c_2_1
    have hdk := hK.2.2.1 car.toInt.toNat (by omega)
    have hk56 := hdk.2.1
    have hkn := hdk.2.2.1
    have hks := kdS hdk
    refine V_astore_n (pc := 5) (lo' := [(0, .ref (ad G 0)), (1, .int car), (2, .ref (ad G (oj R 17 car.toInt.toNat)))]) dX11_greet_5 rfl (by decide) rfl ?_
    refine V_aload_n (pc := 6) 2 dX11_greet_6 rfl rfl ?_
    refine V_ifnonnull_r (pc := 7) (tgt := 12) dX11_greet_7 (by decide) ?_
    refine V_aload_n (pc := 12) 2 dX11_greet_12 rfl rfl ?_
    refine V_aload_n (pc := 13) 0 dX11_greet_13 rfl rfl ?_
    rcases kdC hdk with ⟨hkd, hsj⟩ | ⟨hkd, hsj⟩ | ⟨hkd, hsj⟩
    · refine V_callO (pc := 14) (As := [.ref (ad G 0)]) (st := []) (c_X1_greeting G (oj R 17 car.toInt.toNat) hw hks.1.1 hsj hk56) mf_X1_greeting ov_X11_281_1 hks.1.1 hsj (by decide) rfl dX11_greet_14 rfl rfl (by omega) (by omega) (by omega) (Nat.le_of_ble_eq_true rfl) (fun r_14_2 n_14_2 sh_14_2 I_14_2 L_14_2 R_14_2 hq_14_2 => ?_)
      obtain ⟨rfl, rfl, rfl, rfl, rfl, rfl⟩ := hq_14_2
      refine V_iret (pc := 17) rfl rfl dX11_greet_17 (by omega) (by omega) ?_
      refine ⟨fun X' r' hq => ?_, fun a h1 h2 => ?_, hw, ⟨_, rfl⟩⟩
      · obtain ⟨v0, e0, rfl⟩ := hq
        unfold sGreet at e0
        rw [if_neg (by omega), if_pos (by omega)] at e0
        obtain ⟨rfl, rfl⟩ := Prod.mk.inj e0
        refine ⟨by rw [show I (oj R 17 car.toInt.toNat) 0 = car from ti_eq.mpr (by have := hdk.2.2.2.2.2.2.1; omega)], ?_⟩
        unfold trF
        rw [hT.1]
        exact JZ_le (JZ_trace _ hJ) (by omega)
      · (repeat first | rw [up2_o (by omega)] | rw [cpF_r (by omega)] | rw [uph_o (by omega)]) <;> rfl
    · refine V_callO (pc := 14) (As := [.ref (ad G 0)]) (st := []) (c_X5_greeting G (oj R 17 car.toInt.toNat) hw) mf_X5_greeting ov_X11_281_5 hks.1.1 hsj (by decide) rfl dX11_greet_14 rfl rfl (by omega) (by omega) (by omega) (Nat.le_of_ble_eq_true rfl) (fun r_14_3 n_14_3 sh_14_3 I_14_3 L_14_3 R_14_3 hq_14_3 => ?_)
      obtain ⟨rfl, rfl, rfl, rfl, rfl, rfl⟩ := hq_14_3
      refine V_iret (pc := 17) rfl rfl dX11_greet_17 (by omega) (by omega) ?_
      refine ⟨fun X' r' hq => ?_, fun a h1 h2 => ?_, hw, ⟨_, rfl⟩⟩
      · obtain ⟨v0, e0, rfl⟩ := hq
        unfold sGreet at e0
        rw [if_neg (by omega), if_neg (by omega), if_neg (by omega)] at e0
        obtain ⟨rfl, rfl⟩ := Prod.mk.inj e0
        refine ⟨rfl, ?_⟩
        unfold trF
        rw [hT.1]
        exact JZ_le (JZ_trace _ hJ) (by omega)
      · (repeat first | rw [up2_o (by omega)] | rw [cpF_r (by omega)] | rw [uph_o (by omega)]) <;> rfl
    · refine V_callO (pc := 14) (As := [.ref (ad G 0)]) (st := []) (c_X4_greeting G (oj R 17 car.toInt.toNat) hw hks.1.1 hsj hk56) mf_X4_greeting ov_X11_281_4 hks.1.1 hsj (by decide) rfl dX11_greet_14 rfl rfl (by omega) (by omega) (by omega) (Nat.le_of_ble_eq_true rfl) (fun r_14_4 n_14_4 sh_14_4 I_14_4 L_14_4 R_14_4 hq_14_4 => ?_)
      obtain ⟨rfl, rfl, rfl, rfl, rfl, rfl⟩ := hq_14_4
      refine V_iret (pc := 17) rfl rfl dX11_greet_17 (by omega) (by omega) ?_
      refine ⟨fun X' r' hq => ?_, fun a h1 h2 => ?_, hw, ⟨_, rfl⟩⟩
      · obtain ⟨v0, e0, rfl⟩ := hq
        unfold sGreet at e0
        rw [if_neg (by omega), if_neg (by omega), if_pos (by omega)] at e0
        obtain ⟨rfl, rfl⟩ := Prod.mk.inj e0
        refine ⟨rfl, ?_⟩
        rw [trF_2, hT.1]
        exact JZ_le (JZ_trace _ (JZ_trace _ hJ)) (by omega)
      · (repeat first | rw [up2_o (by omega)] | rw [cpF_r (by omega)] | rw [uph_o (by omega)]) <;> rfl
set_option maxRecDepth 100000 in
set_option maxHeartbeats 4000000 in
theorem c_X11_trace (G : vG) {n : Nat} {sh : vS} {I : vI} {L : vL} {R : vR} (t : Int) (X : vI) (hJ : JZ t n sh I L R X) : CT G yX11_trace cX11_trace 1 (some .int) 0 0 0 [.ref (ad G 0)] n sh I L R (ZP t I (eN X (X 27 42))) := by
  refine CT_of (own := RX11) (ini := false) (lo := [(0, .ref (ad G 0))]) mf_X11_trace (Nat.le_of_ble_eq_true rfl) rfl (fun h => by first | rfl | cases h) rfl ?_
  obtain ⟨⟨hw, hR, hC, hK, hS, hT, hB, hQ, hY, hV⟩, hx⟩ := id hJ
  have c01 : (I 0 1).toInt = (X 27 1).toInt := by rw [hR.1]
  have c06 : (I 0 6).toInt = (X 27 30).toInt := by rw [hC.1]
  have c08 : (I 0 8).toInt = (X 27 35).toInt := by rw [hK.1]
  have c21 : (I 2 1).toInt = (X 27 12).toInt := by rw [hB.1]
  have b01 := hR.2.1
  have b30 := hC.2.1
  have b35 := hK.2.1
  have b12 := hB.2.2.1
  obtain ⟨cy2, cy3, cy6, b24, b27, b25, y13⟩ := JW_d hY
  refine V_aload_n (pc := 0) 0 dX11_trace_0 rfl rfl ?_
  refine V_gI (pc := 1) (v := (I 0 10)) rfl fk_X11_288_11 dX11_trace_1 (wN hw (by decide)) (wS1 hw (by decide) rfl) ?_
  refine V_iret (pc := 4) rfl rfl dX11_trace_4 (by omega) (by omega) ?_
  refine ⟨fun X' r' hq => ?_, fun a h1 h2 => rfl, hw, ⟨_, rfl⟩⟩
  obtain ⟨rfl, rfl⟩ := hq
  exact ⟨by rw [hT.1], JZ_le hJ (by omega)⟩
set_option maxRecDepth 100000 in
set_option maxHeartbeats 4000000 in
theorem c_X11_fault (G : vG) {n : Nat} {sh : vS} {I : vI} {L : vL} {R : vR} (t : Int) (X : vI) (hJ : JZ t n sh I L R X) : CT G yX11_fault cX11_fault 1 (some .int) 0 0 0 [.ref (ad G 0)] n sh I L R (ZP t I (eN X (X 27 0))) := by
  refine CT_of (own := RX11) (ini := false) (lo := [(0, .ref (ad G 0))]) mf_X11_fault (Nat.le_of_ble_eq_true rfl) rfl (fun h => by first | rfl | cases h) rfl ?_
  obtain ⟨⟨hw, hR, hC, hK, hS, hT, hB, hQ, hY, hV⟩, hx⟩ := id hJ
  have c01 : (I 0 1).toInt = (X 27 1).toInt := by rw [hR.1]
  have c06 : (I 0 6).toInt = (X 27 30).toInt := by rw [hC.1]
  have c08 : (I 0 8).toInt = (X 27 35).toInt := by rw [hK.1]
  have c21 : (I 2 1).toInt = (X 27 12).toInt := by rw [hB.1]
  have b01 := hR.2.1
  have b30 := hC.2.1
  have b35 := hK.2.1
  have b12 := hB.2.2.1
  obtain ⟨cy2, cy3, cy6, b24, b27, b25, y13⟩ := JW_d hY
  refine V_aload_n (pc := 0) 0 dX11_fault_0 rfl rfl ?_
  refine V_gI (pc := 1) (v := (I 0 11)) rfl fk_X11_81_11 dX11_fault_1 (wN hw (by decide)) (wS1 hw (by decide) rfl) ?_
  refine V_iret (pc := 4) rfl rfl dX11_fault_4 (by omega) (by omega) ?_
  refine ⟨fun X' r' hq => ?_, fun a h1 h2 => rfl, hw, ⟨_, rfl⟩⟩
  obtain ⟨rfl, rfl⟩ := hq
  exact ⟨by rw [hT.2], JZ_le hJ (by omega)⟩
set_option maxRecDepth 100000 in
set_option maxHeartbeats 4000000 in
theorem c_X11_told (G : vG) {n : Nat} {sh : vS} {I : vI} {L : vL} {R : vR} (t : Int) (X : vI) (w : Int32) (hJ : JZ t n sh I L R X) : CT G yX11_told cX11_told 2 (some .int) 0 0 0 [.ref (ad G 0), .int w] n sh I L R (ZP t I (eN X (sTold X w))) := by
  refine CT_of (own := RX11) (ini := false) (lo := [(0, .ref (ad G 0)), (1, .int w)]) mf_X11_told (Nat.le_of_ble_eq_true rfl) rfl (fun h => by first | rfl | cases h) rfl ?_
  obtain ⟨⟨hw, hR, hC, hK, hS, hT, hB, hQ, hY, hV⟩, hx⟩ := id hJ
  have c01 : (I 0 1).toInt = (X 27 1).toInt := by rw [hR.1]
  have c06 : (I 0 6).toInt = (X 27 30).toInt := by rw [hC.1]
  have c08 : (I 0 8).toInt = (X 27 35).toInt := by rw [hK.1]
  have c21 : (I 2 1).toInt = (X 27 12).toInt := by rw [hB.1]
  have b01 := hR.2.1
  have b30 := hC.2.1
  have b35 := hK.2.1
  have b12 := hB.2.2.1
  obtain ⟨cy2, cy3, cy6, b24, b27, b25, y13⟩ := JW_d hY
  refine V_iload_n (pc := 0) 1 dX11_told_0 rfl rfl ?_
  by_cases c_1_1 : 0 ≤ w.toInt ∧ w.toInt ≤ 7
  · rcases (show w.toInt = 0 ∨ w.toInt = 1 ∨ w.toInt = 2 ∨ w.toInt = 3 ∨ w.toInt = 4 ∨ w.toInt = 5 ∨ w.toInt = 6 ∨ w.toInt = 7 by omega) with k_1_1 | k_1_1 | k_1_1 | k_1_1 | k_1_1 | k_1_1 | k_1_1 | k_1_1
    · refine V_tableIn (pc := 1) (tgt := 48) (off := 47) dX11_told_1 (by omega) (by omega) (by rw [k_1_1]; rfl) (by decide) ?_
      refine V_aload_n (pc := 48) 0 dX11_told_48 rfl rfl ?_
      refine V_gI (pc := 49) (v := (I 0 1)) rfl fk_X11_65_11 dX11_told_49 (wN hw (by decide)) (wS1 hw (by decide) rfl) ?_
      refine V_iret (pc := 52) rfl rfl dX11_told_52 (by omega) (by omega) ?_
      refine ⟨fun X' r' hq => ?_, fun a h1 h2 => rfl, hw, ⟨_, rfl⟩⟩
      obtain ⟨rfl, rfl⟩ := hq
      refine ⟨ie ?_, JZ_le hJ (by omega)⟩
      have c47 : (I 4 7).toInt = (X 27 14).toInt := by rw [hQ.1]
      have z25 : (X 27 24).toInt = 0 → (X 27 25).toInt = 0 := hx.2.2.1
      have z0 : (0 : Int32).toInt = 0 := rfl
      unfold sTold
      (repeat' split) <;> first | rfl | omega
    · refine V_tableIn (pc := 1) (tgt := 53) (off := 52) dX11_told_1 (by omega) (by omega) (by rw [k_1_1]; rfl) (by decide) ?_
      refine V_aload_n (pc := 53) 0 dX11_told_53 rfl rfl ?_
      refine V_getR (pc := 54) (j := 11) fk_X11_34_11 (wR hw (i := 0) (k := 4) (j := 11) rfl) dX11_told_54 (wN hw (by decide)) (wS1 hw (by decide) rfl) ?_
      refine V_gI (pc := 57) (v := (I 11 2)) rfl fk_X11_150_10 dX11_told_57 (wN hw (by decide)) (wS1 hw (by decide) rfl) ?_
      refine V_iret (pc := 60) rfl rfl dX11_told_60 (by omega) (by omega) ?_
      refine ⟨fun X' r' hq => ?_, fun a h1 h2 => rfl, hw, ⟨_, rfl⟩⟩
      obtain ⟨rfl, rfl⟩ := hq
      refine ⟨ie ?_, JZ_le hJ (by omega)⟩
      have c47 : (I 4 7).toInt = (X 27 14).toInt := by rw [hQ.1]
      have z25 : (X 27 24).toInt = 0 → (X 27 25).toInt = 0 := hx.2.2.1
      have z0 : (0 : Int32).toInt = 0 := rfl
      unfold sTold
      (repeat' split) <;> first | rfl | omega
    · refine V_tableIn (pc := 1) (tgt := 61) (off := 60) dX11_told_1 (by omega) (by omega) (by rw [k_1_1]; rfl) (by decide) ?_
      refine V_aload_n (pc := 61) 0 dX11_told_61 rfl rfl ?_
      refine V_getR (pc := 62) (j := 11) fk_X11_34_11 (wR hw (i := 0) (k := 4) (j := 11) rfl) dX11_told_62 (wN hw (by decide)) (wS1 hw (by decide) rfl) ?_
      refine V_gI (pc := 65) (v := (I 11 3)) rfl fk_X11_164_10 dX11_told_65 (wN hw (by decide)) (wS1 hw (by decide) rfl) ?_
      refine V_iret (pc := 68) rfl rfl dX11_told_68 (by omega) (by omega) ?_
      refine ⟨fun X' r' hq => ?_, fun a h1 h2 => rfl, hw, ⟨_, rfl⟩⟩
      obtain ⟨rfl, rfl⟩ := hq
      refine ⟨ie ?_, JZ_le hJ (by omega)⟩
      have c47 : (I 4 7).toInt = (X 27 14).toInt := by rw [hQ.1]
      have z25 : (X 27 24).toInt = 0 → (X 27 25).toInt = 0 := hx.2.2.1
      have z0 : (0 : Int32).toInt = 0 := rfl
      unfold sTold
      (repeat' split) <;> first | rfl | omega
    · refine V_tableIn (pc := 1) (tgt := 69) (off := 68) dX11_told_1 (by omega) (by omega) (by rw [k_1_1]; rfl) (by decide) ?_
      refine V_aload_n (pc := 69) 0 dX11_told_69 rfl rfl ?_
      refine V_getR (pc := 70) (j := 11) fk_X11_34_11 (wR hw (i := 0) (k := 4) (j := 11) rfl) dX11_told_70 (wN hw (by decide)) (wS1 hw (by decide) rfl) ?_
      refine V_gI (pc := 73) (v := (I 11 6)) rfl fk_X11_167_10 dX11_told_73 (wN hw (by decide)) (wS1 hw (by decide) rfl) ?_
      refine V_iret (pc := 76) rfl rfl dX11_told_76 (by omega) (by omega) ?_
      refine ⟨fun X' r' hq => ?_, fun a h1 h2 => rfl, hw, ⟨_, rfl⟩⟩
      obtain ⟨rfl, rfl⟩ := hq
      refine ⟨ie ?_, JZ_le hJ (by omega)⟩
      have c47 : (I 4 7).toInt = (X 27 14).toInt := by rw [hQ.1]
      have z25 : (X 27 24).toInt = 0 → (X 27 25).toInt = 0 := hx.2.2.1
      have z0 : (0 : Int32).toInt = 0 := rfl
      unfold sTold
      (repeat' split) <;> first | rfl | omega
    · refine V_tableIn (pc := 1) (tgt := 77) (off := 76) dX11_told_1 (by omega) (by omega) (by rw [k_1_1]; rfl) (by decide) ?_
      refine V_aload_n (pc := 77) 0 dX11_told_77 rfl rfl ?_
      refine V_gI (pc := 78) (v := (I 0 6)) rfl fk_X11_186_11 dX11_told_78 (wN hw (by decide)) (wS1 hw (by decide) rfl) ?_
      refine V_iret (pc := 81) rfl rfl dX11_told_81 (by omega) (by omega) ?_
      refine ⟨fun X' r' hq => ?_, fun a h1 h2 => rfl, hw, ⟨_, rfl⟩⟩
      obtain ⟨rfl, rfl⟩ := hq
      refine ⟨ie ?_, JZ_le hJ (by omega)⟩
      have c47 : (I 4 7).toInt = (X 27 14).toInt := by rw [hQ.1]
      have z25 : (X 27 24).toInt = 0 → (X 27 25).toInt = 0 := hx.2.2.1
      have z0 : (0 : Int32).toInt = 0 := rfl
      unfold sTold
      (repeat' split) <;> first | rfl | omega
    · refine V_tableIn (pc := 1) (tgt := 82) (off := 81) dX11_told_1 (by omega) (by omega) (by rw [k_1_1]; rfl) (by decide) ?_
      refine V_aload_n (pc := 82) 0 dX11_told_82 rfl rfl ?_
      refine V_gI (pc := 83) (v := (I 0 8)) rfl fk_X11_214_11 dX11_told_83 (wN hw (by decide)) (wS1 hw (by decide) rfl) ?_
      refine V_iret (pc := 86) rfl rfl dX11_told_86 (by omega) (by omega) ?_
      refine ⟨fun X' r' hq => ?_, fun a h1 h2 => rfl, hw, ⟨_, rfl⟩⟩
      obtain ⟨rfl, rfl⟩ := hq
      refine ⟨ie ?_, JZ_le hJ (by omega)⟩
      have c47 : (I 4 7).toInt = (X 27 14).toInt := by rw [hQ.1]
      have z25 : (X 27 24).toInt = 0 → (X 27 25).toInt = 0 := hx.2.2.1
      have z0 : (0 : Int32).toInt = 0 := rfl
      unfold sTold
      (repeat' split) <;> first | rfl | omega
    · refine V_tableIn (pc := 1) (tgt := 87) (off := 86) dX11_told_1 (by omega) (by omega) (by rw [k_1_1]; rfl) (by decide) ?_
      refine V_aload_n (pc := 87) 0 dX11_told_87 rfl rfl ?_
      refine V_getR (pc := 88) (j := 2) fk_X11_20_11 (wR hw (i := 0) (k := 2) (j := 2) rfl) dX11_told_88 (wN hw (by decide)) (wS1 hw (by decide) rfl) ?_
      refine V_gI (pc := 91) (v := (I 2 1)) rfl fk_X11_135_0 dX11_told_91 (wN hw (by decide)) (wS1 hw (by decide) rfl) ?_
      refine V_iret (pc := 94) rfl rfl dX11_told_94 (by omega) (by omega) ?_
      refine ⟨fun X' r' hq => ?_, fun a h1 h2 => rfl, hw, ⟨_, rfl⟩⟩
      obtain ⟨rfl, rfl⟩ := hq
      refine ⟨ie ?_, JZ_le hJ (by omega)⟩
      have c47 : (I 4 7).toInt = (X 27 14).toInt := by rw [hQ.1]
      have z25 : (X 27 24).toInt = 0 → (X 27 25).toInt = 0 := hx.2.2.1
      have z0 : (0 : Int32).toInt = 0 := rfl
      unfold sTold
      (repeat' split) <;> first | rfl | omega
    · refine V_tableIn (pc := 1) (tgt := 95) (off := 94) dX11_told_1 (by omega) (by omega) (by rw [k_1_1]; rfl) (by decide) ?_
      refine V_aload_n (pc := 95) 0 dX11_told_95 rfl rfl ?_
      refine V_getR (pc := 96) (j := 4) fk_X11_27_11 (wR hw (i := 0) (k := 3) (j := 4) rfl) dX11_told_96 (wN hw (by decide)) (wS1 hw (by decide) rfl) ?_
      refine V_gI (pc := 99) (v := (I 4 7)) rfl fk_X11_291_8 dX11_told_99 (wN hw (by decide)) (wS1 hw (by decide) rfl) ?_
      refine V_iret (pc := 102) rfl rfl dX11_told_102 (by omega) (by omega) ?_
      refine ⟨fun X' r' hq => ?_, fun a h1 h2 => rfl, hw, ⟨_, rfl⟩⟩
      obtain ⟨rfl, rfl⟩ := hq
      refine ⟨ie ?_, JZ_le hJ (by omega)⟩
      have c47 : (I 4 7).toInt = (X 27 14).toInt := by rw [hQ.1]
      have z25 : (X 27 24).toInt = 0 → (X 27 25).toInt = 0 := hx.2.2.1
      have z0 : (0 : Int32).toInt = 0 := rfl
      unfold sTold
      (repeat' split) <;> first | rfl | omega
  · refine V_tableOut (pc := 1) (tgt := 103) dX11_told_1 (by omega) (by decide) ?_
    refine V_bipush (pc := 103) (v := (-2)) dX11_told_103 rfl ?_
    refine V_iret (pc := 105) rfl rfl dX11_told_105 (by omega) (by omega) ?_
    refine ⟨fun X' r' hq => ?_, fun a h1 h2 => rfl, hw, ⟨_, rfl⟩⟩
    obtain ⟨rfl, rfl⟩ := hq
    refine ⟨ie ?_, JZ_le hJ (by omega)⟩
    have c47 : (I 4 7).toInt = (X 27 14).toInt := by rw [hQ.1]
    have z25 : (X 27 24).toInt = 0 → (X 27 25).toInt = 0 := hx.2.2.1
    have z0 : (0 : Int32).toInt = 0 := rfl
    unfold sTold
    (repeat' split) <;> first | rfl | omega
