set_option maxRecDepth 100000 in
set_option maxHeartbeats 4000000 in
theorem c_X11_shut (G : vG) {n : Nat} {sh : vS} {I : vI} {L : vL} {R : vR} (t : Int) (X : vI) (r b : Int32) (hJ : JZ t n sh I L R X) (hb : b.toInt = 0 ∨ b.toInt = 1) : CT G yX11_shut cX11_shut 4 (some .int) 2 0 0 [.ref (ad G 0), .int r, .int b] n sh I L R (ZP t I (qi (sShut X r b))) := by
  refine CT_of (own := RX11) (ini := false) (lo := [(0, .ref (ad G 0)), (1, .int r), (2, .int b)]) mf_X11_shut (Nat.le_of_ble_eq_true rfl) rfl (fun h => by first | rfl | cases h) rfl ?_
  obtain ⟨⟨hw, hR, hC, hK, hS, hT, hB, hQ, hY, hV⟩, hx⟩ := id hJ
  have c01 : (I 0 1).toInt = (X 27 1).toInt := by rw [hR.1]
  have c06 : (I 0 6).toInt = (X 27 30).toInt := by rw [hC.1]
  have c08 : (I 0 8).toInt = (X 27 35).toInt := by rw [hK.1]
  have c21 : (I 2 1).toInt = (X 27 12).toInt := by rw [hB.1]
  have b01 := hR.2.1
  have b30 := hC.2.1
  have b35 := hK.2.1
  have b12 := hB.2.2.1
  obtain ⟨cy2, cy3, cy6, b24, b27, b25, y13⟩ := JW_d hY
  refine V_aload_n (pc := 0) 0 dX11_shut_0 rfl rfl ?_
  refine V_iload_n (pc := 1) 1 dX11_shut_1 rfl rfl ?_
  refine V_callV (pc := 2) (As := [.int r]) (st := []) (c_X11_roadOf G X r hw hR) mf_X11_roadOf ml_X11_73 iv_X11_roadOf (wN hw (by decide)) (wS1 hw (by decide) rfl) (by decide) rfl dX11_shut_2 rfl rfl (by omega) (by omega) (by omega) (Nat.le_of_ble_eq_true rfl) (fun r_2_1 n_2_1 sh_2_1 I_2_1 L_2_1 R_2_1 hq_2_1 => ?_)
  obtain ⟨rfl, rfl, rfl, rfl, rfl, hq_2_1⟩ := hq_2_1
  rcases hq_2_1 with ⟨c_2_1, rfl⟩ | ⟨c_2_1, rfl⟩
  · have c_2_1 : ¬ (0 ≤ r.toInt ∧ r.toInt < (X 27 1).toInt) := c_2_1
    refine V_astore_nN (pc := 5) (lo' := [(0, .ref (ad G 0)), (1, .int r), (2, .int b), (3, .null)]) dX11_shut_5 rfl (by decide) rfl ?_
    refine V_aload_nN (pc := 6) 3 dX11_shut_6 rfl rfl ?_
    refine V_ifnonnull_n (pc := 7) dX11_shut_7 ?_
    refine V_iconst (pc := 10) (v := (-1)) dX11_shut_10 rfl ?_
    refine V_iret (pc := 11) rfl rfl dX11_shut_11 (by omega) (by omega) ?_
    refine ⟨fun X' r' hq => ?_, fun a h1 h2 => ?_, hw, ⟨_, rfl⟩⟩
    · obtain ⟨v0, e0, rfl⟩ := hq
      unfold sShut isRoad at e0
      (repeat' split at e0) <;> first | (exfalso; omega) | (obtain ⟨rfl, rfl⟩ := Prod.mk.inj e0; exact ⟨by (first | rfl | (refine ie ?_; (repeat' split) <;> omega) | (refine le' ?_; (repeat' split) <;> omega)), by (exact JZ_le hJ (by omega))⟩)
    · (repeat first | rw [up2_o (by omega)] | rw [cpF_r (by omega)] | rw [uph_o (by omega)]) <;> rfl
  · have c_2_1 : 0 ≤ r.toInt ∧ r.toInt < (X 27 1).toInt := c_2_1
    have hd := hR.2.2.1 r.toInt.toNat (by omega)
    have h56 := hd.2.1
    have hdt := RDt hd
    refine V_astore_n (pc := 5) (lo' := [(0, .ref (ad G 0)), (1, .int r), (2, .int b), (3, .ref (ad G (oj R 1 r.toInt.toNat)))]) dX11_shut_5 rfl (by decide) rfl ?_
    refine V_aload_n (pc := 6) 3 dX11_shut_6 rfl rfl ?_
    refine V_ifnonnull_r (pc := 7) (tgt := 12) dX11_shut_7 (by decide) ?_
    refine V_aload_n (pc := 12) 3 dX11_shut_12 rfl rfl ?_
    refine V_gI (pc := 13) (v := (I (oj R 1 r.toInt.toNat) 4)) rfl (fk_X11_77_s (rdcl hd)) dX11_shut_13 hd.2.2.1 rfl ?_
    refine V_iload_n (pc := 16) 2 dX11_shut_16 rfl rfl ?_
    refine V_icmp_ne (pc := 17) (tgt := 22) dX11_shut_17 (by decide) (fun c_17_2 => ?_) (fun c_17_2 => ?_)
    · have c_17_2 : (I (oj R 1 r.toInt.toNat) 4).toInt ≠ b.toInt := c_17_2
      refine V_aload_n (pc := 22) 3 dX11_shut_22 rfl rfl ?_
      refine V_iload_n (pc := 23) 2 dX11_shut_23 rfl rfl ?_
      refine V_putI (pc := 24) (fw_X11_77_s (rdcl hd)) (nbool (by omega)) (fbool (by omega)) dX11_shut_24 hd.2.2.1 rfl ?_
      refine V_iconst (pc := 27) (v := 1) dX11_shut_27 rfl ?_
      refine V_iret (pc := 28) rfl rfl dX11_shut_28 (by omega) (by omega) ?_
      refine ⟨fun X' r' hq => ?_, fun a h1 h2 => ?_, hw, ⟨_, rfl⟩⟩
      · obtain ⟨v0, e0, rfl⟩ := hq
        unfold sShut isRoad at e0
        (repeat' split at e0) <;> first | (exfalso; omega) | (obtain ⟨rfl, rfl⟩ := Prod.mk.inj e0; exact ⟨by (first | rfl | (refine ie ?_; (repeat' split) <;> omega) | (refine le' ?_; (repeat' split) <;> omega)), by (exact JZ_le (JZ_shut r.toInt.toNat _ b hJ (by omega) rfl hb) (by omega))⟩)
      · (repeat first | rw [up2_o (by omega)] | rw [cpF_r (by omega)] | rw [uph_o (by omega)]) <;> rfl
    · have c_17_2 : (I (oj R 1 r.toInt.toNat) 4).toInt = b.toInt := c_17_2
      refine V_iconst (pc := 20) (v := 0) dX11_shut_20 rfl ?_
      refine V_iret (pc := 21) rfl rfl dX11_shut_21 (by omega) (by omega) ?_
      refine ⟨fun X' r' hq => ?_, fun a h1 h2 => ?_, hw, ⟨_, rfl⟩⟩
      · obtain ⟨v0, e0, rfl⟩ := hq
        unfold sShut isRoad at e0
        (repeat' split at e0) <;> first | (exfalso; omega) | (obtain ⟨rfl, rfl⟩ := Prod.mk.inj e0; exact ⟨by (first | rfl | (refine ie ?_; (repeat' split) <;> omega) | (refine le' ?_; (repeat' split) <;> omega)), by (rw [up2_id (ti_eq.mpr (by omega))]; exact JZ_le hJ (by omega))⟩)
      · (repeat first | rw [up2_o (by omega)] | rw [cpF_r (by omega)] | rw [uph_o (by omega)]) <;> rfl
set_option maxRecDepth 100000 in
set_option maxHeartbeats 4000000 in
theorem c_X11_strike (G : vG) {n : Nat} {sh : vS} {I : vI} {L : vL} {R : vR} (t : Int) (X : vI) (c b : Int32) (hJ : JZ t n sh I L R X) (hb : b.toInt = 0 ∨ b.toInt = 1) : CT G yX11_strike cX11_strike 4 (some .int) 2 0 0 [.ref (ad G 0), .int c, .int b] n sh I L R (ZP t I (qi (sStrike X c b))) := by
  refine CT_of (own := RX11) (ini := false) (lo := [(0, .ref (ad G 0)), (1, .int c), (2, .int b)]) mf_X11_strike (Nat.le_of_ble_eq_true rfl) rfl (fun h => by first | rfl | cases h) rfl ?_
  obtain ⟨⟨hw, hR, hC, hK, hS, hT, hB, hQ, hY, hV⟩, hx⟩ := id hJ
  have c01 : (I 0 1).toInt = (X 27 1).toInt := by rw [hR.1]
  have c06 : (I 0 6).toInt = (X 27 30).toInt := by rw [hC.1]
  have c08 : (I 0 8).toInt = (X 27 35).toInt := by rw [hK.1]
  have c21 : (I 2 1).toInt = (X 27 12).toInt := by rw [hB.1]
  have b01 := hR.2.1
  have b30 := hC.2.1
  have b35 := hK.2.1
  have b12 := hB.2.2.1
  obtain ⟨cy2, cy3, cy6, b24, b27, b25, y13⟩ := JW_d hY
  refine V_aload_n (pc := 0) 0 dX11_strike_0 rfl rfl ?_
  refine V_iload_n (pc := 1) 1 dX11_strike_1 rfl rfl ?_
  refine V_callV (pc := 2) (As := [.int c]) (st := []) (c_X11_controlOf G X c hw hC) mf_X11_controlOf ml_X11_192 iv_X11_controlOf (wN hw (by decide)) (wS1 hw (by decide) rfl) (by decide) rfl dX11_strike_2 rfl rfl (by omega) (by omega) (by omega) (Nat.le_of_ble_eq_true rfl) (fun r_2_1 n_2_1 sh_2_1 I_2_1 L_2_1 R_2_1 hq_2_1 => ?_)
  obtain ⟨rfl, rfl, rfl, rfl, rfl, hq_2_1⟩ := hq_2_1
  rcases hq_2_1 with ⟨c_2_1, rfl⟩ | ⟨c_2_1, rfl⟩
  · have c_2_1 : ¬ (0 ≤ c.toInt ∧ c.toInt < (X 27 30).toInt) := c_2_1
    refine V_astore_nN (pc := 5) (lo' := [(0, .ref (ad G 0)), (1, .int c), (2, .int b), (3, .null)]) dX11_strike_5 rfl (by decide) rfl ?_
    refine V_aload_nN (pc := 6) 3 dX11_strike_6 rfl rfl ?_
    refine V_ifnonnull_n (pc := 7) dX11_strike_7 ?_
    refine V_iconst (pc := 10) (v := (-1)) dX11_strike_10 rfl ?_
    refine V_iret (pc := 11) rfl rfl dX11_strike_11 (by omega) (by omega) ?_
    refine ⟨fun X' r' hq => ?_, fun a h1 h2 => ?_, hw, ⟨_, rfl⟩⟩
    · obtain ⟨v0, e0, rfl⟩ := hq
      unfold sStrike isCtl at e0
      (repeat' split at e0) <;> first | (exfalso; omega) | (obtain ⟨rfl, rfl⟩ := Prod.mk.inj e0; exact ⟨by (first | rfl | (refine ie ?_; (repeat' split) <;> omega) | (refine le' ?_; (repeat' split) <;> omega)), by (exact JZ_le hJ (by omega))⟩)
    · (repeat first | rw [up2_o (by omega)] | rw [cpF_r (by omega)] | rw [uph_o (by omega)]) <;> rfl
  · have c_2_1 : 0 ≤ c.toInt ∧ c.toInt < (X 27 30).toInt := c_2_1
    have hdc := hC.2.2.1 c.toInt.toNat (by omega)
    have hc56 := hdc.2.1
    have hdct := cdF hC c.toInt.toNat (by omega)
    refine V_astore_n (pc := 5) (lo' := [(0, .ref (ad G 0)), (1, .int c), (2, .int b), (3, .ref (ad G (oj R 16 c.toInt.toNat)))]) dX11_strike_5 rfl (by decide) rfl ?_
    refine V_aload_n (pc := 6) 3 dX11_strike_6 rfl rfl ?_
    refine V_ifnonnull_r (pc := 7) (tgt := 12) dX11_strike_7 (by decide) ?_
    refine V_aload_n (pc := 12) 3 dX11_strike_12 rfl rfl ?_
    refine V_gI (pc := 13) (v := (I (oj R 16 c.toInt.toNat) 1)) rfl fk_X11_210_2 dX11_strike_13 hdc.2.2.1 (by rw [hdc.2.2.2.1]) ?_
    refine V_iload_n (pc := 16) 2 dX11_strike_16 rfl rfl ?_
    refine V_icmp_ne (pc := 17) (tgt := 22) dX11_strike_17 (by decide) (fun c_17_2 => ?_) (fun c_17_2 => ?_)
    · have c_17_2 : (I (oj R 16 c.toInt.toNat) 1).toInt ≠ b.toInt := c_17_2
      refine V_aload_n (pc := 22) 3 dX11_strike_22 rfl rfl ?_
      refine V_iload_n (pc := 23) 2 dX11_strike_23 rfl rfl ?_
      refine V_putI (pc := 24) fw_X11_210_2 (nbool (by omega)) (fbool (by omega)) dX11_strike_24 hdc.2.2.1 (by rw [hdc.2.2.2.1]) ?_
      refine V_iconst (pc := 27) (v := 1) dX11_strike_27 rfl ?_
      refine V_iret (pc := 28) rfl rfl dX11_strike_28 (by omega) (by omega) ?_
      refine ⟨fun X' r' hq => ?_, fun a h1 h2 => ?_, hw, ⟨_, rfl⟩⟩
      · obtain ⟨v0, e0, rfl⟩ := hq
        unfold sStrike isCtl at e0
        (repeat' split at e0) <;> first | (exfalso; omega) | (obtain ⟨rfl, rfl⟩ := Prod.mk.inj e0; exact ⟨by (first | rfl | (refine ie ?_; (repeat' split) <;> omega) | (refine le' ?_; (repeat' split) <;> omega)), by (exact JZ_le (JZ_strike c.toInt.toNat _ b hJ (by omega) rfl hb) (by omega))⟩)
      · (repeat first | rw [up2_o (by omega)] | rw [cpF_r (by omega)] | rw [uph_o (by omega)]) <;> rfl
    · have c_17_2 : (I (oj R 16 c.toInt.toNat) 1).toInt = b.toInt := c_17_2
      refine V_iconst (pc := 20) (v := 0) dX11_strike_20 rfl ?_
      refine V_iret (pc := 21) rfl rfl dX11_strike_21 (by omega) (by omega) ?_
      refine ⟨fun X' r' hq => ?_, fun a h1 h2 => ?_, hw, ⟨_, rfl⟩⟩
      · obtain ⟨v0, e0, rfl⟩ := hq
        unfold sStrike isCtl at e0
        (repeat' split at e0) <;> first | (exfalso; omega) | (obtain ⟨rfl, rfl⟩ := Prod.mk.inj e0; exact ⟨by (first | rfl | (refine ie ?_; (repeat' split) <;> omega) | (refine le' ?_; (repeat' split) <;> omega)), by (rw [up2_id (ti_eq.mpr (by omega))]; exact JZ_le hJ (by omega))⟩)
      · (repeat first | rw [up2_o (by omega)] | rw [cpF_r (by omega)] | rw [uph_o (by omega)]) <;> rfl
set_option maxRecDepth 100000 in
set_option maxHeartbeats 4000000 in
theorem c_X11_wet (G : vG) {n : Nat} {sh : vS} {I : vI} {L : vL} {R : vR} (t : Int) (X : vI) (r b : Int32) (hJ : JZ t n sh I L R X) (hb : b.toInt = 0 ∨ b.toInt = 1) : CT G yX11_wet cX11_wet 6 (some .int) 2 0 0 [.ref (ad G 0), .int r, .int b] n sh I L R (ZP t I (qi (sWet X r b))) := by
  refine CT_of (own := RX11) (ini := false) (lo := [(0, .ref (ad G 0)), (1, .int r), (2, .int b)]) mf_X11_wet (Nat.le_of_ble_eq_true rfl) rfl (fun h => by first | rfl | cases h) rfl ?_
  obtain ⟨⟨hw, hR, hC, hK, hS, hT, hB, hQ, hY, hV⟩, hx⟩ := id hJ
  have c01 : (I 0 1).toInt = (X 27 1).toInt := by rw [hR.1]
  have c06 : (I 0 6).toInt = (X 27 30).toInt := by rw [hC.1]
  have c08 : (I 0 8).toInt = (X 27 35).toInt := by rw [hK.1]
  have c21 : (I 2 1).toInt = (X 27 12).toInt := by rw [hB.1]
  have b01 := hR.2.1
  have b30 := hC.2.1
  have b35 := hK.2.1
  have b12 := hB.2.2.1
  obtain ⟨cy2, cy3, cy6, b24, b27, b25, y13⟩ := JW_d hY
  have i32_1 : (1 : Int32).toInt = 1 := rfl
  have hJ1 := JZ_fault (0 : Int32) hJ
  have hR1 : JRd n sh (up2 I 0 11 0) R X := FRd hR (Nat.le_refl _) (fun _ _ => rfl) rfl rfl (fun i h1 _ _ => up2_o (by omega)) rfl rfl rfl rfl rfl rfl rfl
  have hK1 : JK n sh (up2 I 0 11 0) R X := FKk hK (Nat.le_refl _) (fun _ _ => rfl) rfl (fun _ _ _ => rfl) rfl (fun i h1 _ _ => up2_o (by omega)) rfl rfl rfl rfl rfl rfl rfl
  have hS1 : JS (up2 I 0 11 0) X := FS hS (fun i h1 h2 => up2_o (by omega)) rfl rfl rfl
  have hB1 : JB (up2 I 0 11 0) X := FB hB rfl rfl rfl rfl
  refine V_aload_n (pc := 0) 0 dX11_wet_0 rfl rfl ?_
  refine V_iconst (pc := 1) (v := 0) dX11_wet_1 rfl ?_
  refine V_putI (pc := 2) fw_X11_81_11 rfl rfl dX11_wet_2 (wN hw (by decide)) (wS1 hw (by decide) rfl) ?_
  refine V_aload_n (pc := 5) 0 dX11_wet_5 rfl rfl ?_
  refine V_iload_n (pc := 6) 1 dX11_wet_6 rfl rfl ?_
  refine V_callV (pc := 7) (As := [.int r]) (st := []) (c_X11_roadOf G X r hw hR1) mf_X11_roadOf ml_X11_73 iv_X11_roadOf (wN hw (by decide)) (wS1 hw (by decide) rfl) (by decide) rfl dX11_wet_7 rfl rfl (by omega) (by omega) (by omega) (Nat.le_of_ble_eq_true rfl) (fun r_7_1 n_7_1 sh_7_1 I_7_1 L_7_1 R_7_1 hq_7_1 => ?_)
  obtain ⟨rfl, rfl, rfl, rfl, rfl, hq_7_1⟩ := hq_7_1
  rcases hq_7_1 with ⟨c_7_1, rfl⟩ | ⟨c_7_1, rfl⟩
  · have c_7_1 : ¬ (0 ≤ r.toInt ∧ r.toInt < (X 27 1).toInt) := c_7_1
    refine V_astore_nN (pc := 10) (lo' := [(0, .ref (ad G 0)), (1, .int r), (2, .int b), (3, .null)]) dX11_wet_10 rfl (by decide) rfl ?_
    refine V_aload_nN (pc := 11) 3 dX11_wet_11 rfl rfl ?_
    refine V_ifnonnull_n (pc := 12) dX11_wet_12 ?_
    refine V_iconst (pc := 15) (v := (-1)) dX11_wet_15 rfl ?_
    refine V_iret (pc := 16) rfl rfl dX11_wet_16 (by omega) (by omega) ?_
    refine ⟨fun X' r' hq => ?_, fun a h1 h2 => ?_, hw, ⟨_, rfl⟩⟩
    · obtain ⟨v0, e0, rfl⟩ := hq
      unfold sWet isRoad at e0
      (repeat' split at e0) <;> first | (exfalso; omega) | (obtain ⟨rfl, rfl⟩ := Prod.mk.inj e0; exact ⟨by (first | rfl | exact congrArg (fun z => some (Value.int z)) (by decide) | (refine ie ?_; (repeat' split) <;> omega)), by (exact JZ_le hJ1 (by omega))⟩)
    · (repeat first | rw [up2_o (by omega)] | rw [cpF_r (by omega)] | rw [uph_o (by omega)]) <;> rfl
  · have c_7_1 : 0 ≤ r.toInt ∧ r.toInt < (X 27 1).toInt := c_7_1
    have hd := hR1.2.2.1 r.toInt.toNat (by omega)
    have h56 := hd.2.1
    have hdt := RDt hd
    refine V_astore_n (pc := 10) (lo' := [(0, .ref (ad G 0)), (1, .int r), (2, .int b), (3, .ref (ad G (oj R 1 r.toInt.toNat)))]) dX11_wet_10 rfl (by decide) rfl ?_
    refine V_aload_n (pc := 11) 3 dX11_wet_11 rfl rfl ?_
    refine V_ifnonnull_r (pc := 12) (tgt := 17) dX11_wet_12 (by decide) ?_
    refine V_aload_n (pc := 17) 3 dX11_wet_17 rfl rfl ?_
    rcases rdK hd with ⟨hsj, hkd⟩ | ⟨hsj, hkd⟩ | ⟨hsj, hkd⟩
    · refine V_instN (pc := 18) kl_X11_84 (List.mem_of_getElem? (i := 0) rfl) hd.2.2.1 hsj (by decide) rfl dX11_wet_18 ?_
      refine V_if_eq_t (pc := 21) (tgt := 55) dX11_wet_21 (by decide) (by decide) ?_
      refine V_aload_n (pc := 55) 0 dX11_wet_55 rfl rfl ?_
      refine V_iconst (pc := 56) (v := 2) dX11_wet_56 rfl ?_
      refine V_callV (pc := 57) (As := [.int 2]) (st := []) (c_X11_answerOfFault G 2 hw) mf_X11_answerOfFault ml_X11_89 iv_X11_answerOfFault (wN hw (by decide)) (wS1 hw (by decide) rfl) (by decide) rfl dX11_wet_57 rfl rfl (by omega) (by omega) (by omega) (Nat.le_of_ble_eq_true rfl) (fun r_57_2 n_57_2 sh_57_2 I_57_2 L_57_2 R_57_2 hq_57_2 => ?_)
      obtain ⟨rfl, rfl, rfl, rfl, rfl, rfl⟩ := hq_57_2
      refine V_iret (pc := 60) rfl rfl dX11_wet_60 (by omega) (by omega) ?_
      refine ⟨fun X' r' hq => ?_, fun a h1 h2 => ?_, hw, ⟨_, rfl⟩⟩
      · obtain ⟨v0, e0, rfl⟩ := hq
        unfold sWet isRoad at e0
        (repeat' split at e0) <;> first | (exfalso; omega) | (obtain ⟨rfl, rfl⟩ := Prod.mk.inj e0; exact ⟨by (first | rfl | exact congrArg (fun z => some (Value.int z)) (by decide) | (refine ie ?_; (repeat' split) <;> omega)), by (rw [← up2_up (f := X) (v := 0)]; exact JZ_le (JZ_fault _ hJ1) (by omega))⟩)
      · (repeat first | rw [up2_o (by omega)] | rw [cpF_r (by omega)] | rw [uph_o (by omega)]) <;> rfl
    · refine V_instN (pc := 18) kl_X11_84 (List.mem_of_getElem? (i := 1) rfl) hd.2.2.1 hsj (by decide) rfl dX11_wet_18 ?_
      refine V_if_eq_t (pc := 21) (tgt := 55) dX11_wet_21 (by decide) (by decide) ?_
      refine V_aload_n (pc := 55) 0 dX11_wet_55 rfl rfl ?_
      refine V_iconst (pc := 56) (v := 2) dX11_wet_56 rfl ?_
      refine V_callV (pc := 57) (As := [.int 2]) (st := []) (c_X11_answerOfFault G 2 hw) mf_X11_answerOfFault ml_X11_89 iv_X11_answerOfFault (wN hw (by decide)) (wS1 hw (by decide) rfl) (by decide) rfl dX11_wet_57 rfl rfl (by omega) (by omega) (by omega) (Nat.le_of_ble_eq_true rfl) (fun r_57_3 n_57_3 sh_57_3 I_57_3 L_57_3 R_57_3 hq_57_3 => ?_)
      obtain ⟨rfl, rfl, rfl, rfl, rfl, rfl⟩ := hq_57_3
      refine V_iret (pc := 60) rfl rfl dX11_wet_60 (by omega) (by omega) ?_
      refine ⟨fun X' r' hq => ?_, fun a h1 h2 => ?_, hw, ⟨_, rfl⟩⟩
      · obtain ⟨v0, e0, rfl⟩ := hq
        unfold sWet isRoad at e0
        (repeat' split at e0) <;> first | (exfalso; omega) | (obtain ⟨rfl, rfl⟩ := Prod.mk.inj e0; exact ⟨by (first | rfl | exact congrArg (fun z => some (Value.int z)) (by decide) | (refine ie ?_; (repeat' split) <;> omega)), by (rw [← up2_up (f := X) (v := 0)]; exact JZ_le (JZ_fault _ hJ1) (by omega))⟩)
      · (repeat first | rw [up2_o (by omega)] | rw [cpF_r (by omega)] | rw [uph_o (by omega)]) <;> rfl
    · refine V_inst (pc := 18) 1 kl_X11_84 (Or.inl ⟨rfl, rfl⟩) hd.2.2.1 hsj (by decide) rfl dX11_wet_18 ?_
      refine V_if_eq_f (pc := 21) (tgt := 55) dX11_wet_21 (by decide) (by decide) ?_
      refine V_aload_n (pc := 24) 3 dX11_wet_24 rfl rfl ?_
      refine V_cast (pc := 25) kl_X11_84 rfl hd.2.2.1 hsj (by decide) rfl dX11_wet_25 ?_
      refine V_astore (pc := 28) (lo' := [(0, .ref (ad G 0)), (1, .int r), (2, .int b), (3, .ref (ad G (oj R 1 r.toInt.toNat))), (4, .ref (ad G (oj R 1 r.toInt.toNat)))]) dX11_wet_28 (by decide) rfl ?_
      refine V_aload (pc := 30) 4 dX11_wet_30 rfl ?_
      refine V_gI (pc := 32) (v := ((up2 I 0 11 0) (oj R 1 r.toInt.toNat) 5)) rfl fk_X11_86_3 dX11_wet_32 hd.2.2.1 hsj ?_
      refine V_iload_n (pc := 35) 2 dX11_wet_35 rfl rfl ?_
      refine V_icmp_ne (pc := 36) (tgt := 43) dX11_wet_36 (by decide) (fun c_36_4 => ?_) (fun c_36_4 => ?_)
      · have c_36_4 : ((up2 I 0 11 0) (oj R 1 r.toInt.toNat) 5).toInt ≠ b.toInt := c_36_4
        refine V_iconst (pc := 43) (v := 1) dX11_wet_43 rfl ?_
        refine V_istore (pc := 44) (lo' := [(0, .ref (ad G 0)), (1, .int r), (2, .int b), (3, .ref (ad G (oj R 1 r.toInt.toNat))), (4, .ref (ad G (oj R 1 r.toInt.toNat))), (5, .int 1)]) dX11_wet_44 (by decide) rfl ?_
        refine V_aload (pc := 46) 4 dX11_wet_46 rfl ?_
        refine V_iload_n (pc := 48) 2 dX11_wet_48 rfl rfl ?_
        refine V_putI (pc := 49) fw_X11_86_3 (nbool (by omega)) (fbool (by omega)) dX11_wet_49 hd.2.2.1 hsj ?_
        refine V_iload (pc := 52) 5 dX11_wet_52 rfl ?_
        refine V_iret (pc := 54) rfl rfl dX11_wet_54 (by omega) (by omega) ?_
        refine ⟨fun X' r' hq => ?_, fun a h1 h2 => ?_, hw, ⟨_, rfl⟩⟩
        · obtain ⟨v0, e0, rfl⟩ := hq
          unfold sWet isRoad at e0
          (repeat' split at e0) <;> first | (exfalso; omega) | (obtain ⟨rfl, rfl⟩ := Prod.mk.inj e0; exact ⟨by (first | rfl | exact congrArg (fun z => some (Value.int z)) (by decide) | (refine ie ?_; (repeat' split) <;> omega)), by (rw [show up2 (up2 X 33 r.toInt.toNat b) 27 0 0 = up2 (up2 X 27 0 0) 33 r.toInt.toNat b from up2_cm (Or.inl (by decide))]; exact JZ_le (JZ_wet r.toInt.toNat _ b hJ1 (show ((r.toInt.toNat : Nat) : Int) < (X 27 1).toInt by omega) rfl hb hkd) (by omega))⟩)
        · (repeat first | rw [up2_o (by omega)] | rw [cpF_r (by omega)] | rw [uph_o (by omega)]) <;> rfl
      · have c_36_4 : ((up2 I 0 11 0) (oj R 1 r.toInt.toNat) 5).toInt = b.toInt := c_36_4
        refine V_iconst (pc := 39) (v := 0) dX11_wet_39 rfl ?_
        refine V_goto (pc := 40) (tgt := 44) dX11_wet_40 (by decide) ?_
        refine V_istore (pc := 44) (lo' := [(0, .ref (ad G 0)), (1, .int r), (2, .int b), (3, .ref (ad G (oj R 1 r.toInt.toNat))), (4, .ref (ad G (oj R 1 r.toInt.toNat))), (5, .int 0)]) dX11_wet_44 (by decide) rfl ?_
        refine V_aload (pc := 46) 4 dX11_wet_46 rfl ?_
        refine V_iload_n (pc := 48) 2 dX11_wet_48 rfl rfl ?_
        refine V_putI (pc := 49) fw_X11_86_3 (nbool (by omega)) (fbool (by omega)) dX11_wet_49 hd.2.2.1 hsj ?_
        refine V_iload (pc := 52) 5 dX11_wet_52 rfl ?_
        refine V_iret (pc := 54) rfl rfl dX11_wet_54 (by omega) (by omega) ?_
        refine ⟨fun X' r' hq => ?_, fun a h1 h2 => ?_, hw, ⟨_, rfl⟩⟩
        · obtain ⟨v0, e0, rfl⟩ := hq
          unfold sWet isRoad at e0
          (repeat' split at e0) <;> first | (exfalso; omega) | (obtain ⟨rfl, rfl⟩ := Prod.mk.inj e0; exact ⟨by (first | rfl | exact congrArg (fun z => some (Value.int z)) (by decide) | (refine ie ?_; (repeat' split) <;> omega)), by (rw [show up2 (up2 X 33 r.toInt.toNat b) 27 0 0 = up2 (up2 X 27 0 0) 33 r.toInt.toNat b from up2_cm (Or.inl (by decide))]; exact JZ_le (JZ_wet r.toInt.toNat _ b hJ1 (show ((r.toInt.toNat : Nat) : Int) < (X 27 1).toInt by omega) rfl hb hkd) (by omega))⟩)
        · (repeat first | rw [up2_o (by omega)] | rw [cpF_r (by omega)] | rw [uph_o (by omega)]) <;> rfl
set_option maxRecDepth 100000 in
set_option maxHeartbeats 4000000 in
theorem c_X11_about (G : vG) {n : Nat} {sh : vS} {I : vI} {L : vL} {R : vR} (t : Int) (X : vI) (r w : Int32) (hJ : JZ t n sh I L R X) : CT G yX11_about cX11_about 4 (some .int) 3 0 0 [.ref (ad G 0), .int r, .int w] n sh I L R (ZP t I (iN X (sAbout X r w))) := by
  refine CT_of (own := RX11) (ini := false) (lo := [(0, .ref (ad G 0)), (1, .int r), (2, .int w)]) mf_X11_about (Nat.le_of_ble_eq_true rfl) rfl (fun h => by first | rfl | cases h) rfl ?_
  obtain ⟨⟨hw, hR, hC, hK, hS, hT, hB, hQ, hY, hV⟩, hx⟩ := id hJ
  have c01 : (I 0 1).toInt = (X 27 1).toInt := by rw [hR.1]
  have c06 : (I 0 6).toInt = (X 27 30).toInt := by rw [hC.1]
  have c08 : (I 0 8).toInt = (X 27 35).toInt := by rw [hK.1]
  have c21 : (I 2 1).toInt = (X 27 12).toInt := by rw [hB.1]
  have b01 := hR.2.1
  have b30 := hC.2.1
  have b35 := hK.2.1
  have b12 := hB.2.2.1
  obtain ⟨cy2, cy3, cy6, b24, b27, b25, y13⟩ := JW_d hY
  refine V_aload_n (pc := 0) 0 dX11_about_0 rfl rfl ?_
  refine V_iload_n (pc := 1) 1 dX11_about_1 rfl rfl ?_
  refine V_callV (pc := 2) (As := [.int r]) (st := []) (c_X11_roadOf G X r hw hR) mf_X11_roadOf ml_X11_73 iv_X11_roadOf (wN hw (by decide)) (wS1 hw (by decide) rfl) (by decide) rfl dX11_about_2 rfl rfl (by omega) (by omega) (by omega) (Nat.le_of_ble_eq_true rfl) (fun r_2_1 n_2_1 sh_2_1 I_2_1 L_2_1 R_2_1 hq_2_1 => ?_)
  obtain ⟨rfl, rfl, rfl, rfl, rfl, hq_2_1⟩ := hq_2_1
  rcases hq_2_1 with ⟨c_2_1, rfl⟩ | ⟨c_2_1, rfl⟩
  · have c_2_1 : ¬ (0 ≤ r.toInt ∧ r.toInt < (X 27 1).toInt) := c_2_1
    refine V_astore_nN (pc := 5) (lo' := [(0, .ref (ad G 0)), (1, .int r), (2, .int w), (3, .null)]) dX11_about_5 rfl (by decide) rfl ?_
    refine V_aload_nN (pc := 6) 3 dX11_about_6 rfl rfl ?_
    refine V_ifnonnull_n (pc := 7) dX11_about_7 ?_
    refine V_iconst (pc := 10) (v := (-1)) dX11_about_10 rfl ?_
    refine V_iret (pc := 11) rfl rfl dX11_about_11 (by omega) (by omega) ?_
    refine ⟨fun X' r' hq => ?_, fun a h1 h2 => rfl, hw, ⟨_, rfl⟩⟩
    obtain ⟨rfl, v0, rfl, e0⟩ := hq
    refine ⟨ie ?_, JZ_le hJ (by omega)⟩
    rw [e0]
    unfold sAbout isRoad
    (repeat' split) <;> first | rfl | omega | (exfalso; omega)
  · have c_2_1 : 0 ≤ r.toInt ∧ r.toInt < (X 27 1).toInt := c_2_1
    have hd := hR.2.2.1 r.toInt.toNat (by omega)
    have h56 := hd.2.1
    have hdt := RDt hd
    refine V_astore_n (pc := 5) (lo' := [(0, .ref (ad G 0)), (1, .int r), (2, .int w), (3, .ref (ad G (oj R 1 r.toInt.toNat)))]) dX11_about_5 rfl (by decide) rfl ?_
    refine V_aload_n (pc := 6) 3 dX11_about_6 rfl rfl ?_
    refine V_ifnonnull_r (pc := 7) (tgt := 12) dX11_about_7 (by decide) ?_
    refine V_iload_n (pc := 12) 2 dX11_about_12 rfl rfl ?_
    by_cases c_13_2 : 0 ≤ w.toInt ∧ w.toInt ≤ 5
    · rcases (show w.toInt = 0 ∨ w.toInt = 1 ∨ w.toInt = 2 ∨ w.toInt = 3 ∨ w.toInt = 4 ∨ w.toInt = 5 by omega) with k_13_2 | k_13_2 | k_13_2 | k_13_2 | k_13_2 | k_13_2
      · refine V_tableIn (pc := 13) (tgt := 52) (off := 39) dX11_about_13 (by omega) (by omega) (by rw [k_13_2]; rfl) (by decide) ?_
        refine V_aload_n (pc := 52) 3 dX11_about_52 rfl rfl ?_
        refine V_gI (pc := 53) (v := (I (oj R 1 r.toInt.toNat) 0)) rfl (fk_X11_93_s (rdcl hd)) dX11_about_53 hd.2.2.1 rfl ?_
        refine V_iret (pc := 56) rfl rfl dX11_about_56 (by omega) (by omega) ?_
        refine ⟨fun X' r' hq => ?_, fun a h1 h2 => rfl, hw, ⟨_, rfl⟩⟩
        obtain ⟨rfl, v0, rfl, e0⟩ := hq
        refine ⟨ie ?_, JZ_le hJ (by omega)⟩
        rw [e0]
        unfold sAbout isRoad
        (repeat' split) <;> first | rfl | omega | (exfalso; omega)
      · refine V_tableIn (pc := 13) (tgt := 57) (off := 44) dX11_about_13 (by omega) (by omega) (by rw [k_13_2]; rfl) (by decide) ?_
        refine V_aload_n (pc := 57) 3 dX11_about_57 rfl rfl ?_
        refine V_gI (pc := 58) (v := (I (oj R 1 r.toInt.toNat) 1)) rfl (fk_X11_96_s (rdcl hd)) dX11_about_58 hd.2.2.1 rfl ?_
        refine V_iret (pc := 61) rfl rfl dX11_about_61 (by omega) (by omega) ?_
        refine ⟨fun X' r' hq => ?_, fun a h1 h2 => rfl, hw, ⟨_, rfl⟩⟩
        obtain ⟨rfl, v0, rfl, e0⟩ := hq
        refine ⟨ie ?_, JZ_le hJ (by omega)⟩
        rw [e0]
        unfold sAbout isRoad
        (repeat' split) <;> first | rfl | omega | (exfalso; omega)
      · refine V_tableIn (pc := 13) (tgt := 62) (off := 49) dX11_about_13 (by omega) (by omega) (by rw [k_13_2]; rfl) (by decide) ?_
        refine V_aload_n (pc := 62) 3 dX11_about_62 rfl rfl ?_
        refine V_gI (pc := 63) (v := (I (oj R 1 r.toInt.toNat) 2)) rfl (fk_X11_99_s (rdcl hd)) dX11_about_63 hd.2.2.1 rfl ?_
        refine V_iret (pc := 66) rfl rfl dX11_about_66 (by omega) (by omega) ?_
        refine ⟨fun X' r' hq => ?_, fun a h1 h2 => rfl, hw, ⟨_, rfl⟩⟩
        obtain ⟨rfl, v0, rfl, e0⟩ := hq
        refine ⟨ie ?_, JZ_le hJ (by omega)⟩
        rw [e0]
        unfold sAbout isRoad
        (repeat' split) <;> first | rfl | omega | (exfalso; omega)
      · refine V_tableIn (pc := 13) (tgt := 67) (off := 54) dX11_about_13 (by omega) (by omega) (by rw [k_13_2]; rfl) (by decide) ?_
        refine V_aload_n (pc := 67) 3 dX11_about_67 rfl rfl ?_
        refine V_gI (pc := 68) (v := (I (oj R 1 r.toInt.toNat) 3)) rfl (fk_X11_102_s (rdcl hd)) dX11_about_68 hd.2.2.1 rfl ?_
        refine V_iret (pc := 71) rfl rfl dX11_about_71 (by omega) (by omega) ?_
        refine ⟨fun X' r' hq => ?_, fun a h1 h2 => rfl, hw, ⟨_, rfl⟩⟩
        obtain ⟨rfl, v0, rfl, e0⟩ := hq
        refine ⟨ie ?_, JZ_le hJ (by omega)⟩
        rw [e0]
        unfold sAbout isRoad
        (repeat' split) <;> first | rfl | omega | (exfalso; omega)
      · refine V_tableIn (pc := 13) (tgt := 72) (off := 59) dX11_about_13 (by omega) (by omega) (by rw [k_13_2]; rfl) (by decide) ?_
        refine V_aload_n (pc := 72) 3 dX11_about_72 rfl rfl ?_
        refine V_isO (pc := 73) (st := []) hw hd ov_X11_105_7 ov_X11_105_6 ov_X11_105_3 dX11_about_73 (by omega) (by omega) (by omega) (Nat.le_of_ble_eq_true rfl) (fun hop => ?_) (fun hop => ?_)
        · skip
          refine V_if_eq_f (pc := 76) (tgt := 83) dX11_about_76 (by decide) (by decide) ?_
          refine V_iconst (pc := 79) (v := 0) dX11_about_79 rfl ?_
          refine V_goto (pc := 80) (tgt := 84) dX11_about_80 (by decide) ?_
          refine V_iret (pc := 84) rfl rfl dX11_about_84 (by omega) (by omega) ?_
          refine ⟨fun X' r' hq => ?_, fun a h1 h2 => rfl, hw, ⟨_, rfl⟩⟩
          obtain ⟨rfl, v0, rfl, e0⟩ := hq
          refine ⟨ie ?_, JZ_le hJ (by omega)⟩
          rw [e0]
          unfold sAbout isRoad
          (repeat' split) <;> first | rfl | omega | (exfalso; omega)
        · skip
          refine V_if_eq_t (pc := 76) (tgt := 83) dX11_about_76 (by decide) (by decide) ?_
          refine V_iconst (pc := 83) (v := 1) dX11_about_83 rfl ?_
          refine V_iret (pc := 84) rfl rfl dX11_about_84 (by omega) (by omega) ?_
          refine ⟨fun X' r' hq => ?_, fun a h1 h2 => rfl, hw, ⟨_, rfl⟩⟩
          obtain ⟨rfl, v0, rfl, e0⟩ := hq
          refine ⟨ie ?_, JZ_le hJ (by omega)⟩
          rw [e0]
          unfold sAbout isRoad
          (repeat' split) <;> first | rfl | omega | (exfalso; omega)
      · refine V_tableIn (pc := 13) (tgt := 85) (off := 72) dX11_about_13 (by omega) (by omega) (by rw [k_13_2]; rfl) (by decide) ?_
        refine V_aload_n (pc := 85) 0 dX11_about_85 rfl rfl ?_
        refine V_getR (pc := 86) (j := 11) fk_X11_34_11 (wR hw (i := 0) (k := 4) (j := 11) rfl) dX11_about_86 (wN hw (by decide)) (wS1 hw (by decide) rfl) ?_
        refine V_iload_n (pc := 89) 1 dX11_about_89 rfl rfl ?_
        refine V_callV (pc := 90) (As := [.int r]) (st := []) (c_X10_placeOfRoad G X r hw b24 hY.1 hY.2.2.2.1) mf_X10_placeOfRoad ml_X11_109 iv_X10_placeOfRoad (wN hw (by decide)) (wS1 hw (by decide) rfl) (by decide) rfl dX11_about_90 rfl rfl (by omega) (by omega) (by omega) (Nat.le_of_ble_eq_true rfl) (fun r_90_3 n_90_3 sh_90_3 I_90_3 L_90_3 R_90_3 hq_90_3 => ?_)
        obtain ⟨rfl, rfl, rfl, rfl, rfl, v_90_3, rfl, hv_90_3⟩ := hq_90_3
        refine V_iret (pc := 93) rfl rfl dX11_about_93 (by omega) (by omega) ?_
        refine ⟨fun X' r' hq => ?_, fun a h1 h2 => rfl, hw, ⟨_, rfl⟩⟩
        obtain ⟨rfl, v0, rfl, e0⟩ := hq
        refine ⟨ie ?_, JZ_le hJ (by omega)⟩
        rw [e0]
        unfold sAbout isRoad
        (repeat' split) <;> first | rfl | omega | (exfalso; omega)
    · refine V_tableOut (pc := 13) (tgt := 94) dX11_about_13 (by omega) (by decide) ?_
      refine V_bipush (pc := 94) (v := (-2)) dX11_about_94 rfl ?_
      refine V_iret (pc := 96) rfl rfl dX11_about_96 (by omega) (by omega) ?_
      refine ⟨fun X' r' hq => ?_, fun a h1 h2 => rfl, hw, ⟨_, rfl⟩⟩
      obtain ⟨rfl, v0, rfl, e0⟩ := hq
      refine ⟨ie ?_, JZ_le hJ (by omega)⟩
      rw [e0]
      unfold sAbout isRoad
      (repeat' split) <;> first | rfl | omega | (exfalso; omega)
set_option maxRecDepth 100000 in
set_option maxHeartbeats 4000000 in
theorem c_X11_laid (G : vG) {n : Nat} {sh : vS} {I : vI} {L : vL} {R : vR} (t : Int) (X : vI) (i : Int32) (hJ : JZ t n sh I L R X) : CT G yX11_laid cX11_laid 2 (some .int) 1 0 0 [.ref (ad G 0), .int i] n sh I L R (ZP t I (eN X (sLaid X i))) := by
  refine CT_of (own := RX11) (ini := false) (lo := [(0, .ref (ad G 0)), (1, .int i)]) mf_X11_laid (Nat.le_of_ble_eq_true rfl) rfl (fun h => by first | rfl | cases h) rfl ?_
  obtain ⟨⟨hw, hR, hC, hK, hS, hT, hB, hQ, hY, hV⟩, hx⟩ := id hJ
  have c01 : (I 0 1).toInt = (X 27 1).toInt := by rw [hR.1]
  have c06 : (I 0 6).toInt = (X 27 30).toInt := by rw [hC.1]
  have c08 : (I 0 8).toInt = (X 27 35).toInt := by rw [hK.1]
  have c21 : (I 2 1).toInt = (X 27 12).toInt := by rw [hB.1]
  have b01 := hR.2.1
  have b30 := hC.2.1
  have b35 := hK.2.1
  have b12 := hB.2.2.1
  obtain ⟨cy2, cy3, cy6, b24, b27, b25, y13⟩ := JW_d hY
  refine V_iload_n (pc := 0) 1 dX11_laid_0 rfl rfl ?_
  refine V_iconst (pc := 1) (v := 0) dX11_laid_1 rfl ?_
  refine V_aload_n (pc := 2) 0 dX11_laid_2 rfl rfl ?_
  refine V_getR (pc := 3) (j := 11) fk_X11_34_11 (wR hw (i := 0) (k := 4) (j := 11) rfl) dX11_laid_3 (wN hw (by decide)) (wS1 hw (by decide) rfl) ?_
  refine V_gI (pc := 6) (v := (I 11 2)) rfl fk_X11_150_10 dX11_laid_6 (wN hw (by decide)) (wS1 hw (by decide) rfl) ?_
  refine V_iconst (pc := 9) (v := 1) dX11_laid_9 rfl ?_
  refine V_isub (pc := 10) dX11_laid_10 (fun x_10_1 e_10_1 => ?_)
  have t_10_1 : x_10_1.toInt = (I 11 2).toInt - 1 := subT e_10_1 rfl rfl (by omega) (by omega)
  refine V_callS (pc := 11) (As := [.int i, .int 0, .int x_10_1]) (st := []) (c_X11_isWithin G i 0 x_10_1) mf_X11_isWithin ml_X11_61 st_X11_isWithin dX11_laid_11 rfl rfl (by omega) (by omega) (by omega) (Nat.le_of_ble_eq_true rfl) (fun r_11_2 n_11_2 sh_11_2 I_11_2 L_11_2 R_11_2 hq_11_2 => ?_)
  obtain ⟨rfl, rfl, rfl, rfl, rfl, hq_11_2⟩ := hq_11_2
  rcases hq_11_2 with ⟨c_11_2, rfl⟩ | ⟨c_11_2, rfl⟩
  · have c_11_2 : 0 ≤ i.toInt ∧ i.toInt ≤ x_10_1.toInt := c_11_2
    refine V_if_eq_f (pc := 14) (tgt := 29) dX11_laid_14 (by decide) (by decide) ?_
    refine V_aload_n (pc := 17) 0 dX11_laid_17 rfl rfl ?_
    refine V_getR (pc := 18) (j := 11) fk_X11_34_11 (wR hw (i := 0) (k := 4) (j := 11) rfl) dX11_laid_18 (wN hw (by decide)) (wS1 hw (by decide) rfl) ?_
    refine V_getR (pc := 21) (j := 12) fk_X11_151_10 (wR hw (i := 11) (k := 0) (j := 12) rfl) dX11_laid_21 (wN hw (by decide)) (wS1 hw (by decide) rfl) ?_
    refine V_iload_n (pc := 24) 1 dX11_laid_24 rfl rfl ?_
    refine V_ia (pc := 25) (k := i.toInt.toNat) (v := (I 12 i.toInt.toNat)) rfl dX11_laid_25 (wN hw (by decide)) (wS hw (by decide) rfl) (by omega) (by omega) ?_
    refine V_goto (pc := 26) (tgt := 30) dX11_laid_26 (by decide) ?_
    refine V_iret (pc := 30) rfl rfl dX11_laid_30 (by omega) (by omega) ?_
    refine ⟨fun X' r' hq => ?_, fun a h1 h2 => rfl, hw, ⟨_, rfl⟩⟩
    obtain ⟨rfl, rfl⟩ := hq
    refine ⟨?_, JZ_le hJ (by omega)⟩
    unfold sLaid
    rw [if_pos (by omega), hY.2.2.2.1]
  · have c_11_2 : ¬ (0 ≤ i.toInt ∧ i.toInt ≤ x_10_1.toInt) := c_11_2
    refine V_if_eq_t (pc := 14) (tgt := 29) dX11_laid_14 (by decide) (by decide) ?_
    refine V_iconst (pc := 29) (v := (-1)) dX11_laid_29 rfl ?_
    refine V_iret (pc := 30) rfl rfl dX11_laid_30 (by omega) (by omega) ?_
    refine ⟨fun X' r' hq => ?_, fun a h1 h2 => rfl, hw, ⟨_, rfl⟩⟩
    obtain ⟨rfl, rfl⟩ := hq
    refine ⟨?_, JZ_le hJ (by omega)⟩
    unfold sLaid
    rw [if_neg (by omega)]
set_option maxRecDepth 100000 in
set_option maxHeartbeats 4000000 in
theorem c_X11_speed (G : vG) {n : Nat} {sh : vS} {I : vI} {L : vL} {R : vR} (t : Int) (X : vI) (p v : Int32) (hJ : JZ t n sh I L R X) : CT G yX11_speed cX11_speed 3 (some .int) 1 0 0 [.ref (ad G 0), .int p, .int v] n sh I L R (ZP t I (qi (sSpeed X p v))) := by
  refine CT_of (own := RX11) (ini := false) (lo := [(0, .ref (ad G 0)), (1, .int p), (2, .int v)]) mf_X11_speed (Nat.le_of_ble_eq_true rfl) rfl (fun h => by first | rfl | cases h) rfl ?_
  obtain ⟨⟨hw, hR, hC, hK, hS, hT, hB, hQ, hY, hV⟩, hx⟩ := id hJ
  have c01 : (I 0 1).toInt = (X 27 1).toInt := by rw [hR.1]
  have c06 : (I 0 6).toInt = (X 27 30).toInt := by rw [hC.1]
  have c08 : (I 0 8).toInt = (X 27 35).toInt := by rw [hK.1]
  have c21 : (I 2 1).toInt = (X 27 12).toInt := by rw [hB.1]
  have b01 := hR.2.1
  have b30 := hC.2.1
  have b35 := hK.2.1
  have b12 := hB.2.2.1
  obtain ⟨cy2, cy3, cy6, b24, b27, b25, y13⟩ := JW_d hY
  refine V_iload_n (pc := 0) 2 dX11_speed_0 rfl rfl ?_
  refine V_iconst (pc := 1) (v := 1) dX11_speed_1 rfl ?_
  refine V_sipush (pc := 2) (v := 3000) dX11_speed_2 rfl ?_
  refine V_callS (pc := 5) (As := [.int v, .int 1, .int 3000]) (st := []) (c_X11_isWithin G v 1 3000) mf_X11_isWithin ml_X11_61 st_X11_isWithin dX11_speed_5 rfl rfl (by omega) (by omega) (by omega) (Nat.le_of_ble_eq_true rfl) (fun r_5_1 n_5_1 sh_5_1 I_5_1 L_5_1 R_5_1 hq_5_1 => ?_)
  obtain ⟨rfl, rfl, rfl, rfl, rfl, hq_5_1⟩ := hq_5_1
  rcases hq_5_1 with ⟨c_5_1, rfl⟩ | ⟨c_5_1, rfl⟩
  · have c_5_1 : 1 ≤ v.toInt ∧ v.toInt ≤ 3000 := c_5_1
    refine V_if_ne_t (pc := 8) (tgt := 14) dX11_speed_8 (by decide) (by decide) ?_
    refine V_aload_n (pc := 14) 0 dX11_speed_14 rfl rfl ?_
    refine V_getR (pc := 15) (j := 11) fk_X11_34_11 (wR hw (i := 0) (k := 4) (j := 11) rfl) dX11_speed_15 (wN hw (by decide)) (wS1 hw (by decide) rfl) ?_
    refine V_gI (pc := 18) (v := (I 11 2)) rfl fk_X11_150_10 dX11_speed_18 (wN hw (by decide)) (wS1 hw (by decide) rfl) ?_
    refine V_if_ne (pc := 21) (tgt := 27) dX11_speed_21 (by decide) (fun c_21_2 => ?_) (fun c_21_2 => ?_)
    · have c_21_2 : (I 11 2).toInt ≠ 0 := c_21_2
      refine V_iload_n (pc := 27) 1 dX11_speed_27 rfl rfl ?_
      refine V_iconst (pc := 28) (v := 0) dX11_speed_28 rfl ?_
      refine V_aload_n (pc := 29) 0 dX11_speed_29 rfl rfl ?_
      refine V_getR (pc := 30) (j := 11) fk_X11_34_11 (wR hw (i := 0) (k := 4) (j := 11) rfl) dX11_speed_30 (wN hw (by decide)) (wS1 hw (by decide) rfl) ?_
      refine V_gI (pc := 33) (v := (I 11 3)) rfl fk_X11_164_10 dX11_speed_33 (wN hw (by decide)) (wS1 hw (by decide) rfl) ?_
      refine V_callS (pc := 36) (As := [.int p, .int 0, .int (I 11 3)]) (st := []) (c_X11_isWithin G p 0 (I 11 3)) mf_X11_isWithin ml_X11_61 st_X11_isWithin dX11_speed_36 rfl rfl (by omega) (by omega) (by omega) (Nat.le_of_ble_eq_true rfl) (fun r_36_3 n_36_3 sh_36_3 I_36_3 L_36_3 R_36_3 hq_36_3 => ?_)
      obtain ⟨rfl, rfl, rfl, rfl, rfl, hq_36_3⟩ := hq_36_3
      rcases hq_36_3 with ⟨c_36_3, rfl⟩ | ⟨c_36_3, rfl⟩
      · have c_36_3 : 0 ≤ p.toInt ∧ p.toInt ≤ (I 11 3).toInt := c_36_3
        refine V_if_ne_t (pc := 39) (tgt := 45) dX11_speed_39 (by decide) (by decide) ?_
        refine V_aload_n (pc := 45) 0 dX11_speed_45 rfl rfl ?_
        refine V_getR (pc := 46) (j := 11) fk_X11_34_11 (wR hw (i := 0) (k := 4) (j := 11) rfl) dX11_speed_46 (wN hw (by decide)) (wS1 hw (by decide) rfl) ?_
        refine V_gI (pc := 49) (v := (I 11 6)) rfl fk_X11_167_10 dX11_speed_49 (wN hw (by decide)) (wS1 hw (by decide) rfl) ?_
        refine V_bipush (pc := 52) (v := 8) dX11_speed_52 rfl ?_
        refine V_icmp_lt (pc := 54) (tgt := 60) dX11_speed_54 (by decide) (fun c_54_4 => ?_) (fun c_54_4 => ?_)
        · have c_54_4 : (I 11 6).toInt < 8 := c_54_4
          refine V_aload_n (pc := 60) 0 dX11_speed_60 rfl rfl ?_
          refine V_getR (pc := 61) (j := 11) fk_X11_34_11 (wR hw (i := 0) (k := 4) (j := 11) rfl) dX11_speed_61 (wN hw (by decide)) (wS1 hw (by decide) rfl) ?_
          refine V_iload_n (pc := 64) 1 dX11_speed_64 rfl rfl ?_
          refine V_iload_n (pc := 65) 2 dX11_speed_65 rfl rfl ?_
          refine V_callV (pc := 66) (As := [.int p, .int v]) (st := []) (c_X10_addSpeed G p v hw (by omega)) mf_X10_addSpeed ml_X11_170 iv_X10_addSpeed (wN hw (by decide)) (wS1 hw (by decide) rfl) (by decide) rfl dX11_speed_66 rfl rfl (by omega) (by omega) (by omega) (Nat.le_of_ble_eq_true rfl) (fun r_66_5 n_66_5 sh_66_5 I_66_5 L_66_5 R_66_5 hq_66_5 => ?_)
          obtain ⟨rfl, rfl, rfl, rfl, rfl, rfl⟩ := hq_66_5
          rw [hY.2.2.1]
          refine V_aload_n (pc := 69) 0 dX11_speed_69 rfl rfl ?_
          refine V_getR (pc := 70) (j := 11) fk_X11_34_11 (wR hw (i := 0) (k := 4) (j := 11) rfl) dX11_speed_70 (wN hw (by decide)) (wS1 hw (by decide) rfl) ?_
          refine V_gI (pc := 73) (v := ((up2 (up2 (up2 I 14 (X 27 27).toInt.toNat p) 15 (X 27 27).toInt.toNat v) 11 6 (X 27 27 + 1)) 11 6)) rfl fk_X11_167_10 dX11_speed_73 (wN hw (by decide)) (wS1 hw (by decide) rfl) ?_
          refine V_iret (pc := 76) rfl rfl dX11_speed_76 (by omega) (by omega) ?_
          refine ⟨fun X' r' hq => ?_, fun a h1 h2 => ?_, hw, ⟨_, rfl⟩⟩
          · obtain ⟨v0, e0, rfl⟩ := hq
            unfold sSpeed at e0
            (repeat' split at e0) <;> first | (exfalso; omega) | (obtain ⟨rfl, rfl⟩ := Prod.mk.inj e0; exact ⟨by (first | rfl | (refine ie ?_; (repeat' split) <;> omega) | (refine le' ?_; (repeat' split) <;> omega)), by (exact JZ_le (JZ_speed (X 27 27).toInt.toNat p v (X 27 27 + 1) hJ (by omega) (by omega) (by omega) (by omega) rfl) (by omega))⟩)
          · (repeat first | rw [up2_o (by omega)] | rw [cpF_r (by omega)] | rw [uph_o (by omega)]) <;> rfl
        · have c_54_4 : 8 ≤ (I 11 6).toInt := c_54_4
          refine V_bipush (pc := 57) (v := (-4)) dX11_speed_57 rfl ?_
          refine V_iret (pc := 59) rfl rfl dX11_speed_59 (by omega) (by omega) ?_
          refine ⟨fun X' r' hq => ?_, fun a h1 h2 => ?_, hw, ⟨_, rfl⟩⟩
          · obtain ⟨v0, e0, rfl⟩ := hq
            unfold sSpeed at e0
            (repeat' split at e0) <;> first | (exfalso; omega) | (obtain ⟨rfl, rfl⟩ := Prod.mk.inj e0; exact ⟨by (first | rfl | (refine ie ?_; (repeat' split) <;> omega) | (refine le' ?_; (repeat' split) <;> omega)), by (exact JZ_le hJ (by omega))⟩)
          · (repeat first | rw [up2_o (by omega)] | rw [cpF_r (by omega)] | rw [uph_o (by omega)]) <;> rfl
      · have c_36_3 : ¬ (0 ≤ p.toInt ∧ p.toInt ≤ (I 11 3).toInt) := c_36_3
        refine V_if_ne_f (pc := 39) (tgt := 45) dX11_speed_39 (by decide) (by decide) ?_
        refine V_bipush (pc := 42) (v := (-2)) dX11_speed_42 rfl ?_
        refine V_iret (pc := 44) rfl rfl dX11_speed_44 (by omega) (by omega) ?_
        refine ⟨fun X' r' hq => ?_, fun a h1 h2 => ?_, hw, ⟨_, rfl⟩⟩
        · obtain ⟨v0, e0, rfl⟩ := hq
          unfold sSpeed at e0
          (repeat' split at e0) <;> first | (exfalso; omega) | (obtain ⟨rfl, rfl⟩ := Prod.mk.inj e0; exact ⟨by (first | rfl | (refine ie ?_; (repeat' split) <;> omega) | (refine le' ?_; (repeat' split) <;> omega)), by (exact JZ_le hJ (by omega))⟩)
        · (repeat first | rw [up2_o (by omega)] | rw [cpF_r (by omega)] | rw [uph_o (by omega)]) <;> rfl
    · have c_21_2 : (I 11 2).toInt = 0 := c_21_2
      refine V_bipush (pc := 24) (v := (-3)) dX11_speed_24 rfl ?_
      refine V_iret (pc := 26) rfl rfl dX11_speed_26 (by omega) (by omega) ?_
      refine ⟨fun X' r' hq => ?_, fun a h1 h2 => ?_, hw, ⟨_, rfl⟩⟩
      · obtain ⟨v0, e0, rfl⟩ := hq
        unfold sSpeed at e0
        (repeat' split at e0) <;> first | (exfalso; omega) | (obtain ⟨rfl, rfl⟩ := Prod.mk.inj e0; exact ⟨by (first | rfl | (refine ie ?_; (repeat' split) <;> omega) | (refine le' ?_; (repeat' split) <;> omega)), by (exact JZ_le hJ (by omega))⟩)
      · (repeat first | rw [up2_o (by omega)] | rw [cpF_r (by omega)] | rw [uph_o (by omega)]) <;> rfl
  · have c_5_1 : ¬ (1 ≤ v.toInt ∧ v.toInt ≤ 3000) := c_5_1
    refine V_if_ne_f (pc := 8) (tgt := 14) dX11_speed_8 (by decide) (by decide) ?_
    refine V_bipush (pc := 11) (v := (-2)) dX11_speed_11 rfl ?_
    refine V_iret (pc := 13) rfl rfl dX11_speed_13 (by omega) (by omega) ?_
    refine ⟨fun X' r' hq => ?_, fun a h1 h2 => ?_, hw, ⟨_, rfl⟩⟩
    · obtain ⟨v0, e0, rfl⟩ := hq
      unfold sSpeed at e0
      (repeat' split at e0) <;> first | (exfalso; omega) | (obtain ⟨rfl, rfl⟩ := Prod.mk.inj e0; exact ⟨by (first | rfl | (refine ie ?_; (repeat' split) <;> omega) | (refine le' ?_; (repeat' split) <;> omega)), by (exact JZ_le hJ (by omega))⟩)
    · (repeat first | rw [up2_o (by omega)] | rw [cpF_r (by omega)] | rw [uph_o (by omega)]) <;> rfl
set_option maxRecDepth 100000 in
set_option maxHeartbeats 4000000 in
theorem c_X11_due (G : vG) {n : Nat} {sh : vS} {I : vI} {L : vL} {R : vR} (t : Int) (X : vI) (p : Int32) (hJ : JZ t n sh I L R X) : CT G yX11_due cX11_due 2 (some .long) 2 0 0 [.ref (ad G 0), .int p] n sh I L R (ZP t I (zL X (sDue X p))) := by
  refine CT_of (own := RX11) (ini := false) (lo := [(0, .ref (ad G 0)), (1, .int p)]) mf_X11_due (Nat.le_of_ble_eq_true rfl) rfl (fun h => by first | rfl | cases h) rfl ?_
  obtain ⟨⟨hw, hR, hC, hK, hS, hT, hB, hQ, hY, hV⟩, hx⟩ := id hJ
  have c01 : (I 0 1).toInt = (X 27 1).toInt := by rw [hR.1]
  have c06 : (I 0 6).toInt = (X 27 30).toInt := by rw [hC.1]
  have c08 : (I 0 8).toInt = (X 27 35).toInt := by rw [hK.1]
  have c21 : (I 2 1).toInt = (X 27 12).toInt := by rw [hB.1]
  have b01 := hR.2.1
  have b30 := hC.2.1
  have b35 := hK.2.1
  have b12 := hB.2.2.1
  obtain ⟨cy2, cy3, cy6, b24, b27, b25, y13⟩ := JW_d hY
  refine V_aload_n (pc := 0) 0 dX11_due_0 rfl rfl ?_
  refine V_getR (pc := 1) (j := 11) fk_X11_34_11 (wR hw (i := 0) (k := 4) (j := 11) rfl) dX11_due_1 (wN hw (by decide)) (wS1 hw (by decide) rfl) ?_
  obtain ⟨y1, y2, y3, y4, y5, y6, y7, y8, y9, y10, y11, y12, -⟩ := id hY
  have hvv : ∀ k, k < (X 27 27).toInt.toNat → 1 ≤ (X 46 k).toInt ∧ (X 46 k).toInt ≤ 3000 := fun k hk => y11 k (by omega)
  refine V_callV (pc := 4) (As := []) (st := []) (c_X10_hasFirstSpeed G X hw y9 y3 y5 y6 hvv) mf_X10_hasFirstSpeed ml_X11_174 iv_X10_hasFirstSpeed (wN hw (by decide)) (wS1 hw (by decide) rfl) (by decide) rfl dX11_due_4 rfl rfl (by omega) (by omega) (by omega) (Nat.le_of_ble_eq_true rfl) (fun r_4_1 n_4_1 sh_4_1 I_4_1 L_4_1 R_4_1 hq_4_1 => ?_)
  obtain ⟨rfl, rfl, rfl, rfl, rfl, hq_4_1⟩ := hq_4_1
  rcases hq_4_1 with ⟨h0e, rfl⟩ | ⟨h0e, rfl⟩
  · skip
    refine V_if_eq_f (pc := 7) (tgt := 25) dX11_due_7 (by decide) (by decide) ?_
    refine V_iload_n (pc := 10) 1 dX11_due_10 rfl rfl ?_
    refine V_iconst (pc := 11) (v := 0) dX11_due_11 rfl ?_
    refine V_aload_n (pc := 12) 0 dX11_due_12 rfl rfl ?_
    refine V_getR (pc := 13) (j := 11) fk_X11_34_11 (wR hw (i := 0) (k := 4) (j := 11) rfl) dX11_due_13 (wN hw (by decide)) (wS1 hw (by decide) rfl) ?_
    refine V_gI (pc := 16) (v := (I 11 3)) rfl fk_X11_164_10 dX11_due_16 (wN hw (by decide)) (wS1 hw (by decide) rfl) ?_
    refine V_callS (pc := 19) (As := [.int p, .int 0, .int (I 11 3)]) (st := []) (c_X11_isWithin G p 0 (I 11 3)) mf_X11_isWithin ml_X11_61 st_X11_isWithin dX11_due_19 rfl rfl (by omega) (by omega) (by omega) (Nat.le_of_ble_eq_true rfl) (fun r_19_2 n_19_2 sh_19_2 I_19_2 L_19_2 R_19_2 hq_19_2 => ?_)
    obtain ⟨rfl, rfl, rfl, rfl, rfl, hq_19_2⟩ := hq_19_2
    rcases hq_19_2 with ⟨c_19_2, rfl⟩ | ⟨c_19_2, rfl⟩
    · have c_19_2 : 0 ≤ p.toInt ∧ p.toInt ≤ (I 11 3).toInt := c_19_2
      refine V_if_ne_t (pc := 22) (tgt := 29) dX11_due_22 (by decide) (by decide) ?_
      refine V_aload_n (pc := 29) 0 dX11_due_29 rfl rfl ?_
      refine V_getR (pc := 30) (j := 11) fk_X11_34_11 (wR hw (i := 0) (k := 4) (j := 11) rfl) dX11_due_30 (wN hw (by decide)) (wS1 hw (by decide) rfl) ?_
      refine V_iload_n (pc := 33) 1 dX11_due_33 rfl rfl ?_
      refine V_callV (pc := 34) (As := [.int p]) (st := []) (c_X10_dueAt G X p hw y9 y3 y5 y6 hvv (by omega) h0e) mf_X10_dueAt ml_X11_177 iv_X10_dueAt (wN hw (by decide)) (wS1 hw (by decide) rfl) (by decide) rfl dX11_due_34 rfl rfl (by omega) (by omega) (by omega) (Nat.le_of_ble_eq_true rfl) (fun r_34_3 n_34_3 sh_34_3 I_34_3 L_34_3 R_34_3 hq_34_3 => ?_)
      obtain ⟨rfl, rfl, rfl, rfl, rfl, v_34_3, rfl, hv_34_3⟩ := hq_34_3
      refine V_lret (pc := 37) rfl dX11_due_37 (by omega) (by omega) ?_
      refine ⟨fun X' r' hq => ?_, fun a h1 h2 => rfl, hw, ⟨_, rfl⟩⟩
      obtain ⟨rfl, v0, rfl, e0⟩ := hq
      refine ⟨le' ?_, JZ_le hJ (by omega)⟩
      rw [e0]
      unfold sDue
      rw [pIf_pos ⟨(hasD hY).mpr h0e, by omega⟩]
      exact hv_34_3.1
    · have c_19_2 : ¬ (0 ≤ p.toInt ∧ p.toInt ≤ (I 11 3).toInt) := c_19_2
      refine V_if_ne_f (pc := 22) (tgt := 29) dX11_due_22 (by decide) (by decide) ?_
      refine V_ldc2 (pc := 25) dX11_due_25 kk_X11_154 ?_
      refine V_lret (pc := 28) rfl dX11_due_28 (by omega) (by omega) ?_
      refine ⟨fun X' r' hq => ?_, fun a h1 h2 => rfl, hw, ⟨_, rfl⟩⟩
      obtain ⟨rfl, v0, rfl, e0⟩ := hq
      refine ⟨le' ?_, JZ_le hJ (by omega)⟩
      rw [e0]
      unfold sDue
      rw [pIf_neg (fun z => by first | omega | exact h0e ((hasD hY).mp z.1))]
      rfl
  · skip
    refine V_if_eq_t (pc := 7) (tgt := 25) dX11_due_7 (by decide) (by decide) ?_
    refine V_ldc2 (pc := 25) dX11_due_25 kk_X11_154 ?_
    refine V_lret (pc := 28) rfl dX11_due_28 (by omega) (by omega) ?_
    refine ⟨fun X' r' hq => ?_, fun a h1 h2 => rfl, hw, ⟨_, rfl⟩⟩
    obtain ⟨rfl, v0, rfl, e0⟩ := hq
    refine ⟨le' ?_, JZ_le hJ (by omega)⟩
    rw [e0]
    unfold sDue
    rw [pIf_neg (fun z => by first | omega | exact h0e ((hasD hY).mp z.1))]
    rfl
set_option maxRecDepth 100000 in
set_option maxHeartbeats 4000000 in
theorem c_X11_roadAt (G : vG) {n : Nat} {sh : vS} {I : vI} {L : vL} {R : vR} (t : Int) (X : vI) (p : Int32) (hJ : JZ t n sh I L R X) : CT G yX11_roadAt cX11_roadAt 2 (some .int) 1 0 0 [.ref (ad G 0), .int p] n sh I L R (ZP t I (iN X (sRoadAt X p))) := by
  refine CT_of (own := RX11) (ini := false) (lo := [(0, .ref (ad G 0)), (1, .int p)]) mf_X11_roadAt (Nat.le_of_ble_eq_true rfl) rfl (fun h => by first | rfl | cases h) rfl ?_
  obtain ⟨⟨hw, hR, hC, hK, hS, hT, hB, hQ, hY, hV⟩, hx⟩ := id hJ
  have c01 : (I 0 1).toInt = (X 27 1).toInt := by rw [hR.1]
  have c06 : (I 0 6).toInt = (X 27 30).toInt := by rw [hC.1]
  have c08 : (I 0 8).toInt = (X 27 35).toInt := by rw [hK.1]
  have c21 : (I 2 1).toInt = (X 27 12).toInt := by rw [hB.1]
  have b01 := hR.2.1
  have b30 := hC.2.1
  have b35 := hK.2.1
  have b12 := hB.2.2.1
  obtain ⟨cy2, cy3, cy6, b24, b27, b25, y13⟩ := JW_d hY
  refine V_aload_n (pc := 0) 0 dX11_roadAt_0 rfl rfl ?_
  refine V_getR (pc := 1) (j := 11) fk_X11_34_11 (wR hw (i := 0) (k := 4) (j := 11) rfl) dX11_roadAt_1 (wN hw (by decide)) (wS1 hw (by decide) rfl) ?_
  refine V_gI (pc := 4) (v := (I 11 2)) rfl fk_X11_150_10 dX11_roadAt_4 (wN hw (by decide)) (wS1 hw (by decide) rfl) ?_
  refine V_if_ne (pc := 7) (tgt := 13) dX11_roadAt_7 (by decide) (fun c_7_1 => ?_) (fun c_7_1 => ?_)
  · have c_7_1 : (I 11 2).toInt ≠ 0 := c_7_1
    refine V_iload_n (pc := 13) 1 dX11_roadAt_13 rfl rfl ?_
    refine V_iconst (pc := 14) (v := 0) dX11_roadAt_14 rfl ?_
    refine V_aload_n (pc := 15) 0 dX11_roadAt_15 rfl rfl ?_
    refine V_getR (pc := 16) (j := 11) fk_X11_34_11 (wR hw (i := 0) (k := 4) (j := 11) rfl) dX11_roadAt_16 (wN hw (by decide)) (wS1 hw (by decide) rfl) ?_
    refine V_gI (pc := 19) (v := (I 11 3)) rfl fk_X11_164_10 dX11_roadAt_19 (wN hw (by decide)) (wS1 hw (by decide) rfl) ?_
    refine V_callS (pc := 22) (As := [.int p, .int 0, .int (I 11 3)]) (st := []) (c_X11_isWithin G p 0 (I 11 3)) mf_X11_isWithin ml_X11_61 st_X11_isWithin dX11_roadAt_22 rfl rfl (by omega) (by omega) (by omega) (Nat.le_of_ble_eq_true rfl) (fun r_22_2 n_22_2 sh_22_2 I_22_2 L_22_2 R_22_2 hq_22_2 => ?_)
    obtain ⟨rfl, rfl, rfl, rfl, rfl, hq_22_2⟩ := hq_22_2
    rcases hq_22_2 with ⟨c_22_2, rfl⟩ | ⟨c_22_2, rfl⟩
    · have c_22_2 : 0 ≤ p.toInt ∧ p.toInt ≤ (I 11 3).toInt := c_22_2
      refine V_if_ne_t (pc := 25) (tgt := 31) dX11_roadAt_25 (by decide) (by decide) ?_
      refine V_aload_n (pc := 31) 0 dX11_roadAt_31 rfl rfl ?_
      refine V_getR (pc := 32) (j := 11) fk_X11_34_11 (wR hw (i := 0) (k := 4) (j := 11) rfl) dX11_roadAt_32 (wN hw (by decide)) (wS1 hw (by decide) rfl) ?_
      refine V_iload_n (pc := 35) 1 dX11_roadAt_35 rfl rfl ?_
      refine V_callV (pc := 36) (As := [.int p]) (st := []) (c_X10_roadUnder G X p hw b24 hY.1 hY.2.2.2.1 (fun m hm => hY.2.2.2.2.2.2.1 m (by omega)) (by omega)) mf_X10_roadUnder ml_X11_180 iv_X10_roadUnder (wN hw (by decide)) (wS1 hw (by decide) rfl) (by decide) rfl dX11_roadAt_36 rfl rfl (by omega) (by omega) (by omega) (Nat.le_of_ble_eq_true rfl) (fun r_36_3 n_36_3 sh_36_3 I_36_3 L_36_3 R_36_3 hq_36_3 => ?_)
      obtain ⟨rfl, rfl, rfl, rfl, rfl, v_36_3, rfl, hv_36_3⟩ := hq_36_3
      refine V_iret (pc := 39) rfl rfl dX11_roadAt_39 (by omega) (by omega) ?_
      refine ⟨fun X' r' hq => ?_, fun a h1 h2 => rfl, hw, ⟨_, rfl⟩⟩
      obtain ⟨rfl, v0, rfl, e0⟩ := hq
      refine ⟨ie ?_, JZ_le hJ (by omega)⟩
      rw [e0]
      unfold sRoadAt
      (repeat' split) <;> first | rfl | omega | (exfalso; omega)
    · have c_22_2 : ¬ (0 ≤ p.toInt ∧ p.toInt ≤ (I 11 3).toInt) := c_22_2
      refine V_if_ne_f (pc := 25) (tgt := 31) dX11_roadAt_25 (by decide) (by decide) ?_
      refine V_bipush (pc := 28) (v := (-2)) dX11_roadAt_28 rfl ?_
      refine V_iret (pc := 30) rfl rfl dX11_roadAt_30 (by omega) (by omega) ?_
      refine ⟨fun X' r' hq => ?_, fun a h1 h2 => rfl, hw, ⟨_, rfl⟩⟩
      obtain ⟨rfl, v0, rfl, e0⟩ := hq
      refine ⟨ie ?_, JZ_le hJ (by omega)⟩
      rw [e0]
      unfold sRoadAt
      (repeat' split) <;> first | rfl | omega | (exfalso; omega)
  · have c_7_1 : (I 11 2).toInt = 0 := c_7_1
    refine V_bipush (pc := 10) (v := (-3)) dX11_roadAt_10 rfl ?_
    refine V_iret (pc := 12) rfl rfl dX11_roadAt_12 (by omega) (by omega) ?_
    refine ⟨fun X' r' hq => ?_, fun a h1 h2 => rfl, hw, ⟨_, rfl⟩⟩
    obtain ⟨rfl, v0, rfl, e0⟩ := hq
    refine ⟨ie ?_, JZ_le hJ (by omega)⟩
    rw [e0]
    unfold sRoadAt
    (repeat' split) <;> first | rfl | omega | (exfalso; omega)
set_option maxRecDepth 100000 in
set_option maxHeartbeats 4000000 in
theorem c_X11_watch (G : vG) {n : Nat} {sh : vS} {I : vI} {L : vL} {R : vR} (t : Int) (X : vI) (c a b x y : Int32) (hJ : JZ t n sh I L R X) : CT G yX11_watch cX11_watch 7 (some .int) 3 0 0 [.ref (ad G 0), .int c, .int a, .int b, .int x, .int y] n sh I L R (ZP t I (qi (sWatch X c a b x y))) := by
  refine CT_of (own := RX11) (ini := false) (lo := [(0, .ref (ad G 0)), (1, .int c), (2, .int a), (3, .int b), (4, .int x), (5, .int y)]) mf_X11_watch (Nat.le_of_ble_eq_true rfl) rfl (fun h => by first | rfl | cases h) rfl ?_
  obtain ⟨⟨hw, hR, hC, hK, hS, hT, hB, hQ, hY, hV⟩, hx⟩ := id hJ
  have c01 : (I 0 1).toInt = (X 27 1).toInt := by rw [hR.1]
  have c06 : (I 0 6).toInt = (X 27 30).toInt := by rw [hC.1]
  have c08 : (I 0 8).toInt = (X 27 35).toInt := by rw [hK.1]
  have c21 : (I 2 1).toInt = (X 27 12).toInt := by rw [hB.1]
  have b01 := hR.2.1
  have b30 := hC.2.1
  have b35 := hK.2.1
  have b12 := hB.2.2.1
  obtain ⟨cy2, cy3, cy6, b24, b27, b25, y13⟩ := JW_d hY
  refine V_aload_n (pc := 0) 0 dX11_watch_0 rfl rfl ?_
  refine V_iload_n (pc := 1) 1 dX11_watch_1 rfl rfl ?_
  refine V_callV (pc := 2) (As := [.int c]) (st := []) (c_X11_controlOf G X c hw hC) mf_X11_controlOf ml_X11_192 iv_X11_controlOf (wN hw (by decide)) (wS1 hw (by decide) rfl) (by decide) rfl dX11_watch_2 rfl rfl (by omega) (by omega) (by omega) (Nat.le_of_ble_eq_true rfl) (fun r_2_1 n_2_1 sh_2_1 I_2_1 L_2_1 R_2_1 hq_2_1 => ?_)
  obtain ⟨rfl, rfl, rfl, rfl, rfl, hq_2_1⟩ := hq_2_1
  rcases hq_2_1 with ⟨c_2_1, rfl⟩ | ⟨c_2_1, rfl⟩
  · have c_2_1 : ¬ (0 ≤ c.toInt ∧ c.toInt < (X 27 30).toInt) := c_2_1
    refine V_astoreN (pc := 5) (lo' := [(0, .ref (ad G 0)), (1, .int c), (2, .int a), (3, .int b), (4, .int x), (5, .int y), (6, .null)]) dX11_watch_5 (by decide) rfl ?_
    refine V_aloadN (pc := 7) 6 dX11_watch_7 rfl ?_
    refine V_ifnonnull_n (pc := 9) dX11_watch_9 ?_
    refine V_iconst (pc := 12) (v := (-1)) dX11_watch_12 rfl ?_
    refine V_iret (pc := 13) rfl rfl dX11_watch_13 (by omega) (by omega) ?_
    refine ⟨fun X' r' hq => ?_, fun a h1 h2 => ?_, hw, ⟨_, rfl⟩⟩
    · obtain ⟨v0, e0, rfl⟩ := hq
      unfold sWatch isCtl isTm at e0
      (repeat' split at e0) <;> first | (exfalso; omega) | (obtain ⟨rfl, rfl⟩ := Prod.mk.inj e0; exact ⟨by (exact rfl), by (exact JZ_le hJ (by omega))⟩)
    · (repeat first | rw [up2_o (by omega)] | rw [cpF_r (by omega)] | rw [uph_o (by omega)]) <;> rfl
  · have c_2_1 : 0 ≤ c.toInt ∧ c.toInt < (X 27 30).toInt := c_2_1
    have hdc := hC.2.2.1 c.toInt.toNat (by omega)
    have hc56 := hdc.2.1
    have hdct := cdF hC c.toInt.toNat (by omega)
    refine V_astore (pc := 5) (lo' := [(0, .ref (ad G 0)), (1, .int c), (2, .int a), (3, .int b), (4, .int x), (5, .int y), (6, .ref (ad G (oj R 16 c.toInt.toNat)))]) dX11_watch_5 (by decide) rfl ?_
    refine V_aload (pc := 7) 6 dX11_watch_7 rfl ?_
    refine V_ifnonnull_r (pc := 9) (tgt := 14) dX11_watch_9 (by decide) ?_
    refine V_iload_n (pc := 14) 2 dX11_watch_14 rfl rfl ?_
    refine V_iload_n (pc := 15) 3 dX11_watch_15 rfl rfl ?_
    refine V_callS (pc := 16) (As := [.int a, .int b]) (st := []) (c_X11_isSpanOfTime G a b) mf_X11_isSpanOfTime ml_X11_196 st_X11_isSpanOfTime dX11_watch_16 rfl rfl (by omega) (by omega) (by omega) (Nat.le_of_ble_eq_true rfl) (fun r_16_2 n_16_2 sh_16_2 I_16_2 L_16_2 R_16_2 hq_16_2 => ?_)
    obtain ⟨rfl, rfl, rfl, rfl, rfl, hq_16_2⟩ := hq_16_2
    rcases hq_16_2 with ⟨c_16_2, rfl⟩ | ⟨c_16_2, rfl⟩
    · have c_16_2 : 0 ≤ a.toInt ∧ a.toInt < b.toInt ∧ b.toInt ≤ 1000000 := c_16_2
      refine V_if_eq_f (pc := 19) (tgt := 32) dX11_watch_19 (by decide) (by decide) ?_
      refine V_iload (pc := 22) 4 dX11_watch_22 rfl ?_
      refine V_iload (pc := 24) 5 dX11_watch_24 rfl ?_
      refine V_callS (pc := 26) (As := [.int x, .int y]) (st := []) (c_X11_isSpanOfTime G x y) mf_X11_isSpanOfTime ml_X11_196 st_X11_isSpanOfTime dX11_watch_26 rfl rfl (by omega) (by omega) (by omega) (Nat.le_of_ble_eq_true rfl) (fun r_26_3 n_26_3 sh_26_3 I_26_3 L_26_3 R_26_3 hq_26_3 => ?_)
      obtain ⟨rfl, rfl, rfl, rfl, rfl, hq_26_3⟩ := hq_26_3
      rcases hq_26_3 with ⟨c_26_3, rfl⟩ | ⟨c_26_3, rfl⟩
      · have c_26_3 : 0 ≤ x.toInt ∧ x.toInt < y.toInt ∧ y.toInt ≤ 1000000 := c_26_3
        refine V_if_ne_t (pc := 29) (tgt := 35) dX11_watch_29 (by decide) (by decide) ?_
        refine V_aload (pc := 35) 6 dX11_watch_35 rfl ?_
        refine V_iload_n (pc := 37) 2 dX11_watch_37 rfl rfl ?_
        refine V_iload_n (pc := 38) 3 dX11_watch_38 rfl rfl ?_
        refine V_iload (pc := 39) 4 dX11_watch_39 rfl ?_
        refine V_iload (pc := 41) 5 dX11_watch_41 rfl ?_
        refine V_callV (pc := 43) (As := [.int a, .int b, .int x, .int y]) (st := []) (c_X2_check G (oj R 16 c.toInt.toNat) a b x y hw hdc.2.2.1 (by rw [hdc.2.2.2.1]) (by omega) (by omega)) mf_X2_check ml_X11_200 iv_X2_check hdc.2.2.1 (by rw [hdc.2.2.2.1]) (by decide) rfl dX11_watch_43 rfl rfl (by omega) (by omega) (by omega) (Nat.le_of_ble_eq_true rfl) (fun r_43_4 n_43_4 sh_43_4 I_43_4 L_43_4 R_43_4 hq_43_4 => ?_)
        obtain ⟨rfl, rfl, rfl, rfl, ⟨u5, v5, hu5, hv5, rfl⟩, rfl⟩ := hq_43_4
        refine V_iconst (pc := 46) (v := 1) dX11_watch_46 rfl ?_
        refine V_iret (pc := 47) rfl rfl dX11_watch_47 (by omega) (by omega) ?_
        refine ⟨fun X' r' hq => ?_, fun a h1 h2 => ?_, hw, ⟨_, rfl⟩⟩
        · obtain ⟨v0, e0, rfl⟩ := hq
          unfold sWatch isCtl isTm at e0
          (repeat' split at e0) <;> first | (exfalso; omega) | (obtain ⟨rfl, rfl⟩ := Prod.mk.inj e0; exact ⟨by (exact rfl), by (have e4 : (4 * c.toInt).toNat = 4 * c.toInt.toNat := (by omega); have e5 : ((4 * c.toInt) + 1).toNat = 4 * c.toInt.toNat + 1 := (by omega); have e6 : ((4 * c.toInt) + 2).toNat = 4 * c.toInt.toNat + 2 := (by omega); have e7 : ((4 * c.toInt) + 3).toNat = 4 * c.toInt.toNat + 3 := (by omega); rw [e4, e5, e6, e7]; exact JZ_le (JZ_watch c.toInt.toNat _ a b x y u5 v5 hJ (by omega) rfl (by omega) (by omega) hu5 hv5) (by omega))⟩)
        · (repeat first | rw [up2_o (by omega)] | rw [cpF_r (by omega)] | rw [uph_o (by omega)]) <;> rfl
      · have c_26_3 : ¬ (0 ≤ x.toInt ∧ x.toInt < y.toInt ∧ y.toInt ≤ 1000000) := c_26_3
        refine V_if_ne_f (pc := 29) (tgt := 35) dX11_watch_29 (by decide) (by decide) ?_
        refine V_bipush (pc := 32) (v := (-2)) dX11_watch_32 rfl ?_
        refine V_iret (pc := 34) rfl rfl dX11_watch_34 (by omega) (by omega) ?_
        refine ⟨fun X' r' hq => ?_, fun a h1 h2 => ?_, hw, ⟨_, rfl⟩⟩
        · obtain ⟨v0, e0, rfl⟩ := hq
          unfold sWatch isCtl isTm at e0
          (repeat' split at e0) <;> first | (exfalso; omega) | (obtain ⟨rfl, rfl⟩ := Prod.mk.inj e0; exact ⟨by (exact rfl), by (exact JZ_le hJ (by omega))⟩)
        · (repeat first | rw [up2_o (by omega)] | rw [cpF_r (by omega)] | rw [uph_o (by omega)]) <;> rfl
    · have c_16_2 : ¬ (0 ≤ a.toInt ∧ a.toInt < b.toInt ∧ b.toInt ≤ 1000000) := c_16_2
      refine V_if_eq_t (pc := 19) (tgt := 32) dX11_watch_19 (by decide) (by decide) ?_
      refine V_bipush (pc := 32) (v := (-2)) dX11_watch_32 rfl ?_
      refine V_iret (pc := 34) rfl rfl dX11_watch_34 (by omega) (by omega) ?_
      refine ⟨fun X' r' hq => ?_, fun a h1 h2 => ?_, hw, ⟨_, rfl⟩⟩
      · obtain ⟨v0, e0, rfl⟩ := hq
        unfold sWatch isCtl isTm at e0
        (repeat' split at e0) <;> first | (exfalso; omega) | (obtain ⟨rfl, rfl⟩ := Prod.mk.inj e0; exact ⟨by (exact rfl), by (exact JZ_le hJ (by omega))⟩)
      · (repeat first | rw [up2_o (by omega)] | rw [cpF_r (by omega)] | rw [uph_o (by omega)]) <;> rfl
set_option maxRecDepth 100000 in
set_option maxHeartbeats 4000000 in
theorem c_X11_right (G : vG) {n : Nat} {sh : vS} {I : vI} {L : vL} {R : vR} (t : Int) (X : vI) (c t0 : Int32) (hJ : JZ t n sh I L R X) : CT G yX11_right cX11_right 4 (some .long) 2 0 0 [.ref (ad G 0), .int c, .int t0] n sh I L R (ZP t I (zL X (sRight X c t0))) := by
  refine CT_of (own := RX11) (ini := false) (lo := [(0, .ref (ad G 0)), (1, .int c), (2, .int t0)]) mf_X11_right (Nat.le_of_ble_eq_true rfl) rfl (fun h => by first | rfl | cases h) rfl ?_
  obtain ⟨⟨hw, hR, hC, hK, hS, hT, hB, hQ, hY, hV⟩, hx⟩ := id hJ
  have c01 : (I 0 1).toInt = (X 27 1).toInt := by rw [hR.1]
  have c06 : (I 0 6).toInt = (X 27 30).toInt := by rw [hC.1]
  have c08 : (I 0 8).toInt = (X 27 35).toInt := by rw [hK.1]
  have c21 : (I 2 1).toInt = (X 27 12).toInt := by rw [hB.1]
  have b01 := hR.2.1
  have b30 := hC.2.1
  have b35 := hK.2.1
  have b12 := hB.2.2.1
  obtain ⟨cy2, cy3, cy6, b24, b27, b25, y13⟩ := JW_d hY
  refine V_aload_n (pc := 0) 0 dX11_right_0 rfl rfl ?_
  refine V_iload_n (pc := 1) 1 dX11_right_1 rfl rfl ?_
  refine V_callV (pc := 2) (As := [.int c]) (st := []) (c_X11_controlOf G X c hw hC) mf_X11_controlOf ml_X11_192 iv_X11_controlOf (wN hw (by decide)) (wS1 hw (by decide) rfl) (by decide) rfl dX11_right_2 rfl rfl (by omega) (by omega) (by omega) (Nat.le_of_ble_eq_true rfl) (fun r_2_1 n_2_1 sh_2_1 I_2_1 L_2_1 R_2_1 hq_2_1 => ?_)
  obtain ⟨rfl, rfl, rfl, rfl, rfl, hq_2_1⟩ := hq_2_1
  rcases hq_2_1 with ⟨c_2_1, rfl⟩ | ⟨c_2_1, rfl⟩
  · have c_2_1 : ¬ (0 ≤ c.toInt ∧ c.toInt < (X 27 30).toInt) := c_2_1
    refine V_astore_nN (pc := 5) (lo' := [(0, .ref (ad G 0)), (1, .int c), (2, .int t0), (3, .null)]) dX11_right_5 rfl (by decide) rfl ?_
    refine V_aload_nN (pc := 6) 3 dX11_right_6 rfl rfl ?_
    refine V_ifnull_n (pc := 7) (tgt := 17) dX11_right_7 (by decide) ?_
    refine V_ldc2 (pc := 17) dX11_right_17 kk_X11_154 ?_
    refine V_lret (pc := 20) rfl dX11_right_20 (by omega) (by omega) ?_
    refine ⟨fun X' r' hq => ?_, fun a h1 h2 => rfl, hw, ⟨_, rfl⟩⟩
    obtain ⟨rfl, v0, rfl, e0⟩ := hq
    refine ⟨le' ?_, JZ_le hJ (by omega)⟩
    rw [e0]
    unfold sRight
    rw [if_pos (by omega)]
    rfl
  · have c_2_1 : 0 ≤ c.toInt ∧ c.toInt < (X 27 30).toInt := c_2_1
    have hdc := hC.2.2.1 c.toInt.toNat (by omega)
    have hc56 := hdc.2.1
    have hdct := cdF hC c.toInt.toNat (by omega)
    refine V_astore_n (pc := 5) (lo' := [(0, .ref (ad G 0)), (1, .int c), (2, .int t0), (3, .ref (ad G (oj R 16 c.toInt.toNat)))]) dX11_right_5 rfl (by decide) rfl ?_
    refine V_aload_n (pc := 6) 3 dX11_right_6 rfl rfl ?_
    refine V_ifnull_r (pc := 7) dX11_right_7 ?_
    refine V_iload_n (pc := 10) 2 dX11_right_10 rfl rfl ?_
    refine V_callS (pc := 11) (As := [.int t0]) (st := []) (c_X11_isTime G t0) mf_X11_isTime ml_X11_204 st_X11_isTime dX11_right_11 rfl rfl (by omega) (by omega) (by omega) (Nat.le_of_ble_eq_true rfl) (fun r_11_2 n_11_2 sh_11_2 I_11_2 L_11_2 R_11_2 hq_11_2 => ?_)
    obtain ⟨rfl, rfl, rfl, rfl, rfl, hq_11_2⟩ := hq_11_2
    rcases hq_11_2 with ⟨c_11_2, rfl⟩ | ⟨c_11_2, rfl⟩
    · have c_11_2 : 0 ≤ t0.toInt ∧ t0.toInt ≤ 1000000 := c_11_2
      refine V_if_ne_t (pc := 14) (tgt := 21) dX11_right_14 (by decide) (by decide) ?_
      refine V_aload_n (pc := 21) 3 dX11_right_21 rfl rfl ?_
      refine V_iload_n (pc := 22) 2 dX11_right_22 rfl rfl ?_
      refine V_callV (pc := 23) (As := [.int t0]) (st := []) (c_X2_putRight G X (oj R 16 c.toInt.toNat) c.toInt.toNat t0 hw hdc.2.2.1 (by rw [hdc.2.2.2.1]) hdc.2.2.2.2.2.2.2.1 hdc.2.2.2.2.2.2.1 (by omega)) mf_X2_putRight ml_X11_207 iv_X2_putRight hdc.2.2.1 (by rw [hdc.2.2.2.1]) (by decide) rfl dX11_right_23 rfl rfl (by omega) (by omega) (by omega) (Nat.le_of_ble_eq_true rfl) (fun r_23_3 n_23_3 sh_23_3 I_23_3 L_23_3 R_23_3 hq_23_3 => ?_)
      obtain ⟨rfl, rfl, rfl, rfl, rfl, v_23_3, rfl, hv_23_3⟩ := hq_23_3
      refine V_lret (pc := 26) rfl dX11_right_26 (by omega) (by omega) ?_
      refine ⟨fun X' r' hq => ?_, fun a h1 h2 => rfl, hw, ⟨_, rfl⟩⟩
      obtain ⟨rfl, v0, rfl, e0⟩ := hq
      refine ⟨le' ?_, JZ_le hJ (by omega)⟩
      rw [e0]
      unfold sRight
      rw [if_neg (by omega), show c.toInt = ((c.toInt.toNat : Nat) : Int) by omega]
      exact hv_23_3.1
    · have c_11_2 : ¬ (0 ≤ t0.toInt ∧ t0.toInt ≤ 1000000) := c_11_2
      refine V_if_ne_f (pc := 14) (tgt := 21) dX11_right_14 (by decide) (by decide) ?_
      refine V_ldc2 (pc := 17) dX11_right_17 kk_X11_154 ?_
      refine V_lret (pc := 20) rfl dX11_right_20 (by omega) (by omega) ?_
      refine ⟨fun X' r' hq => ?_, fun a h1 h2 => rfl, hw, ⟨_, rfl⟩⟩
      obtain ⟨rfl, v0, rfl, e0⟩ := hq
      refine ⟨le' ?_, JZ_le hJ (by omega)⟩
      rw [e0]
      unfold sRight
      rw [if_pos (by omega)]
      rfl
