set_option maxRecDepth 100000 in
set_option maxHeartbeats 4000000 in
theorem c_X11_lose (G : vG) {n : Nat} {sh : vS} {I : vI} {L : vL} {R : vR} (t : Int) (X : vI) (k : Int32) (hJ : JZ t n sh I L R X) : CT G yX11_lose cX11_lose 3 (some .int) 2 0 0 [.ref (ad G 0), .int k] n sh I L R (ZP t I (qi (sLose X k))) := by
  refine CT_of (own := RX11) (ini := false) (lo := [(0, .ref (ad G 0)), (1, .int k)]) mf_X11_lose (Nat.le_of_ble_eq_true rfl) rfl (fun h => by first | rfl | cases h) rfl ?_
  obtain ⟨⟨hw, hR, hC, hK, hS, hT, hB, hQ, hY, hV⟩, hx⟩ := id hJ
  have c01 : (I 0 1).toInt = (X 27 1).toInt := by rw [hR.1]
  have c06 : (I 0 6).toInt = (X 27 30).toInt := by rw [hC.1]
  have c08 : (I 0 8).toInt = (X 27 35).toInt := by rw [hK.1]
  have c21 : (I 2 1).toInt = (X 27 12).toInt := by rw [hB.1]
  have b01 := hR.2.1
  have b30 := hC.2.1
  have b35 := hK.2.1
  have b12 := hB.2.2.1
  obtain ⟨cy2, cy3, cy6, b24, b27, b25, y13⟩ := JW_d hY
  refine V_aload_n (pc := 0) 0 dX11_lose_0 rfl rfl ?_
  refine V_iload_n (pc := 1) 1 dX11_lose_1 rfl rfl ?_
  refine V_callV (pc := 2) (As := [.int k]) (st := []) (c_X11_sheetOf G k hw) mf_X11_sheetOf ml_X11_112 iv_X11_sheetOf (wN hw (by decide)) (wS1 hw (by decide) rfl) (by decide) rfl dX11_lose_2 rfl rfl (by omega) (by omega) (by omega) (Nat.le_of_ble_eq_true rfl) (fun r_2_1 n_2_1 sh_2_1 I_2_1 L_2_1 R_2_1 hq_2_1 => ?_)
  obtain ⟨rfl, rfl, rfl, rfl, rfl, hq_2_1⟩ := hq_2_1
  rcases hq_2_1 with ⟨c_2_1, rfl⟩ | ⟨c_2_1, rfl⟩
  · have c_2_1 : ¬ (0 ≤ k.toInt ∧ k.toInt ≤ 3) := c_2_1
    refine V_astore_nN (pc := 5) (lo' := [(0, .ref (ad G 0)), (1, .int k), (2, .null)]) dX11_lose_5 rfl (by decide) rfl ?_
    refine V_aload_nN (pc := 6) 2 dX11_lose_6 rfl rfl ?_
    refine V_ifnonnull_n (pc := 7) dX11_lose_7 ?_
    refine V_iconst (pc := 10) (v := (-1)) dX11_lose_10 rfl ?_
    refine V_iret (pc := 11) rfl rfl dX11_lose_11 (by omega) (by omega) ?_
    refine ⟨fun X' r' hq => ?_, fun a h1 h2 => ?_, hw, ⟨_, rfl⟩⟩
    · obtain ⟨v0, e0, rfl⟩ := hq
      unfold sLose isSheet at e0
      (repeat' split at e0) <;> first | (exfalso; omega) | (obtain ⟨rfl, rfl⟩ := Prod.mk.inj e0; exact ⟨by (first | rfl | (refine ie ?_; (repeat' split) <;> omega) | (refine le' ?_; (repeat' split) <;> omega)), by (exact JZ_le hJ (by omega))⟩)
    · (repeat first | rw [up2_o (by omega)] | rw [cpF_r (by omega)] | rw [uph_o (by omega)]) <;> rfl
  · have c_2_1 : 0 ≤ k.toInt ∧ k.toInt ≤ 3 := c_2_1
    have hq_k : k.toInt.toNat < 4 := by omega
    have hqi_k : k.toInt = ((k.toInt.toNat : Nat) : Int) := by omega
    have hsq_k := hS k.toInt.toNat hq_k
    have hsb_k := JSb hsq_k
    refine V_astore_n (pc := 5) (lo' := [(0, .ref (ad G 0)), (1, .int k), (2, .ref (ad G (19 + 2 * k.toInt.toNat)))]) dX11_lose_5 rfl (by decide) rfl ?_
    refine V_aload_n (pc := 6) 2 dX11_lose_6 rfl rfl ?_
    refine V_ifnonnull_r (pc := 7) (tgt := 12) dX11_lose_7 (by decide) ?_
    refine V_aload_n (pc := 12) 2 dX11_lose_12 rfl rfl ?_
    refine V_gI (pc := 13) (v := (I (19 + 2 * k.toInt.toNat) 1)) rfl fk_X11_258_9 dX11_lose_13 (wSo hw hq_k).1.1 (wSo hw hq_k).2.1 ?_
    refine V_if_ne (pc := 16) (tgt := 21) dX11_lose_16 (by decide) (fun c_16_2 => ?_) (fun c_16_2 => ?_)
    · have c_16_2 : (I (19 + 2 * k.toInt.toNat) 1).toInt ≠ 0 := c_16_2
      refine V_aload_n (pc := 21) 2 dX11_lose_21 rfl rfl ?_
      refine V_iconst (pc := 22) (v := 0) dX11_lose_22 rfl ?_
      refine V_putI (pc := 23) fw_X11_258_9 rfl rfl dX11_lose_23 (wSo hw hq_k).1.1 (wSo hw hq_k).2.1 ?_
      refine V_iconst (pc := 26) (v := 1) dX11_lose_26 rfl ?_
      refine V_iret (pc := 27) rfl rfl dX11_lose_27 (by omega) (by omega) ?_
      refine ⟨fun X' r' hq => ?_, fun a h1 h2 => ?_, hw, ⟨_, rfl⟩⟩
      · obtain ⟨v0, e0, rfl⟩ := hq
        unfold sLose isSheet at e0
        (repeat' split at e0) <;> first | (exfalso; omega) | (obtain ⟨rfl, rfl⟩ := Prod.mk.inj e0; exact ⟨by (first | rfl | (refine ie ?_; (repeat' split) <;> omega) | (refine le' ?_; (repeat' split) <;> omega)), by (exact JZ_le (JZ_lose k.toInt.toNat hJ hq_k) (by omega))⟩)
      · (repeat first | rw [up2_o (by omega)] | rw [cpF_r (by omega)] | rw [uph_o (by omega)]) <;> rfl
    · have c_16_2 : (I (19 + 2 * k.toInt.toNat) 1).toInt = 0 := c_16_2
      refine V_iconst (pc := 19) (v := 0) dX11_lose_19 rfl ?_
      refine V_iret (pc := 20) rfl rfl dX11_lose_20 (by omega) (by omega) ?_
      refine ⟨fun X' r' hq => ?_, fun a h1 h2 => ?_, hw, ⟨_, rfl⟩⟩
      · obtain ⟨v0, e0, rfl⟩ := hq
        unfold sLose isSheet at e0
        (repeat' split at e0) <;> first | (exfalso; omega) | (obtain ⟨rfl, rfl⟩ := Prod.mk.inj e0; exact ⟨by (first | rfl | (refine ie ?_; (repeat' split) <;> omega) | (refine le' ?_; (repeat' split) <;> omega)), by (rw [up2_id (ti_eq.mpr (by show _ = (-1 : Int); omega))]; exact JZ_le hJ (by omega))⟩)
      · (repeat first | rw [up2_o (by omega)] | rw [cpF_r (by omega)] | rw [uph_o (by omega)]) <;> rfl
set_option maxRecDepth 100000 in
set_option maxHeartbeats 4000000 in
theorem c_X11_sheet (G : vG) {n : Nat} {sh : vS} {I : vI} {L : vL} {R : vR} (t : Int) (X : vI) (k l m : Int32) (hJ : JZ t n sh I L R X) : CT G yX11_sheet cX11_sheet 5 (some .int) 2 0 0 [.ref (ad G 0), .int k, .int l, .int m] n sh I L R (ZP t I (qi (sSheet X k l m))) := by
  refine CT_of (own := RX11) (ini := false) (lo := [(0, .ref (ad G 0)), (1, .int k), (2, .int l), (3, .int m)]) mf_X11_sheet (Nat.le_of_ble_eq_true rfl) rfl (fun h => by first | rfl | cases h) rfl ?_
  obtain ⟨⟨hw, hR, hC, hK, hS, hT, hB, hQ, hY, hV⟩, hx⟩ := id hJ
  have c01 : (I 0 1).toInt = (X 27 1).toInt := by rw [hR.1]
  have c06 : (I 0 6).toInt = (X 27 30).toInt := by rw [hC.1]
  have c08 : (I 0 8).toInt = (X 27 35).toInt := by rw [hK.1]
  have c21 : (I 2 1).toInt = (X 27 12).toInt := by rw [hB.1]
  have b01 := hR.2.1
  have b30 := hC.2.1
  have b35 := hK.2.1
  have b12 := hB.2.2.1
  obtain ⟨cy2, cy3, cy6, b24, b27, b25, y13⟩ := JW_d hY
  have i32_1 : (1 : Int32).toInt = 1 := rfl
  have hJ1 := JZ_fault (0 : Int32) hJ
  have hR1 : JRd n sh (up2 I 0 11 0) R X := FRd hR (Nat.le_refl _) (fun _ _ => rfl) rfl rfl (fun i h1 _ _ => up2_o (by omega)) rfl rfl rfl rfl rfl rfl rfl
  have hK1 : JK n sh (up2 I 0 11 0) R X := FKk hK (Nat.le_refl _) (fun _ _ => rfl) rfl (fun _ _ _ => rfl) rfl (fun i h1 _ _ => up2_o (by omega)) rfl rfl rfl rfl rfl rfl rfl
  have hS1 : JS (up2 I 0 11 0) X := FS hS (fun i h1 h2 => up2_o (by omega)) rfl rfl rfl
  have hB1 : JB (up2 I 0 11 0) X := FB hB rfl rfl rfl rfl
  refine V_aload_n (pc := 0) 0 dX11_sheet_0 rfl rfl ?_
  refine V_iconst (pc := 1) (v := 0) dX11_sheet_1 rfl ?_
  refine V_putI (pc := 2) fw_X11_81_11 rfl rfl dX11_sheet_2 (wN hw (by decide)) (wS1 hw (by decide) rfl) ?_
  refine V_aload_n (pc := 5) 0 dX11_sheet_5 rfl rfl ?_
  refine V_iload_n (pc := 6) 1 dX11_sheet_6 rfl rfl ?_
  refine V_callV (pc := 7) (As := [.int k]) (st := []) (c_X11_sheetOf G k hw) mf_X11_sheetOf ml_X11_112 iv_X11_sheetOf (wN hw (by decide)) (wS1 hw (by decide) rfl) (by decide) rfl dX11_sheet_7 rfl rfl (by omega) (by omega) (by omega) (Nat.le_of_ble_eq_true rfl) (fun r_7_1 n_7_1 sh_7_1 I_7_1 L_7_1 R_7_1 hq_7_1 => ?_)
  obtain ⟨rfl, rfl, rfl, rfl, rfl, hq_7_1⟩ := hq_7_1
  rcases hq_7_1 with ⟨c_7_1, rfl⟩ | ⟨c_7_1, rfl⟩
  · have c_7_1 : ¬ (0 ≤ k.toInt ∧ k.toInt ≤ 3) := c_7_1
    refine V_astoreN (pc := 10) (lo' := [(0, .ref (ad G 0)), (1, .int k), (2, .int l), (3, .int m), (4, .null)]) dX11_sheet_10 (by decide) rfl ?_
    refine V_aloadN (pc := 12) 4 dX11_sheet_12 rfl ?_
    refine V_ifnonnull_n (pc := 14) dX11_sheet_14 ?_
    refine V_iconst (pc := 17) (v := (-1)) dX11_sheet_17 rfl ?_
    refine V_iret (pc := 18) rfl rfl dX11_sheet_18 (by omega) (by omega) ?_
    refine ⟨fun X' r' hq => ?_, fun a h1 h2 => ?_, hw, ⟨_, rfl⟩⟩
    · obtain ⟨v0, e0, rfl⟩ := hq
      unfold sSheet isSheet isLane at e0
      (repeat' split at e0) <;> first | (exfalso; omega) | (obtain ⟨rfl, rfl⟩ := Prod.mk.inj e0; exact ⟨by (first | rfl | exact congrArg (fun z => some (Value.int z)) (by decide) | (refine ie ?_; (repeat' split) <;> omega)), by (exact JZ_le hJ1 (by omega))⟩)
    · (repeat first | rw [up2_o (by omega)] | rw [cpF_r (by omega)] | rw [uph_o (by omega)]) <;> rfl
  · have c_7_1 : 0 ≤ k.toInt ∧ k.toInt ≤ 3 := c_7_1
    have hq_k : k.toInt.toNat < 4 := by omega
    have hqi_k : k.toInt = ((k.toInt.toNat : Nat) : Int) := by omega
    have hsq_k := hS1 k.toInt.toNat hq_k
    have hsb_k := JSb hsq_k
    refine V_astore (pc := 10) (lo' := [(0, .ref (ad G 0)), (1, .int k), (2, .int l), (3, .int m), (4, .ref (ad G (19 + 2 * k.toInt.toNat)))]) dX11_sheet_10 (by decide) rfl ?_
    refine V_aload (pc := 12) 4 dX11_sheet_12 rfl ?_
    refine V_ifnonnull_r (pc := 14) (tgt := 19) dX11_sheet_14 (by decide) ?_
    refine V_iload_n (pc := 19) 2 dX11_sheet_19 rfl rfl ?_
    refine V_callS (pc := 20) (As := [.int l]) (st := []) (c_X11_isLane G l) mf_X11_isLane ml_X11_116 st_X11_isLane dX11_sheet_20 rfl rfl (by omega) (by omega) (by omega) (Nat.le_of_ble_eq_true rfl) (fun r_20_2 n_20_2 sh_20_2 I_20_2 L_20_2 R_20_2 hq_20_2 => ?_)
    obtain ⟨rfl, rfl, rfl, rfl, rfl, hq_20_2⟩ := hq_20_2
    rcases hq_20_2 with ⟨c_20_2, rfl⟩ | ⟨c_20_2, rfl⟩
    · have c_20_2 : 0 ≤ l.toInt ∧ l.toInt ≤ 2 := c_20_2
      refine V_if_eq_f (pc := 23) (tgt := 32) dX11_sheet_23 (by decide) (by decide) ?_
      refine V_iload_n (pc := 26) 3 dX11_sheet_26 rfl rfl ?_
      refine V_bipush (pc := 27) (v := 32) dX11_sheet_27 rfl ?_
      refine V_icmp_le (pc := 29) (tgt := 35) dX11_sheet_29 (by decide) (fun c_29_3 => ?_) (fun c_29_3 => ?_)
      · have c_29_3 : m.toInt ≤ 32 := c_29_3
        refine V_iload_n (pc := 35) 3 dX11_sheet_35 rfl rfl ?_
        refine V_if_ge (pc := 36) (tgt := 45) dX11_sheet_36 (by decide) (fun c_36_4 => ?_) (fun c_36_4 => ?_)
        · have c_36_4 : 0 ≤ m.toInt := c_36_4
          refine V_aload (pc := 45) 4 dX11_sheet_45 rfl ?_
          refine V_iload_n (pc := 47) 2 dX11_sheet_47 rfl rfl ?_
          refine V_iload_n (pc := 48) 3 dX11_sheet_48 rfl rfl ?_
          refine V_callV (pc := 49) (As := [.int l, .int m]) (st := []) (c_X9_begin G k.toInt.toNat l m hw hq_k) mf_X9_begin ml_X11_255 iv_X9_begin (wSo hw hq_k).1.1 (wSo hw hq_k).2.1 (by decide) rfl dX11_sheet_49 rfl rfl (by omega) (by omega) (by omega) (Nat.le_of_ble_eq_true rfl) (fun r_49_5 n_49_5 sh_49_5 I_49_5 L_49_5 R_49_5 hq_49_5 => ?_)
          obtain ⟨rfl, rfl, rfl, rfl, rfl, rfl⟩ := hq_49_5
          refine V_iconst (pc := 52) (v := 1) dX11_sheet_52 rfl ?_
          refine V_iret (pc := 53) rfl rfl dX11_sheet_53 (by omega) (by omega) ?_
          refine ⟨fun X' r' hq => ?_, fun a h1 h2 => ?_, hw, ⟨_, rfl⟩⟩
          · obtain ⟨v0, e0, rfl⟩ := hq
            unfold sSheet isSheet isLane at e0
            (repeat' split at e0) <;> first | (exfalso; omega) | (obtain ⟨rfl, rfl⟩ := Prod.mk.inj e0; exact ⟨by (first | rfl | exact congrArg (fun z => some (Value.int z)) (by decide) | (refine ie ?_; (repeat' split) <;> omega)), by (rw [show up2 (cpF (up2 (up2 X 34 k.toInt.toNat m) 35 k.toInt.toNat l) 36 (32 * k.toInt) (fun _ => 0) m.toInt.toNat) 27 0 0 = cpF (up2 (up2 (up2 X 27 0 0) 34 k.toInt.toNat m) 35 k.toInt.toNat l) 36 (32 * ((k.toInt.toNat : Nat) : Int)) (fun _ => 0) m.toInt.toNat from by rw [← hqi_k, cpF_up (by decide), up2_cm (Or.inl (by decide)), up2_cm (i := 34) (j := 27) (Or.inl (by decide))]]; exact JZ_le (JZ_sheet k.toInt.toNat l m hJ1 hq_k (by omega)) (by omega))⟩)
          · (repeat first | rw [up2_o (by omega)] | rw [cpF_r (by omega)] | rw [uph_o (by omega)]) <;> rfl
        · have c_36_4 : m.toInt < 0 := c_36_4
          refine V_aload_n (pc := 39) 0 dX11_sheet_39 rfl rfl ?_
          refine V_iconst (pc := 40) (v := 4) dX11_sheet_40 rfl ?_
          refine V_callV (pc := 41) (As := [.int 4]) (st := []) (c_X11_answerOfFault G 4 hw) mf_X11_answerOfFault ml_X11_89 iv_X11_answerOfFault (wN hw (by decide)) (wS1 hw (by decide) rfl) (by decide) rfl dX11_sheet_41 rfl rfl (by omega) (by omega) (by omega) (Nat.le_of_ble_eq_true rfl) (fun r_41_6 n_41_6 sh_41_6 I_41_6 L_41_6 R_41_6 hq_41_6 => ?_)
          obtain ⟨rfl, rfl, rfl, rfl, rfl, rfl⟩ := hq_41_6
          refine V_iret (pc := 44) rfl rfl dX11_sheet_44 (by omega) (by omega) ?_
          refine ⟨fun X' r' hq => ?_, fun a h1 h2 => ?_, hw, ⟨_, rfl⟩⟩
          · obtain ⟨v0, e0, rfl⟩ := hq
            unfold sSheet isSheet isLane at e0
            (repeat' split at e0) <;> first | (exfalso; omega) | (obtain ⟨rfl, rfl⟩ := Prod.mk.inj e0; exact ⟨by (first | rfl | exact congrArg (fun z => some (Value.int z)) (by decide) | (refine ie ?_; (repeat' split) <;> omega)), by (rw [← up2_up (f := X) (v := 0)]; exact JZ_le (JZ_fault _ hJ1) (by omega))⟩)
          · (repeat first | rw [up2_o (by omega)] | rw [cpF_r (by omega)] | rw [uph_o (by omega)]) <;> rfl
      · have c_29_3 : 32 < m.toInt := c_29_3
        refine V_bipush (pc := 32) (v := (-2)) dX11_sheet_32 rfl ?_
        refine V_iret (pc := 34) rfl rfl dX11_sheet_34 (by omega) (by omega) ?_
        refine ⟨fun X' r' hq => ?_, fun a h1 h2 => ?_, hw, ⟨_, rfl⟩⟩
        · obtain ⟨v0, e0, rfl⟩ := hq
          unfold sSheet isSheet isLane at e0
          (repeat' split at e0) <;> first | (exfalso; omega) | (obtain ⟨rfl, rfl⟩ := Prod.mk.inj e0; exact ⟨by (first | rfl | exact congrArg (fun z => some (Value.int z)) (by decide) | (refine ie ?_; (repeat' split) <;> omega)), by (exact JZ_le hJ1 (by omega))⟩)
        · (repeat first | rw [up2_o (by omega)] | rw [cpF_r (by omega)] | rw [uph_o (by omega)]) <;> rfl
    · have c_20_2 : ¬ (0 ≤ l.toInt ∧ l.toInt ≤ 2) := c_20_2
      refine V_if_eq_t (pc := 23) (tgt := 32) dX11_sheet_23 (by decide) (by decide) ?_
      refine V_bipush (pc := 32) (v := (-2)) dX11_sheet_32 rfl ?_
      refine V_iret (pc := 34) rfl rfl dX11_sheet_34 (by omega) (by omega) ?_
      refine ⟨fun X' r' hq => ?_, fun a h1 h2 => ?_, hw, ⟨_, rfl⟩⟩
      · obtain ⟨v0, e0, rfl⟩ := hq
        unfold sSheet isSheet isLane at e0
        (repeat' split at e0) <;> first | (exfalso; omega) | (obtain ⟨rfl, rfl⟩ := Prod.mk.inj e0; exact ⟨by (first | rfl | exact congrArg (fun z => some (Value.int z)) (by decide) | (refine ie ?_; (repeat' split) <;> omega)), by (exact JZ_le hJ1 (by omega))⟩)
      · (repeat first | rw [up2_o (by omega)] | rw [cpF_r (by omega)] | rw [uph_o (by omega)]) <;> rfl
set_option maxRecDepth 100000 in
set_option maxHeartbeats 4000000 in
theorem c_X11_put (G : vG) {n : Nat} {sh : vS} {I : vI} {L : vL} {R : vR} (t : Int) (X : vI) (k i v : Int32) (hJ : JZ t n sh I L R X) : CT G yX11_put cX11_put 6 (some .int) 2 0 0 [.ref (ad G 0), .int k, .int i, .int v] n sh I L R (ZP t I (qi (sPut X k i v))) := by
  refine CT_of (own := RX11) (ini := false) (lo := [(0, .ref (ad G 0)), (1, .int k), (2, .int i), (3, .int v)]) mf_X11_put (Nat.le_of_ble_eq_true rfl) rfl (fun h => by first | rfl | cases h) rfl ?_
  obtain ⟨⟨hw, hR, hC, hK, hS, hT, hB, hQ, hY, hV⟩, hx⟩ := id hJ
  have c01 : (I 0 1).toInt = (X 27 1).toInt := by rw [hR.1]
  have c06 : (I 0 6).toInt = (X 27 30).toInt := by rw [hC.1]
  have c08 : (I 0 8).toInt = (X 27 35).toInt := by rw [hK.1]
  have c21 : (I 2 1).toInt = (X 27 12).toInt := by rw [hB.1]
  have b01 := hR.2.1
  have b30 := hC.2.1
  have b35 := hK.2.1
  have b12 := hB.2.2.1
  obtain ⟨cy2, cy3, cy6, b24, b27, b25, y13⟩ := JW_d hY
  have i32_1 : (1 : Int32).toInt = 1 := rfl
  have hJ1 := JZ_fault (0 : Int32) hJ
  have hR1 : JRd n sh (up2 I 0 11 0) R X := FRd hR (Nat.le_refl _) (fun _ _ => rfl) rfl rfl (fun i h1 _ _ => up2_o (by omega)) rfl rfl rfl rfl rfl rfl rfl
  have hK1 : JK n sh (up2 I 0 11 0) R X := FKk hK (Nat.le_refl _) (fun _ _ => rfl) rfl (fun _ _ _ => rfl) rfl (fun i h1 _ _ => up2_o (by omega)) rfl rfl rfl rfl rfl rfl rfl
  have hS1 : JS (up2 I 0 11 0) X := FS hS (fun i h1 h2 => up2_o (by omega)) rfl rfl rfl
  have hB1 : JB (up2 I 0 11 0) X := FB hB rfl rfl rfl rfl
  refine V_aload_n (pc := 0) 0 dX11_put_0 rfl rfl ?_
  refine V_iconst (pc := 1) (v := 0) dX11_put_1 rfl ?_
  refine V_putI (pc := 2) fw_X11_81_11 rfl rfl dX11_put_2 (wN hw (by decide)) (wS1 hw (by decide) rfl) ?_
  refine V_aload_n (pc := 5) 0 dX11_put_5 rfl rfl ?_
  refine V_iload_n (pc := 6) 1 dX11_put_6 rfl rfl ?_
  refine V_callV (pc := 7) (As := [.int k]) (st := []) (c_X11_sheetOf G k hw) mf_X11_sheetOf ml_X11_112 iv_X11_sheetOf (wN hw (by decide)) (wS1 hw (by decide) rfl) (by decide) rfl dX11_put_7 rfl rfl (by omega) (by omega) (by omega) (Nat.le_of_ble_eq_true rfl) (fun r_7_1 n_7_1 sh_7_1 I_7_1 L_7_1 R_7_1 hq_7_1 => ?_)
  obtain ⟨rfl, rfl, rfl, rfl, rfl, hq_7_1⟩ := hq_7_1
  rcases hq_7_1 with ⟨c_7_1, rfl⟩ | ⟨c_7_1, rfl⟩
  · have c_7_1 : ¬ (0 ≤ k.toInt ∧ k.toInt ≤ 3) := c_7_1
    refine V_astoreN (pc := 10) (lo' := [(0, .ref (ad G 0)), (1, .int k), (2, .int i), (3, .int v), (4, .null)]) dX11_put_10 (by decide) rfl ?_
    refine V_aloadN (pc := 12) 4 dX11_put_12 rfl ?_
    refine V_ifnonnull_n (pc := 14) dX11_put_14 ?_
    refine V_iconst (pc := 17) (v := (-1)) dX11_put_17 rfl ?_
    refine V_iret (pc := 18) rfl rfl dX11_put_18 (by omega) (by omega) ?_
    refine ⟨fun X' r' hq => ?_, fun a h1 h2 => ?_, hw, ⟨_, rfl⟩⟩
    · obtain ⟨v0, e0, rfl⟩ := hq
      unfold sPut isSheet at e0
      (repeat' split at e0) <;> first | (exfalso; omega) | (obtain ⟨rfl, rfl⟩ := Prod.mk.inj e0; exact ⟨by (first | rfl | exact congrArg (fun z => some (Value.int z)) (by decide) | (refine ie ?_; (repeat' split) <;> omega)), by (exact JZ_le hJ1 (by omega))⟩)
    · (repeat first | rw [up2_o (by omega)] | rw [cpF_r (by omega)] | rw [uph_o (by omega)]) <;> rfl
  · have c_7_1 : 0 ≤ k.toInt ∧ k.toInt ≤ 3 := c_7_1
    have hq_k : k.toInt.toNat < 4 := by omega
    have hqi_k : k.toInt = ((k.toInt.toNat : Nat) : Int) := by omega
    have hsq_k := hS1 k.toInt.toNat hq_k
    have hsb_k := JSb hsq_k
    refine V_astore (pc := 10) (lo' := [(0, .ref (ad G 0)), (1, .int k), (2, .int i), (3, .int v), (4, .ref (ad G (19 + 2 * k.toInt.toNat)))]) dX11_put_10 (by decide) rfl ?_
    refine V_aload (pc := 12) 4 dX11_put_12 rfl ?_
    refine V_ifnonnull_r (pc := 14) (tgt := 19) dX11_put_14 (by decide) ?_
    refine V_aload (pc := 19) 4 dX11_put_19 rfl ?_
    refine V_aload (pc := 21) 4 dX11_put_21 rfl ?_
    refine V_gI (pc := 23) (v := ((up2 I 0 11 0) (19 + 2 * k.toInt.toNat) 2)) rfl fk_X11_261_9 dX11_put_23 (wSo hw hq_k).1.1 (wSo hw hq_k).2.1 ?_
    refine V_iload_n (pc := 26) 2 dX11_put_26 rfl rfl ?_
    refine V_iconst (pc := 27) (v := 1) dX11_put_27 rfl ?_
    refine V_callV (pc := 28) (As := [.int ((up2 I 0 11 0) (19 + 2 * k.toInt.toNat) 2), .int i, .int 1]) (st := []) (c_X9_faultOfCells G X k k.toInt.toNat ((up2 I 0 11 0) (19 + 2 * k.toInt.toNat) 2) i 1 hw hq_k hqi_k hsq_k) mf_X9_faultOfCells ml_X11_119 iv_X9_faultOfCells (wSo hw hq_k).1.1 (wSo hw hq_k).2.1 (by decide) rfl dX11_put_28 rfl rfl (by omega) (by omega) (by omega) (Nat.le_of_ble_eq_true rfl) (fun r_28_2 n_28_2 sh_28_2 I_28_2 L_28_2 R_28_2 hq_28_2 => ?_)
    obtain ⟨rfl, rfl, rfl, rfl, rfl, rfl⟩ := hq_28_2
    have hf5 := fault_5 X k ((up2 I 0 11 0) (19 + 2 * k.toInt.toNat) 2) i 1
    refine V_istore (pc := 31) (lo' := [(0, .ref (ad G 0)), (1, .int k), (2, .int i), (3, .int v), (4, .ref (ad G (19 + 2 * k.toInt.toNat))), (5, .int (faultF X k ((up2 I 0 11 0) (19 + 2 * k.toInt.toNat) 2) i 1))]) dX11_put_31 (by decide) rfl ?_
    refine V_iload (pc := 33) 5 dX11_put_33 rfl ?_
    refine V_if_eq (pc := 35) (tgt := 45) dX11_put_35 (by decide) (fun c_35_3 => ?_) (fun c_35_3 => ?_)
    · have c_35_3 : (faultF X k ((up2 I 0 11 0) (19 + 2 * k.toInt.toNat) 2) i 1).toInt = 0 := c_35_3
      refine V_aload (pc := 45) 4 dX11_put_45 rfl ?_
      refine V_getR (pc := 47) (j := (20 + 2 * k.toInt.toNat)) fk_X11_123_9 (wSo hw hq_k).2.2.2.1 dX11_put_47 (wSo hw hq_k).1.1 (wSo hw hq_k).2.1 ?_
      refine V_iload_n (pc := 50) 2 dX11_put_50 rfl rfl ?_
      refine V_iload_n (pc := 51) 3 dX11_put_51 rfl rfl ?_
      refine V_aload (pc := 52) 4 dX11_put_52 rfl ?_
      refine V_gI (pc := 54) (v := ((up2 I 0 11 0) (19 + 2 * k.toInt.toNat) 2)) rfl fk_X11_261_9 dX11_put_54 (wSo hw hq_k).1.1 (wSo hw hq_k).2.1 ?_
      refine V_callS (pc := 57) (As := [.int v, .int ((up2 I 0 11 0) (19 + 2 * k.toInt.toNat) 2)]) (st := [.int i, .ref (ad G (20 + 2 * k.toInt.toNat))]) (c_X11_cutToLane G v ((up2 I 0 11 0) (19 + 2 * k.toInt.toNat) 2)) mf_X11_cutToLane ml_X11_264 st_X11_cutToLane dX11_put_57 rfl rfl (by omega) (by omega) (by omega) (Nat.le_of_ble_eq_true rfl) (fun r_57_4 n_57_4 sh_57_4 I_57_4 L_57_4 R_57_4 hq_57_4 => ?_)
      obtain ⟨rfl, rfl, rfl, rfl, rfl, rfl⟩ := hq_57_4
      refine V_iask (pc := 60) (k := i.toInt.toNat) dX11_put_60 (wSo hw hq_k).1.2 (wSo hw hq_k).2.2.1 (by omega) (by omega) ?_
      refine V_iconst (pc := 61) (v := 1) dX11_put_61 rfl ?_
      refine V_iret (pc := 62) rfl rfl dX11_put_62 (by omega) (by omega) ?_
      refine ⟨fun X' r' hq => ?_, fun a h1 h2 => ?_, hw, ⟨_, rfl⟩⟩
      · obtain ⟨v0, e0, rfl⟩ := hq
        have hfn := flt_no (i := i) hsq_k hqi_k
        rw [hfn] at hf5
        have hfz : (faultF X k (up2 I 0 11 0 (19 + 2 * k.toInt.toNat) 2) i 1).toInt = 0 := by assumption
        rw [hfn] at hfz
        have hn3 := noCell_3 X k i
        unfold sPut at e0
        rw [if_neg (by omega), if_neg (by omega)] at e0
        obtain ⟨rfl, rfl⟩ := Prod.mk.inj e0
        refine ⟨rfl, ?_⟩
        have h35 : up2 I 0 11 0 (19 + 2 * k.toInt.toNat) 2 = X 35 k.toInt.toNat := by
          rcases hsq_k with ⟨-, -, -, z, -⟩ | ⟨-, z⟩
          · exact z
          · omega
        rw [h35, show up2 (up2 X 36 ((32 * k.toInt) + i.toInt).toNat (laneF (X 35 k.toInt.toNat) v)) 27 0 0 = up2 (up2 X 27 0 0) 36 (32 * k.toInt.toNat + i.toInt.toNat) (laneF (X 35 k.toInt.toNat) v) from by rw [up2_cm (Or.inl (by decide)), show ((32 * k.toInt) + i.toInt).toNat = 32 * k.toInt.toNat + i.toInt.toNat by omega]]
        exact JZ_le (JZ_put k.toInt.toNat i.toInt.toNat _ hJ1 hq_k (by show ((i.toInt.toNat : Nat) : Int) < (X 34 k.toInt.toNat).toInt; omega)) (by omega)
      · (repeat first | rw [up2_o (by omega)] | rw [cpF_r (by omega)] | rw [uph_o (by omega)]) <;> rfl
    · have c_35_3 : (faultF X k ((up2 I 0 11 0) (19 + 2 * k.toInt.toNat) 2) i 1).toInt ≠ 0 := c_35_3
      refine V_aload_n (pc := 38) 0 dX11_put_38 rfl rfl ?_
      refine V_iload (pc := 39) 5 dX11_put_39 rfl ?_
      refine V_callV (pc := 41) (As := [.int (faultF X k ((up2 I 0 11 0) (19 + 2 * k.toInt.toNat) 2) i 1)]) (st := []) (c_X11_answerOfFault G (faultF X k ((up2 I 0 11 0) (19 + 2 * k.toInt.toNat) 2) i 1) hw) mf_X11_answerOfFault ml_X11_89 iv_X11_answerOfFault (wN hw (by decide)) (wS1 hw (by decide) rfl) (by decide) rfl dX11_put_41 rfl rfl (by omega) (by omega) (by omega) (Nat.le_of_ble_eq_true rfl) (fun r_41_5 n_41_5 sh_41_5 I_41_5 L_41_5 R_41_5 hq_41_5 => ?_)
      obtain ⟨rfl, rfl, rfl, rfl, rfl, rfl⟩ := hq_41_5
      refine V_iret (pc := 44) rfl rfl dX11_put_44 (by omega) (by omega) ?_
      refine ⟨fun X' r' hq => ?_, fun a h1 h2 => ?_, hw, ⟨_, rfl⟩⟩
      · obtain ⟨v0, e0, rfl⟩ := hq
        have hfn := flt_no (i := i) hsq_k hqi_k
        rw [hfn] at hf5
        have hfz : (faultF X k (up2 I 0 11 0 (19 + 2 * k.toInt.toNat) 2) i 1).toInt ≠ 0 := by assumption
        rw [hfn] at hfz ⊢
        unfold sPut at e0
        rw [if_neg (by omega), if_pos (by omega)] at e0
        obtain ⟨rfl, rfl⟩ := Prod.mk.inj e0
        refine ⟨rfl, ?_⟩
        rw [← up2_up (f := X) (v := 0)]
        exact JZ_le (JZ_fault _ hJ1) (by omega)
      · (repeat first | rw [up2_o (by omega)] | rw [cpF_r (by omega)] | rw [uph_o (by omega)]) <;> rfl
set_option maxRecDepth 100000 in
set_option maxHeartbeats 4000000 in
theorem c_X11_cell (G : vG) {n : Nat} {sh : vS} {I : vI} {L : vL} {R : vR} (t : Int) (X : vI) (k i l : Int32) (hJ : JZ t n sh I L R X) : CT G yX11_cell cX11_cell 6 (some .long) 2 0 0 [.ref (ad G 0), .int k, .int i, .int l] n sh I L R (ZP t I (ql (sCell X k i l))) := by
  refine CT_of (own := RX11) (ini := false) (lo := [(0, .ref (ad G 0)), (1, .int k), (2, .int i), (3, .int l)]) mf_X11_cell (Nat.le_of_ble_eq_true rfl) rfl (fun h => by first | rfl | cases h) rfl ?_
  obtain ⟨⟨hw, hR, hC, hK, hS, hT, hB, hQ, hY, hV⟩, hx⟩ := id hJ
  have c01 : (I 0 1).toInt = (X 27 1).toInt := by rw [hR.1]
  have c06 : (I 0 6).toInt = (X 27 30).toInt := by rw [hC.1]
  have c08 : (I 0 8).toInt = (X 27 35).toInt := by rw [hK.1]
  have c21 : (I 2 1).toInt = (X 27 12).toInt := by rw [hB.1]
  have b01 := hR.2.1
  have b30 := hC.2.1
  have b35 := hK.2.1
  have b12 := hB.2.2.1
  obtain ⟨cy2, cy3, cy6, b24, b27, b25, y13⟩ := JW_d hY
  have i32_1 : (1 : Int32).toInt = 1 := rfl
  have hJ1 := JZ_fault (0 : Int32) hJ
  have hR1 : JRd n sh (up2 I 0 11 0) R X := FRd hR (Nat.le_refl _) (fun _ _ => rfl) rfl rfl (fun i h1 _ _ => up2_o (by omega)) rfl rfl rfl rfl rfl rfl rfl
  have hK1 : JK n sh (up2 I 0 11 0) R X := FKk hK (Nat.le_refl _) (fun _ _ => rfl) rfl (fun _ _ _ => rfl) rfl (fun i h1 _ _ => up2_o (by omega)) rfl rfl rfl rfl rfl rfl rfl
  have hS1 : JS (up2 I 0 11 0) X := FS hS (fun i h1 h2 => up2_o (by omega)) rfl rfl rfl
  have hB1 : JB (up2 I 0 11 0) X := FB hB rfl rfl rfl rfl
  refine V_aload_n (pc := 0) 0 dX11_cell_0 rfl rfl ?_
  refine V_iconst (pc := 1) (v := 0) dX11_cell_1 rfl ?_
  refine V_putI (pc := 2) fw_X11_81_11 rfl rfl dX11_cell_2 (wN hw (by decide)) (wS1 hw (by decide) rfl) ?_
  refine V_aload_n (pc := 5) 0 dX11_cell_5 rfl rfl ?_
  refine V_iload_n (pc := 6) 1 dX11_cell_6 rfl rfl ?_
  refine V_callV (pc := 7) (As := [.int k]) (st := []) (c_X11_sheetOf G k hw) mf_X11_sheetOf ml_X11_112 iv_X11_sheetOf (wN hw (by decide)) (wS1 hw (by decide) rfl) (by decide) rfl dX11_cell_7 rfl rfl (by omega) (by omega) (by omega) (Nat.le_of_ble_eq_true rfl) (fun r_7_1 n_7_1 sh_7_1 I_7_1 L_7_1 R_7_1 hq_7_1 => ?_)
  obtain ⟨rfl, rfl, rfl, rfl, rfl, hq_7_1⟩ := hq_7_1
  rcases hq_7_1 with ⟨c_7_1, rfl⟩ | ⟨c_7_1, rfl⟩
  · have c_7_1 : ¬ (0 ≤ k.toInt ∧ k.toInt ≤ 3) := c_7_1
    refine V_astoreN (pc := 10) (lo' := [(0, .ref (ad G 0)), (1, .int k), (2, .int i), (3, .int l), (4, .null)]) dX11_cell_10 (by decide) rfl ?_
    refine V_aloadN (pc := 12) 4 dX11_cell_12 rfl ?_
    refine V_ifnull_n (pc := 14) (tgt := 24) dX11_cell_14 (by decide) ?_
    refine V_ldc2 (pc := 24) dX11_cell_24 kk_X11_154 ?_
    refine V_lret (pc := 27) rfl dX11_cell_27 (by omega) (by omega) ?_
    refine ⟨fun X' r' hq => ?_, fun a h1 h2 => ?_, hw, ⟨_, rfl⟩⟩
    · obtain ⟨v0, e0, rfl⟩ := hq
      rw [sCell_f] at e0
      rw [if_pos (by omega)] at e0
      obtain ⟨rfl, rfl⟩ := Prod.mk.inj e0
      exact ⟨rfl, JZ_le hJ1 (by omega)⟩
    · (repeat first | rw [up2_o (by omega)] | rw [cpF_r (by omega)] | rw [uph_o (by omega)]) <;> rfl
  · have c_7_1 : 0 ≤ k.toInt ∧ k.toInt ≤ 3 := c_7_1
    have hq_k : k.toInt.toNat < 4 := by omega
    have hqi_k : k.toInt = ((k.toInt.toNat : Nat) : Int) := by omega
    have hsq_k := hS1 k.toInt.toNat hq_k
    have hsb_k := JSb hsq_k
    refine V_astore (pc := 10) (lo' := [(0, .ref (ad G 0)), (1, .int k), (2, .int i), (3, .int l), (4, .ref (ad G (19 + 2 * k.toInt.toNat)))]) dX11_cell_10 (by decide) rfl ?_
    refine V_aload (pc := 12) 4 dX11_cell_12 rfl ?_
    refine V_ifnull_r (pc := 14) dX11_cell_14 ?_
    refine V_iload_n (pc := 17) 3 dX11_cell_17 rfl rfl ?_
    refine V_callS (pc := 18) (As := [.int l]) (st := []) (c_X11_isLane G l) mf_X11_isLane ml_X11_116 st_X11_isLane dX11_cell_18 rfl rfl (by omega) (by omega) (by omega) (Nat.le_of_ble_eq_true rfl) (fun r_18_2 n_18_2 sh_18_2 I_18_2 L_18_2 R_18_2 hq_18_2 => ?_)
    obtain ⟨rfl, rfl, rfl, rfl, rfl, hq_18_2⟩ := hq_18_2
    rcases hq_18_2 with ⟨c_18_2, rfl⟩ | ⟨c_18_2, rfl⟩
    · have c_18_2 : 0 ≤ l.toInt ∧ l.toInt ≤ 2 := c_18_2
      refine V_if_ne_t (pc := 21) (tgt := 28) dX11_cell_21 (by decide) (by decide) ?_
      refine V_aload (pc := 28) 4 dX11_cell_28 rfl ?_
      refine V_iload_n (pc := 30) 3 dX11_cell_30 rfl rfl ?_
      refine V_iload_n (pc := 31) 2 dX11_cell_31 rfl rfl ?_
      refine V_iconst (pc := 32) (v := 1) dX11_cell_32 rfl ?_
      refine V_callV (pc := 33) (As := [.int l, .int i, .int 1]) (st := []) (c_X9_faultOfCells G X k k.toInt.toNat l i 1 hw hq_k hqi_k hsq_k) mf_X9_faultOfCells ml_X11_119 iv_X9_faultOfCells (wSo hw hq_k).1.1 (wSo hw hq_k).2.1 (by decide) rfl dX11_cell_33 rfl rfl (by omega) (by omega) (by omega) (Nat.le_of_ble_eq_true rfl) (fun r_33_3 n_33_3 sh_33_3 I_33_3 L_33_3 R_33_3 hq_33_3 => ?_)
      obtain ⟨rfl, rfl, rfl, rfl, rfl, rfl⟩ := hq_33_3
      have hf5 := fault_5 X k l i 1
      refine V_istore (pc := 36) (lo' := [(0, .ref (ad G 0)), (1, .int k), (2, .int i), (3, .int l), (4, .ref (ad G (19 + 2 * k.toInt.toNat))), (5, .int (faultF X k l i 1))]) dX11_cell_36 (by decide) rfl ?_
      refine V_iload (pc := 38) 5 dX11_cell_38 rfl ?_
      refine V_if_eq (pc := 40) (tgt := 50) dX11_cell_40 (by decide) (fun c_40_4 => ?_) (fun c_40_4 => ?_)
      · have c_40_4 : (faultF X k l i 1).toInt = 0 := c_40_4
        refine V_aload (pc := 50) 4 dX11_cell_50 rfl ?_
        refine V_getR (pc := 52) (j := (20 + 2 * k.toInt.toNat)) fk_X11_123_9 (wSo hw hq_k).2.2.2.1 dX11_cell_52 (wSo hw hq_k).1.1 (wSo hw hq_k).2.1 ?_
        refine V_iload_n (pc := 55) 2 dX11_cell_55 rfl rfl ?_
        refine V_ia (pc := 56) (k := i.toInt.toNat) (v := ((up2 I 0 11 0) (20 + 2 * k.toInt.toNat) i.toInt.toNat)) rfl dX11_cell_56 (wSo hw hq_k).1.2 (wSo hw hq_k).2.2.1 (by omega) (by omega) ?_
        refine V_i2l (pc := 57) dX11_cell_57 (fun x_57_5 e_57_5 => ?_)
        have t_57_5 : x_57_5.toInt = ((up2 I 0 11 0) (20 + 2 * k.toInt.toNat) i.toInt.toNat).toInt := i2lT e_57_5 rfl
        have b_57_5 := fb_rng ((up2 I 0 11 0) (20 + 2 * k.toInt.toNat) i.toInt.toNat)
        refine V_lret (pc := 58) rfl dX11_cell_58 (by omega) (by omega) ?_
        refine ⟨fun X' r' hq => ?_, fun a h1 h2 => ?_, hw, ⟨_, rfl⟩⟩
        · obtain ⟨v0, e0, rfl⟩ := hq
          rw [sCell_f] at e0
          rw [if_neg (by omega), if_neg (by omega)] at e0
          obtain ⟨rfl, rfl⟩ := Prod.mk.inj e0
          refine ⟨?_, JZ_le hJ1 (by omega)⟩
          have h1 : (1 : Int32).toInt = 1 := rfl
          have h36 := JScl (fn := i.toInt.toNat) (m := 1) hsq_k (by omega) (by omega) 0 (by omega)
          have ex : up2 I 0 11 0 (20 + 2 * k.toInt.toNat) i.toInt.toNat = X 36 ((32 * k.toInt) + i.toInt).toNat := by
            rw [show ((32 * k.toInt) + i.toInt).toNat = 32 * k.toInt.toNat + i.toInt.toNat + 0 by omega]
            exact h36
          rw [e_57_5, ex]
        · (repeat first | rw [up2_o (by omega)] | rw [cpF_r (by omega)] | rw [uph_o (by omega)]) <;> rfl
      · have c_40_4 : (faultF X k l i 1).toInt ≠ 0 := c_40_4
        refine V_aload_n (pc := 43) 0 dX11_cell_43 rfl rfl ?_
        refine V_iload (pc := 44) 5 dX11_cell_44 rfl ?_
        refine V_callV (pc := 46) (As := [.int (faultF X k l i 1)]) (st := []) (c_X11_lostByFault G (faultF X k l i 1) hw) mf_X11_lostByFault ml_X11_156 iv_X11_lostByFault (wN hw (by decide)) (wS1 hw (by decide) rfl) (by decide) rfl dX11_cell_46 rfl rfl (by omega) (by omega) (by omega) (Nat.le_of_ble_eq_true rfl) (fun r_46_6 n_46_6 sh_46_6 I_46_6 L_46_6 R_46_6 hq_46_6 => ?_)
        obtain ⟨rfl, rfl, rfl, rfl, rfl, rfl⟩ := hq_46_6
        refine V_lret (pc := 49) rfl dX11_cell_49 (by omega) (by omega) ?_
        refine ⟨fun X' r' hq => ?_, fun a h1 h2 => ?_, hw, ⟨_, rfl⟩⟩
        · obtain ⟨v0, e0, rfl⟩ := hq
          rw [sCell_f] at e0
          rw [if_neg (by omega), if_pos (by omega)] at e0
          obtain ⟨rfl, rfl⟩ := Prod.mk.inj e0
          exact ⟨rfl, JZ_le (JZ_fault _ hJ1) (by omega)⟩
        · (repeat first | rw [up2_o (by omega)] | rw [cpF_r (by omega)] | rw [uph_o (by omega)]) <;> rfl
    · have c_18_2 : ¬ (0 ≤ l.toInt ∧ l.toInt ≤ 2) := c_18_2
      refine V_if_ne_f (pc := 21) (tgt := 28) dX11_cell_21 (by decide) (by decide) ?_
      refine V_ldc2 (pc := 24) dX11_cell_24 kk_X11_154 ?_
      refine V_lret (pc := 27) rfl dX11_cell_27 (by omega) (by omega) ?_
      refine ⟨fun X' r' hq => ?_, fun a h1 h2 => ?_, hw, ⟨_, rfl⟩⟩
      · obtain ⟨v0, e0, rfl⟩ := hq
        rw [sCell_f] at e0
        rw [if_pos (by omega)] at e0
        obtain ⟨rfl, rfl⟩ := Prod.mk.inj e0
        exact ⟨rfl, JZ_le hJ1 (by omega)⟩
      · (repeat first | rw [up2_o (by omega)] | rw [cpF_r (by omega)] | rw [uph_o (by omega)]) <;> rfl
set_option maxRecDepth 100000 in
set_option maxHeartbeats 4000000 in
theorem c_X11_book (G : vG) {n : Nat} {sh : vS} {I : vI} {L : vL} {R : vR} (t : Int) (X : vI) (k l i m : Int32) (hJ : JZ t n sh I L R X) : CT G yX11_book cX11_book 7 (some .int) 3 0 0 [.ref (ad G 0), .int k, .int l, .int i, .int m] n sh I L R (ZP t I (qi (sBook X k l i m))) := by
  refine CT_of (own := RX11) (ini := false) (lo := [(0, .ref (ad G 0)), (1, .int k), (2, .int l), (3, .int i), (4, .int m)]) mf_X11_book (Nat.le_of_ble_eq_true rfl) rfl (fun h => by first | rfl | cases h) rfl ?_
  obtain ⟨⟨hw, hR, hC, hK, hS, hT, hB, hQ, hY, hV⟩, hx⟩ := id hJ
  have c01 : (I 0 1).toInt = (X 27 1).toInt := by rw [hR.1]
  have c06 : (I 0 6).toInt = (X 27 30).toInt := by rw [hC.1]
  have c08 : (I 0 8).toInt = (X 27 35).toInt := by rw [hK.1]
  have c21 : (I 2 1).toInt = (X 27 12).toInt := by rw [hB.1]
  have b01 := hR.2.1
  have b30 := hC.2.1
  have b35 := hK.2.1
  have b12 := hB.2.2.1
  obtain ⟨cy2, cy3, cy6, b24, b27, b25, y13⟩ := JW_d hY
  have i32_1 : (1 : Int32).toInt = 1 := rfl
  have hJ1 := JZ_fault (0 : Int32) hJ
  have hR1 : JRd n sh (up2 I 0 11 0) R X := FRd hR (Nat.le_refl _) (fun _ _ => rfl) rfl rfl (fun i h1 _ _ => up2_o (by omega)) rfl rfl rfl rfl rfl rfl rfl
  have hK1 : JK n sh (up2 I 0 11 0) R X := FKk hK (Nat.le_refl _) (fun _ _ => rfl) rfl (fun _ _ _ => rfl) rfl (fun i h1 _ _ => up2_o (by omega)) rfl rfl rfl rfl rfl rfl rfl
  have hS1 : JS (up2 I 0 11 0) X := FS hS (fun i h1 h2 => up2_o (by omega)) rfl rfl rfl
  have hB1 : JB (up2 I 0 11 0) X := FB hB rfl rfl rfl rfl
  refine V_aload_n (pc := 0) 0 dX11_book_0 rfl rfl ?_
  refine V_iconst (pc := 1) (v := 0) dX11_book_1 rfl ?_
  refine V_putI (pc := 2) fw_X11_81_11 rfl rfl dX11_book_2 (wN hw (by decide)) (wS1 hw (by decide) rfl) ?_
  refine V_aload_n (pc := 5) 0 dX11_book_5 rfl rfl ?_
  refine V_iload_n (pc := 6) 1 dX11_book_6 rfl rfl ?_
  refine V_callV (pc := 7) (As := [.int k]) (st := []) (c_X11_sheetOf G k hw) mf_X11_sheetOf ml_X11_112 iv_X11_sheetOf (wN hw (by decide)) (wS1 hw (by decide) rfl) (by decide) rfl dX11_book_7 rfl rfl (by omega) (by omega) (by omega) (Nat.le_of_ble_eq_true rfl) (fun r_7_1 n_7_1 sh_7_1 I_7_1 L_7_1 R_7_1 hq_7_1 => ?_)
  obtain ⟨rfl, rfl, rfl, rfl, rfl, hq_7_1⟩ := hq_7_1
  rcases hq_7_1 with ⟨c_7_1, rfl⟩ | ⟨c_7_1, rfl⟩
  · have c_7_1 : ¬ (0 ≤ k.toInt ∧ k.toInt ≤ 3) := c_7_1
    refine V_astoreN (pc := 10) (lo' := [(0, .ref (ad G 0)), (1, .int k), (2, .int l), (3, .int i), (4, .int m), (5, .null)]) dX11_book_10 (by decide) rfl ?_
    refine V_aloadN (pc := 12) 5 dX11_book_12 rfl ?_
    refine V_ifnonnull_n (pc := 14) dX11_book_14 ?_
    refine V_iconst (pc := 17) (v := (-1)) dX11_book_17 rfl ?_
    refine V_iret (pc := 18) rfl rfl dX11_book_18 (by omega) (by omega) ?_
    refine ⟨fun X' r' hq => ?_, fun a h1 h2 => ?_, hw, ⟨_, rfl⟩⟩
    · obtain ⟨v0, e0, rfl⟩ := hq
      rw [sBook_f] at e0
      rw [if_pos (by omega)] at e0
      obtain ⟨rfl, rfl⟩ := Prod.mk.inj e0
      exact ⟨rfl, JZ_le hJ1 (by omega)⟩
    · (repeat first | rw [up2_o (by omega)] | rw [cpF_r (by omega)] | rw [uph_o (by omega)]) <;> rfl
  · have c_7_1 : 0 ≤ k.toInt ∧ k.toInt ≤ 3 := c_7_1
    have hq_k : k.toInt.toNat < 4 := by omega
    have hqi_k : k.toInt = ((k.toInt.toNat : Nat) : Int) := by omega
    have hsq_k := hS1 k.toInt.toNat hq_k
    have hsb_k := JSb hsq_k
    refine V_astore (pc := 10) (lo' := [(0, .ref (ad G 0)), (1, .int k), (2, .int l), (3, .int i), (4, .int m), (5, .ref (ad G (19 + 2 * k.toInt.toNat)))]) dX11_book_10 (by decide) rfl ?_
    refine V_aload (pc := 12) 5 dX11_book_12 rfl ?_
    refine V_ifnonnull_r (pc := 14) (tgt := 19) dX11_book_14 (by decide) ?_
    refine V_iload_n (pc := 19) 2 dX11_book_19 rfl rfl ?_
    refine V_callS (pc := 20) (As := [.int l]) (st := []) (c_X11_isLane G l) mf_X11_isLane ml_X11_116 st_X11_isLane dX11_book_20 rfl rfl (by omega) (by omega) (by omega) (Nat.le_of_ble_eq_true rfl) (fun r_20_2 n_20_2 sh_20_2 I_20_2 L_20_2 R_20_2 hq_20_2 => ?_)
    obtain ⟨rfl, rfl, rfl, rfl, rfl, hq_20_2⟩ := hq_20_2
    rcases hq_20_2 with ⟨c_20_2, rfl⟩ | ⟨c_20_2, rfl⟩
    · have c_20_2 : 0 ≤ l.toInt ∧ l.toInt ≤ 2 := c_20_2
      refine V_if_ne_t (pc := 23) (tgt := 29) dX11_book_23 (by decide) (by decide) ?_
      refine V_aload (pc := 29) 5 dX11_book_29 rfl ?_
      refine V_iload_n (pc := 31) 2 dX11_book_31 rfl rfl ?_
      refine V_iload_n (pc := 32) 3 dX11_book_32 rfl rfl ?_
      refine V_iload (pc := 33) 4 dX11_book_33 rfl ?_
      refine V_callV (pc := 35) (As := [.int l, .int i, .int m]) (st := []) (c_X9_faultOfCells G X k k.toInt.toNat l i m hw hq_k hqi_k hsq_k) mf_X9_faultOfCells ml_X11_119 iv_X9_faultOfCells (wSo hw hq_k).1.1 (wSo hw hq_k).2.1 (by decide) rfl dX11_book_35 rfl rfl (by omega) (by omega) (by omega) (Nat.le_of_ble_eq_true rfl) (fun r_35_3 n_35_3 sh_35_3 I_35_3 L_35_3 R_35_3 hq_35_3 => ?_)
      obtain ⟨rfl, rfl, rfl, rfl, rfl, rfl⟩ := hq_35_3
      have hf5 := fault_5 X k l i m
      refine V_istore (pc := 38) (lo' := [(0, .ref (ad G 0)), (1, .int k), (2, .int l), (3, .int i), (4, .int m), (5, .ref (ad G (19 + 2 * k.toInt.toNat))), (6, .int (faultF X k l i m))]) dX11_book_38 (by decide) rfl ?_
      refine V_iload (pc := 40) 6 dX11_book_40 rfl ?_
      refine V_if_eq (pc := 42) (tgt := 52) dX11_book_42 (by decide) (fun c_42_4 => ?_) (fun c_42_4 => ?_)
      · have c_42_4 : (faultF X k l i m).toInt = 0 := c_42_4
        refine V_iload (pc := 52) 4 dX11_book_52 rfl ?_
        refine V_iconst (pc := 54) (v := 2) dX11_book_54 rfl ?_
        refine V_bipush (pc := 55) (v := 8) dX11_book_55 rfl ?_
        refine V_callS (pc := 57) (As := [.int m, .int 2, .int 8]) (st := []) (c_X11_isWithin G m 2 8) mf_X11_isWithin ml_X11_61 st_X11_isWithin dX11_book_57 rfl rfl (by omega) (by omega) (by omega) (Nat.le_of_ble_eq_true rfl) (fun r_57_5 n_57_5 sh_57_5 I_57_5 L_57_5 R_57_5 hq_57_5 => ?_)
        obtain ⟨rfl, rfl, rfl, rfl, rfl, hq_57_5⟩ := hq_57_5
        rcases hq_57_5 with ⟨c_57_5, rfl⟩ | ⟨c_57_5, rfl⟩
        · have c_57_5 : 2 ≤ m.toInt ∧ m.toInt ≤ 8 := c_57_5
          refine V_if_eq_f (pc := 60) (tgt := 77) dX11_book_60 (by decide) (by decide) ?_
          refine V_aload (pc := 63) 5 dX11_book_63 rfl ?_
          refine V_getR (pc := 65) (j := (20 + 2 * k.toInt.toNat)) fk_X11_123_9 (wSo hw hq_k).2.2.2.1 dX11_book_65 (wSo hw hq_k).1.1 (wSo hw hq_k).2.1 ?_
          refine V_iload_n (pc := 68) 3 dX11_book_68 rfl rfl ?_
          refine V_iload (pc := 69) 4 dX11_book_69 rfl ?_
          have hfz : (faultF X k l i m).toInt = 0 := by first | assumption | omega
          have hcl := JScl (fn := i.toInt.toNat) (m := m.toInt) hsq_k (by omega) (by omega)
          have h32 : (i.toInt.toNat : Int) + m.toInt ≤ 32 := by omega
          have hQe : ((32 * k.toInt.toNat + i.toInt.toNat : Nat) : Int) = (32 * k.toInt) + i.toInt := by omega
          refine V_callS (pc := 71) (As := [.ref (ad G (20 + 2 * k.toInt.toNat)), .int i, .int m]) (st := []) (c_X11_areBookSpots G X k.toInt.toNat i.toInt.toNat i m hw hq_k (by omega) (by omega) h32 hcl) mf_X11_areBookSpots ml_X11_127 st_X11_areBookSpots dX11_book_71 rfl rfl (by omega) (by omega) (by omega) (Nat.le_of_ble_eq_true rfl) (fun r_71_6 n_71_6 sh_71_6 I_71_6 L_71_6 R_71_6 hq_71_6 => ?_)
          rw [hQe] at hq_71_6
          obtain ⟨rfl, rfl, rfl, rfl, rfl, hq_71_6⟩ := hq_71_6
          rcases hq_71_6 with ⟨hbs, rfl⟩ | ⟨hbs, rfl⟩
          · skip
            refine V_if_ne_t (pc := 74) (tgt := 80) dX11_book_74 (by decide) (by decide) ?_
            refine V_aload_n (pc := 80) 0 dX11_book_80 rfl rfl ?_
            refine V_getR (pc := 81) (j := 2) fk_X11_20_11 (wR hw (i := 0) (k := 2) (j := 2) rfl) dX11_book_81 (wN hw (by decide)) (wS1 hw (by decide) rfl) ?_
            refine V_aload (pc := 84) 5 dX11_book_84 rfl ?_
            refine V_getR (pc := 86) (j := (20 + 2 * k.toInt.toNat)) fk_X11_123_9 (wSo hw hq_k).2.2.2.1 dX11_book_86 (wSo hw hq_k).1.1 (wSo hw hq_k).2.1 ?_
            refine V_iload_n (pc := 89) 3 dX11_book_89 rfl rfl ?_
            refine V_iload (pc := 90) 4 dX11_book_90 rfl ?_
            refine V_callV (pc := 92) (As := [.ref (ad G (20 + 2 * k.toInt.toNat)), .int i, .int m]) (st := []) (c_X0_become G X k.toInt.toNat i.toInt.toNat i m hw hq_k (by omega) (by omega) h32 hcl (by omega)) mf_X0_become ml_X11_131 iv_X0_become (wN hw (by decide)) (wS1 hw (by decide) rfl) (by decide) rfl dX11_book_92 rfl rfl (by omega) (by omega) (by omega) (Nat.le_of_ble_eq_true rfl) (fun r_92_7 n_92_7 sh_92_7 I_92_7 L_92_7 R_92_7 hq_92_7 => ?_)
            obtain ⟨rfl, rfl, rfl, rfl, rfl, rfl⟩ := hq_92_7
            refine V_iload (pc := 95) 4 dX11_book_95 rfl ?_
            refine V_iret (pc := 97) rfl rfl dX11_book_97 (by omega) (by omega) ?_
            refine ⟨fun X' r' hq => ?_, fun a h1 h2 => ?_, hw, ⟨_, rfl⟩⟩
            · obtain ⟨v0, e0, rfl⟩ := hq
              rw [sBook_f] at e0
              rw [if_neg (by omega), if_neg (by omega), if_neg (by omega), bIf_pos ⟨by omega, hbs⟩] at e0
              obtain ⟨rfl, rfl⟩ := Prod.mk.inj e0
              refine ⟨rfl, ?_⟩
              have eg : (fun x : Nat => X 36 (((32 * k.toInt) + i.toInt) + (x : Int)).toNat) = fun x : Nat => X 36 (32 * k.toInt.toNat + i.toInt.toNat + x) := funext fun x => by rw [show (((32 * k.toInt) + i.toInt) + (x : Int)).toNat = 32 * k.toInt.toNat + i.toInt.toNat + x by omega]
              rw [eg, show up2 (cpF (up2 X 27 12 m) 38 0 (fun x : Nat => X 36 (32 * k.toInt.toNat + i.toInt.toNat + x)) m.toInt.toNat) 27 0 0 = cpF (up2 (up2 X 27 0 0) 27 12 m) 38 0 (fun x : Nat => X 36 (32 * k.toInt.toNat + i.toInt.toNat + x)) m.toInt.toNat from by rw [cpF_up (by decide), up2_cm (Or.inr (by decide))]]
              refine JZ_le (JZ_book m _ hJ1 (by omega) (fun y hy => ?_)) (by omega)
              have hb := (hbs y hy).1
              rw [show (((32 * k.toInt) + i.toInt) + (y : Int)).toNat = 32 * k.toInt.toNat + i.toInt.toNat + y by omega] at hb
              exact hb
            · (repeat first | rw [up2_o (by omega)] | rw [cpF_r (by omega)] | rw [uph_o (by omega)]) <;> rfl
          · skip
            refine V_if_ne_f (pc := 74) (tgt := 80) dX11_book_74 (by decide) (by decide) ?_
            refine V_bipush (pc := 77) (v := (-2)) dX11_book_77 rfl ?_
            refine V_iret (pc := 79) rfl rfl dX11_book_79 (by omega) (by omega) ?_
            refine ⟨fun X' r' hq => ?_, fun a h1 h2 => ?_, hw, ⟨_, rfl⟩⟩
            · obtain ⟨v0, e0, rfl⟩ := hq
              rw [sBook_f] at e0
              rw [if_neg (by omega), if_neg (by omega), if_neg (by omega), bIf_neg (fun z => by first | (have z1 := z.1; omega) | exact hbs z.2)] at e0
              obtain ⟨rfl, rfl⟩ := Prod.mk.inj e0
              exact ⟨rfl, JZ_le hJ1 (by omega)⟩
            · (repeat first | rw [up2_o (by omega)] | rw [cpF_r (by omega)] | rw [uph_o (by omega)]) <;> rfl
        · have c_57_5 : ¬ (2 ≤ m.toInt ∧ m.toInt ≤ 8) := c_57_5
          refine V_if_eq_t (pc := 60) (tgt := 77) dX11_book_60 (by decide) (by decide) ?_
          refine V_bipush (pc := 77) (v := (-2)) dX11_book_77 rfl ?_
          refine V_iret (pc := 79) rfl rfl dX11_book_79 (by omega) (by omega) ?_
          refine ⟨fun X' r' hq => ?_, fun a h1 h2 => ?_, hw, ⟨_, rfl⟩⟩
          · obtain ⟨v0, e0, rfl⟩ := hq
            rw [sBook_f] at e0
            rw [if_neg (by omega), if_neg (by omega), if_neg (by omega), bIf_neg (fun z => by first | (have z1 := z.1; omega) | exact hbs z.2)] at e0
            obtain ⟨rfl, rfl⟩ := Prod.mk.inj e0
            exact ⟨rfl, JZ_le hJ1 (by omega)⟩
          · (repeat first | rw [up2_o (by omega)] | rw [cpF_r (by omega)] | rw [uph_o (by omega)]) <;> rfl
      · have c_42_4 : (faultF X k l i m).toInt ≠ 0 := c_42_4
        refine V_aload_n (pc := 45) 0 dX11_book_45 rfl rfl ?_
        refine V_iload (pc := 46) 6 dX11_book_46 rfl ?_
        refine V_callV (pc := 48) (As := [.int (faultF X k l i m)]) (st := []) (c_X11_answerOfFault G (faultF X k l i m) hw) mf_X11_answerOfFault ml_X11_89 iv_X11_answerOfFault (wN hw (by decide)) (wS1 hw (by decide) rfl) (by decide) rfl dX11_book_48 rfl rfl (by omega) (by omega) (by omega) (Nat.le_of_ble_eq_true rfl) (fun r_48_8 n_48_8 sh_48_8 I_48_8 L_48_8 R_48_8 hq_48_8 => ?_)
        obtain ⟨rfl, rfl, rfl, rfl, rfl, rfl⟩ := hq_48_8
        refine V_iret (pc := 51) rfl rfl dX11_book_51 (by omega) (by omega) ?_
        refine ⟨fun X' r' hq => ?_, fun a h1 h2 => ?_, hw, ⟨_, rfl⟩⟩
        · obtain ⟨v0, e0, rfl⟩ := hq
          rw [sBook_f] at e0
          rw [if_neg (by omega), if_neg (by omega), if_pos (by omega)] at e0
          obtain ⟨rfl, rfl⟩ := Prod.mk.inj e0
          refine ⟨rfl, ?_⟩
          rw [← up2_up (f := X) (v := 0)]
          exact JZ_le (JZ_fault _ hJ1) (by omega)
        · (repeat first | rw [up2_o (by omega)] | rw [cpF_r (by omega)] | rw [uph_o (by omega)]) <;> rfl
    · have c_20_2 : ¬ (0 ≤ l.toInt ∧ l.toInt ≤ 2) := c_20_2
      refine V_if_ne_f (pc := 23) (tgt := 29) dX11_book_23 (by decide) (by decide) ?_
      refine V_bipush (pc := 26) (v := (-2)) dX11_book_26 rfl ?_
      refine V_iret (pc := 28) rfl rfl dX11_book_28 (by omega) (by omega) ?_
      refine ⟨fun X' r' hq => ?_, fun a h1 h2 => ?_, hw, ⟨_, rfl⟩⟩
      · obtain ⟨v0, e0, rfl⟩ := hq
        rw [sBook_f] at e0
        rw [if_neg (by omega), if_pos (by omega)] at e0
        obtain ⟨rfl, rfl⟩ := Prod.mk.inj e0
        exact ⟨rfl, JZ_le hJ1 (by omega)⟩
      · (repeat first | rw [up2_o (by omega)] | rw [cpF_r (by omega)] | rw [uph_o (by omega)]) <;> rfl
set_option maxRecDepth 100000 in
set_option maxHeartbeats 4000000 in
theorem c_X11_proof (G : vG) {n : Nat} {sh : vS} {I : vI} {L : vL} {R : vR} (t : Int) (X : vI) (k l i m : Int32) (hJ : JZ t n sh I L R X) : CT G yX11_proof cX11_proof 7 (some .long) 7 0 0 [.ref (ad G 0), .int k, .int l, .int i, .int m] n sh I L R (ZP t I (qz (sProof X k l i m))) := by
  refine CT_of (own := RX11) (ini := false) (lo := [(0, .ref (ad G 0)), (1, .int k), (2, .int l), (3, .int i), (4, .int m)]) mf_X11_proof (Nat.le_of_ble_eq_true rfl) rfl (fun h => by first | rfl | cases h) rfl ?_
  obtain ⟨⟨hw, hR, hC, hK, hS, hT, hB, hQ, hY, hV⟩, hx⟩ := id hJ
  have c01 : (I 0 1).toInt = (X 27 1).toInt := by rw [hR.1]
  have c06 : (I 0 6).toInt = (X 27 30).toInt := by rw [hC.1]
  have c08 : (I 0 8).toInt = (X 27 35).toInt := by rw [hK.1]
  have c21 : (I 2 1).toInt = (X 27 12).toInt := by rw [hB.1]
  have b01 := hR.2.1
  have b30 := hC.2.1
  have b35 := hK.2.1
  have b12 := hB.2.2.1
  obtain ⟨cy2, cy3, cy6, b24, b27, b25, y13⟩ := JW_d hY
  have i32_1 : (1 : Int32).toInt = 1 := rfl
  have hJ1 := JZ_fault (0 : Int32) hJ
  have hR1 : JRd n sh (up2 I 0 11 0) R X := FRd hR (Nat.le_refl _) (fun _ _ => rfl) rfl rfl (fun i h1 _ _ => up2_o (by omega)) rfl rfl rfl rfl rfl rfl rfl
  have hK1 : JK n sh (up2 I 0 11 0) R X := FKk hK (Nat.le_refl _) (fun _ _ => rfl) rfl (fun _ _ _ => rfl) rfl (fun i h1 _ _ => up2_o (by omega)) rfl rfl rfl rfl rfl rfl rfl
  have hS1 : JS (up2 I 0 11 0) X := FS hS (fun i h1 h2 => up2_o (by omega)) rfl rfl rfl
  have hB1 : JB (up2 I 0 11 0) X := FB hB rfl rfl rfl rfl
  refine V_aload_n (pc := 0) 0 dX11_proof_0 rfl rfl ?_
  refine V_iconst (pc := 1) (v := 0) dX11_proof_1 rfl ?_
  refine V_putI (pc := 2) fw_X11_81_11 rfl rfl dX11_proof_2 (wN hw (by decide)) (wS1 hw (by decide) rfl) ?_
  refine V_aload_n (pc := 5) 0 dX11_proof_5 rfl rfl ?_
  refine V_iload_n (pc := 6) 1 dX11_proof_6 rfl rfl ?_
  refine V_callV (pc := 7) (As := [.int k]) (st := []) (c_X11_sheetOf G k hw) mf_X11_sheetOf ml_X11_112 iv_X11_sheetOf (wN hw (by decide)) (wS1 hw (by decide) rfl) (by decide) rfl dX11_proof_7 rfl rfl (by omega) (by omega) (by omega) (Nat.le_of_ble_eq_true rfl) (fun r_7_1 n_7_1 sh_7_1 I_7_1 L_7_1 R_7_1 hq_7_1 => ?_)
  obtain ⟨rfl, rfl, rfl, rfl, rfl, hq_7_1⟩ := hq_7_1
  rcases hq_7_1 with ⟨c_7_1, rfl⟩ | ⟨c_7_1, rfl⟩
  · have c_7_1 : ¬ (0 ≤ k.toInt ∧ k.toInt ≤ 3) := c_7_1
    refine V_astoreN (pc := 10) (lo' := [(0, .ref (ad G 0)), (1, .int k), (2, .int l), (3, .int i), (4, .int m), (5, .null)]) dX11_proof_10 (by decide) rfl ?_
    refine V_aloadN (pc := 12) 5 dX11_proof_12 rfl ?_
    refine V_ifnull_n (pc := 14) (tgt := 34) dX11_proof_14 (by decide) ?_
    refine V_ldc2 (pc := 34) dX11_proof_34 kk_X11_154 ?_
    refine V_lret (pc := 37) rfl dX11_proof_37 (by omega) (by omega) ?_
    refine ⟨fun X' r' hq => ?_, fun a h1 h2 => ?_, hw, ⟨_, rfl⟩⟩
    · obtain ⟨v0, e0, rfl⟩ := hq
      unfold sProof at e0
      rw [if_pos (by omega)] at e0
      obtain ⟨rfl, e9⟩ := Prod.mk.inj e0
      exact ⟨le' e9, JZ_le hJ1 (by omega)⟩
    · (repeat first | rw [up2_o (by omega)] | rw [cpF_r (by omega)] | rw [uph_o (by omega)]) <;> rfl
  · have c_7_1 : 0 ≤ k.toInt ∧ k.toInt ≤ 3 := c_7_1
    have hq_k : k.toInt.toNat < 4 := by omega
    have hqi_k : k.toInt = ((k.toInt.toNat : Nat) : Int) := by omega
    have hsq_k := hS1 k.toInt.toNat hq_k
    have hsb_k := JSb hsq_k
    refine V_astore (pc := 10) (lo' := [(0, .ref (ad G 0)), (1, .int k), (2, .int l), (3, .int i), (4, .int m), (5, .ref (ad G (19 + 2 * k.toInt.toNat)))]) dX11_proof_10 (by decide) rfl ?_
    refine V_aload (pc := 12) 5 dX11_proof_12 rfl ?_
    refine V_ifnull_r (pc := 14) dX11_proof_14 ?_
    refine V_iload_n (pc := 17) 2 dX11_proof_17 rfl rfl ?_
    refine V_callS (pc := 18) (As := [.int l]) (st := []) (c_X11_isLane G l) mf_X11_isLane ml_X11_116 st_X11_isLane dX11_proof_18 rfl rfl (by omega) (by omega) (by omega) (Nat.le_of_ble_eq_true rfl) (fun r_18_2 n_18_2 sh_18_2 I_18_2 L_18_2 R_18_2 hq_18_2 => ?_)
    obtain ⟨rfl, rfl, rfl, rfl, rfl, hq_18_2⟩ := hq_18_2
    rcases hq_18_2 with ⟨c_18_2, rfl⟩ | ⟨c_18_2, rfl⟩
    · have c_18_2 : 0 ≤ l.toInt ∧ l.toInt ≤ 2 := c_18_2
      refine V_if_eq_f (pc := 21) (tgt := 34) dX11_proof_21 (by decide) (by decide) ?_
      refine V_aload_n (pc := 24) 0 dX11_proof_24 rfl rfl ?_
      refine V_getR (pc := 25) (j := 2) fk_X11_20_11 (wR hw (i := 0) (k := 2) (j := 2) rfl) dX11_proof_25 (wN hw (by decide)) (wS1 hw (by decide) rfl) ?_
      refine V_gI (pc := 28) (v := (I 2 1)) rfl fk_X11_135_0 dX11_proof_28 (wN hw (by decide)) (wS1 hw (by decide) rfl) ?_
      refine V_if_ne (pc := 31) (tgt := 38) dX11_proof_31 (by decide) (fun c_31_3 => ?_) (fun c_31_3 => ?_)
      · have c_31_3 : (I 2 1).toInt ≠ 0 := c_31_3
        refine V_aload (pc := 38) 5 dX11_proof_38 rfl ?_
        refine V_iload_n (pc := 40) 2 dX11_proof_40 rfl rfl ?_
        refine V_iload_n (pc := 41) 3 dX11_proof_41 rfl rfl ?_
        refine V_iload (pc := 42) 4 dX11_proof_42 rfl ?_
        refine V_callV (pc := 44) (As := [.int l, .int i, .int m]) (st := []) (c_X9_faultOfCells G X k k.toInt.toNat l i m hw hq_k hqi_k hsq_k) mf_X9_faultOfCells ml_X11_119 iv_X9_faultOfCells (wSo hw hq_k).1.1 (wSo hw hq_k).2.1 (by decide) rfl dX11_proof_44 rfl rfl (by omega) (by omega) (by omega) (Nat.le_of_ble_eq_true rfl) (fun r_44_4 n_44_4 sh_44_4 I_44_4 L_44_4 R_44_4 hq_44_4 => ?_)
        obtain ⟨rfl, rfl, rfl, rfl, rfl, rfl⟩ := hq_44_4
        have hf5 := fault_5 X k l i m
        refine V_istore (pc := 47) (lo' := [(0, .ref (ad G 0)), (1, .int k), (2, .int l), (3, .int i), (4, .int m), (5, .ref (ad G (19 + 2 * k.toInt.toNat))), (6, .int (faultF X k l i m))]) dX11_proof_47 (by decide) rfl ?_
        refine V_iload (pc := 49) 6 dX11_proof_49 rfl ?_
        refine V_if_eq (pc := 51) (tgt := 61) dX11_proof_51 (by decide) (fun c_51_5 => ?_) (fun c_51_5 => ?_)
        · have c_51_5 : (faultF X k l i m).toInt = 0 := c_51_5
          refine V_aload_n (pc := 61) 0 dX11_proof_61 rfl rfl ?_
          refine V_aload (pc := 62) 5 dX11_proof_62 rfl ?_
          refine V_getR (pc := 64) (j := (20 + 2 * k.toInt.toNat)) fk_X11_123_9 (wSo hw hq_k).2.2.2.1 dX11_proof_64 (wSo hw hq_k).1.1 (wSo hw hq_k).2.1 ?_
          refine V_iload_n (pc := 67) 3 dX11_proof_67 rfl rfl ?_
          refine V_iload (pc := 68) 4 dX11_proof_68 rfl ?_
          have hfz : (faultF X k l i m).toInt = 0 := by first | assumption | omega
          have hcl := JScl (fn := i.toInt.toNat) (m := m.toInt) hsq_k (by omega) (by omega)
          have h32 : (i.toInt.toNat : Int) + m.toInt ≤ 32 := by omega
          have hQe : ((32 * k.toInt.toNat + i.toInt.toNat : Nat) : Int) = (32 * k.toInt) + i.toInt := by omega
          refine V_callV (pc := 70) (As := [.ref (ad G (20 + 2 * k.toInt.toNat)), .int i, .int m]) (st := []) (c_X11_proofOfRow G X k.toInt.toNat i.toInt.toNat i m hw hq_k (by omega) (by omega) h32 hcl hR1 hB1 (by omega)) mf_X11_proofOfRow ml_X11_160 iv_X11_proofOfRow (wN hw (by decide)) (wS1 hw (by decide) rfl) (by decide) rfl dX11_proof_70 rfl rfl (by omega) (by omega) (by omega) (Nat.le_of_ble_eq_true rfl) (fun r_70_6 n_70_6 sh_70_6 I_70_6 L_70_6 R_70_6 hq_70_6 => ?_)
          obtain ⟨rfl, rfl, rfl, rfl, rfl, v9, rfl, hv9⟩ := hq_70_6
          refine V_lret (pc := 73) rfl dX11_proof_73 (by omega) (by omega) ?_
          refine ⟨fun X' r' hq => ?_, fun a h1 h2 => ?_, hw, ⟨_, rfl⟩⟩
          · obtain ⟨v0, e0, rfl⟩ := hq
            unfold sProof at e0
            rw [if_neg (by omega), if_neg (by omega)] at e0
            obtain ⟨rfl, e9⟩ := Prod.mk.inj e0
            refine ⟨le' ?_, JZ_le hJ1 (by omega)⟩
            rw [hv9, ← e9, hQe]
          · (repeat first | rw [up2_o (by omega)] | rw [cpF_r (by omega)] | rw [uph_o (by omega)]) <;> rfl
        · have c_51_5 : (faultF X k l i m).toInt ≠ 0 := c_51_5
          refine V_aload_n (pc := 54) 0 dX11_proof_54 rfl rfl ?_
          refine V_iload (pc := 55) 6 dX11_proof_55 rfl ?_
          refine V_callV (pc := 57) (As := [.int (faultF X k l i m)]) (st := []) (c_X11_lostByFault G (faultF X k l i m) hw) mf_X11_lostByFault ml_X11_156 iv_X11_lostByFault (wN hw (by decide)) (wS1 hw (by decide) rfl) (by decide) rfl dX11_proof_57 rfl rfl (by omega) (by omega) (by omega) (Nat.le_of_ble_eq_true rfl) (fun r_57_7 n_57_7 sh_57_7 I_57_7 L_57_7 R_57_7 hq_57_7 => ?_)
          obtain ⟨rfl, rfl, rfl, rfl, rfl, rfl⟩ := hq_57_7
          refine V_lret (pc := 60) rfl dX11_proof_60 (by omega) (by omega) ?_
          refine ⟨fun X' r' hq => ?_, fun a h1 h2 => ?_, hw, ⟨_, rfl⟩⟩
          · obtain ⟨v0, e0, rfl⟩ := hq
            unfold sProof at e0
            rw [if_neg (by omega), if_pos (by omega)] at e0
            obtain ⟨rfl, e9⟩ := Prod.mk.inj e0
            exact ⟨le' e9, JZ_le (JZ_fault _ hJ1) (by omega)⟩
          · (repeat first | rw [up2_o (by omega)] | rw [cpF_r (by omega)] | rw [uph_o (by omega)]) <;> rfl
      · have c_31_3 : (I 2 1).toInt = 0 := c_31_3
        refine V_ldc2 (pc := 34) dX11_proof_34 kk_X11_154 ?_
        refine V_lret (pc := 37) rfl dX11_proof_37 (by omega) (by omega) ?_
        refine ⟨fun X' r' hq => ?_, fun a h1 h2 => ?_, hw, ⟨_, rfl⟩⟩
        · obtain ⟨v0, e0, rfl⟩ := hq
          unfold sProof at e0
          rw [if_pos (by omega)] at e0
          obtain ⟨rfl, e9⟩ := Prod.mk.inj e0
          exact ⟨le' e9, JZ_le hJ1 (by omega)⟩
        · (repeat first | rw [up2_o (by omega)] | rw [cpF_r (by omega)] | rw [uph_o (by omega)]) <;> rfl
    · have c_18_2 : ¬ (0 ≤ l.toInt ∧ l.toInt ≤ 2) := c_18_2
      refine V_if_eq_t (pc := 21) (tgt := 34) dX11_proof_21 (by decide) (by decide) ?_
      refine V_ldc2 (pc := 34) dX11_proof_34 kk_X11_154 ?_
      refine V_lret (pc := 37) rfl dX11_proof_37 (by omega) (by omega) ?_
      refine ⟨fun X' r' hq => ?_, fun a h1 h2 => ?_, hw, ⟨_, rfl⟩⟩
      · obtain ⟨v0, e0, rfl⟩ := hq
        unfold sProof at e0
        rw [if_pos (by omega)] at e0
        obtain ⟨rfl, e9⟩ := Prod.mk.inj e0
        exact ⟨le' e9, JZ_le hJ1 (by omega)⟩
      · (repeat first | rw [up2_o (by omega)] | rw [cpF_r (by omega)] | rw [uph_o (by omega)]) <;> rfl
