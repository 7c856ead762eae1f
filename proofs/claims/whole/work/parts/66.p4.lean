set_option maxRecDepth 100000 in
set_option maxHeartbeats 4000000 in
theorem c_X11_copy (G : vG) {n : Nat} {sh : vS} {I : vI} {L : vL} {R : vR} (t : Int) (X : vI) (k i o j m : Int32) (hJ : JZ t n sh I L R X) : CT G yX11_copy cX11_copy 8 (some .int) 2 0 0 [.ref (ad G 0), .int k, .int i, .int o, .int j, .int m] n sh I L R (ZP t I (qi (sCopy X k i o j m))) := by
  refine CT_of (own := RX11) (ini := false) (lo := [(0, .ref (ad G 0)), (1, .int k), (2, .int i), (3, .int o), (4, .int j), (5, .int m)]) mf_X11_copy (Nat.le_of_ble_eq_true rfl) rfl (fun h => by first | rfl | cases h) rfl ?_
  obtain ⟨⟨hw, hR, hC, hK, hS, hT, hB, hQ, hY, hV⟩, hx⟩ := id hJ
  have c01 : (I 0 1).toInt = (X 27 1).toInt := by rw [hR.1]
  have c06 : (I 0 6).toInt = (X 27 30).toInt := by rw [hC.1]
  have c08 : (I 0 8).toInt = (X 27 35).toInt := by rw [hK.1]
  have c21 : (I 2 1).toInt = (X 27 12).toInt := by rw [hB.1]
  have b01 := hR.2.1
  have b30 := hC.2.1
  have b35 := hK.2.1
  have b12 := hB.2.2.1
  obtain ⟨cy2, cy3, cy6, b24, b27, b25, y13⟩ := JW_d hY
  have i32_1 : (1 : Int32).toInt = 1 := rfl
  have hJ1 := JZ_fault (0 : Int32) hJ
  have hR1 : JRd n sh (up2 I 0 11 0) R X := FRd hR (Nat.le_refl _) (fun _ _ => rfl) rfl rfl (fun i h1 _ _ => up2_o (by omega)) rfl rfl rfl rfl rfl rfl rfl
  have hK1 : JK n sh (up2 I 0 11 0) R X := FKk hK (Nat.le_refl _) (fun _ _ => rfl) rfl (fun _ _ _ => rfl) rfl (fun i h1 _ _ => up2_o (by omega)) rfl rfl rfl rfl rfl rfl rfl
  have hS1 : JS (up2 I 0 11 0) X := FS hS (fun i h1 h2 => up2_o (by omega)) rfl rfl rfl
  have hB1 : JB (up2 I 0 11 0) X := FB hB rfl rfl rfl rfl
  refine V_aload_n (pc := 0) 0 dX11_copy_0 rfl rfl ?_
  refine V_iconst (pc := 1) (v := 0) dX11_copy_1 rfl ?_
  refine V_putI (pc := 2) fw_X11_81_11 rfl rfl dX11_copy_2 (wN hw (by decide)) (wS1 hw (by decide) rfl) ?_
  refine V_aload_n (pc := 5) 0 dX11_copy_5 rfl rfl ?_
  refine V_iload_n (pc := 6) 1 dX11_copy_6 rfl rfl ?_
  refine V_callV (pc := 7) (As := [.int k]) (st := []) (c_X11_sheetOf G k hw) mf_X11_sheetOf ml_X11_112 iv_X11_sheetOf (wN hw (by decide)) (wS1 hw (by decide) rfl) (by decide) rfl dX11_copy_7 rfl rfl (by omega) (by omega) (by omega) (Nat.le_of_ble_eq_true rfl) (fun r_7_1 n_7_1 sh_7_1 I_7_1 L_7_1 R_7_1 hq_7_1 => ?_)
  obtain ⟨rfl, rfl, rfl, rfl, rfl, hq_7_1⟩ := hq_7_1
  rcases hq_7_1 with ⟨c_7_1, rfl⟩ | ⟨c_7_1, rfl⟩
  · have c_7_1 : ¬ (0 ≤ k.toInt ∧ k.toInt ≤ 3) := c_7_1
    refine V_astoreN (pc := 10) (lo' := [(0, .ref (ad G 0)), (1, .int k), (2, .int i), (3, .int o), (4, .int j), (5, .int m), (6, .null)]) dX11_copy_10 (by decide) rfl ?_
    refine V_aload_n (pc := 12) 0 dX11_copy_12 rfl rfl ?_
    refine V_iload_n (pc := 13) 3 dX11_copy_13 rfl rfl ?_
    refine V_callV (pc := 14) (As := [.int o]) (st := []) (c_X11_sheetOf G o hw) mf_X11_sheetOf ml_X11_112 iv_X11_sheetOf (wN hw (by decide)) (wS1 hw (by decide) rfl) (by decide) rfl dX11_copy_14 rfl rfl (by omega) (by omega) (by omega) (Nat.le_of_ble_eq_true rfl) (fun r_14_2 n_14_2 sh_14_2 I_14_2 L_14_2 R_14_2 hq_14_2 => ?_)
    obtain ⟨rfl, rfl, rfl, rfl, rfl, hq_14_2⟩ := hq_14_2
    rcases hq_14_2 with ⟨c_14_2, rfl⟩ | ⟨c_14_2, rfl⟩
    · have c_14_2 : ¬ (0 ≤ o.toInt ∧ o.toInt ≤ 3) := c_14_2
      refine V_astoreN (pc := 17) (lo' := [(0, .ref (ad G 0)), (1, .int k), (2, .int i), (3, .int o), (4, .int j), (5, .int m), (6, .null), (7, .null)]) dX11_copy_17 (by decide) rfl ?_
      refine V_aloadN (pc := 19) 6 dX11_copy_19 rfl ?_
      refine V_ifnull_n (pc := 21) (tgt := 29) dX11_copy_21 (by decide) ?_
      refine V_iconst (pc := 29) (v := (-1)) dX11_copy_29 rfl ?_
      refine V_iret (pc := 30) rfl rfl dX11_copy_30 (by omega) (by omega) ?_
      refine ⟨fun X' r' hq => ?_, fun a h1 h2 => ?_, hw, ⟨_, rfl⟩⟩
      · obtain ⟨v0, e0, rfl⟩ := hq
        unfold sCopy isSheet at e0
        (repeat' split at e0) <;> first | (exfalso; omega) | (obtain ⟨rfl, rfl⟩ := Prod.mk.inj e0; exact ⟨by (first | rfl | exact congrArg (fun z => some (Value.int z)) (by decide) | (refine ie ?_; (repeat' split) <;> omega)), by (exact JZ_le hJ1 (by omega))⟩)
      · (repeat first | rw [up2_o (by omega)] | rw [cpF_r (by omega)] | rw [uph_o (by omega)]) <;> rfl
    · have c_14_2 : 0 ≤ o.toInt ∧ o.toInt ≤ 3 := c_14_2
      have hq_o : o.toInt.toNat < 4 := by omega
      have hqi_o : o.toInt = ((o.toInt.toNat : Nat) : Int) := by omega
      have hsq_o := hS1 o.toInt.toNat hq_o
      have hsb_o := JSb hsq_o
      refine V_astore (pc := 17) (lo' := [(0, .ref (ad G 0)), (1, .int k), (2, .int i), (3, .int o), (4, .int j), (5, .int m), (6, .null), (7, .ref (ad G (19 + 2 * o.toInt.toNat)))]) dX11_copy_17 (by decide) rfl ?_
      refine V_aloadN (pc := 19) 6 dX11_copy_19 rfl ?_
      refine V_ifnull_n (pc := 21) (tgt := 29) dX11_copy_21 (by decide) ?_
      refine V_iconst (pc := 29) (v := (-1)) dX11_copy_29 rfl ?_
      refine V_iret (pc := 30) rfl rfl dX11_copy_30 (by omega) (by omega) ?_
      refine ⟨fun X' r' hq => ?_, fun a h1 h2 => ?_, hw, ⟨_, rfl⟩⟩
      · obtain ⟨v0, e0, rfl⟩ := hq
        unfold sCopy isSheet at e0
        (repeat' split at e0) <;> first | (exfalso; omega) | (obtain ⟨rfl, rfl⟩ := Prod.mk.inj e0; exact ⟨by (first | rfl | exact congrArg (fun z => some (Value.int z)) (by decide) | (refine ie ?_; (repeat' split) <;> omega)), by (exact JZ_le hJ1 (by omega))⟩)
      · (repeat first | rw [up2_o (by omega)] | rw [cpF_r (by omega)] | rw [uph_o (by omega)]) <;> rfl
  · have c_7_1 : 0 ≤ k.toInt ∧ k.toInt ≤ 3 := c_7_1
    have hq_k : k.toInt.toNat < 4 := by omega
    have hqi_k : k.toInt = ((k.toInt.toNat : Nat) : Int) := by omega
    have hsq_k := hS1 k.toInt.toNat hq_k
    have hsb_k := JSb hsq_k
    refine V_astore (pc := 10) (lo' := [(0, .ref (ad G 0)), (1, .int k), (2, .int i), (3, .int o), (4, .int j), (5, .int m), (6, .ref (ad G (19 + 2 * k.toInt.toNat)))]) dX11_copy_10 (by decide) rfl ?_
    refine V_aload_n (pc := 12) 0 dX11_copy_12 rfl rfl ?_
    refine V_iload_n (pc := 13) 3 dX11_copy_13 rfl rfl ?_
    refine V_callV (pc := 14) (As := [.int o]) (st := []) (c_X11_sheetOf G o hw) mf_X11_sheetOf ml_X11_112 iv_X11_sheetOf (wN hw (by decide)) (wS1 hw (by decide) rfl) (by decide) rfl dX11_copy_14 rfl rfl (by omega) (by omega) (by omega) (Nat.le_of_ble_eq_true rfl) (fun r_14_3 n_14_3 sh_14_3 I_14_3 L_14_3 R_14_3 hq_14_3 => ?_)
    obtain ⟨rfl, rfl, rfl, rfl, rfl, hq_14_3⟩ := hq_14_3
    rcases hq_14_3 with ⟨c_14_3, rfl⟩ | ⟨c_14_3, rfl⟩
    · have c_14_3 : ¬ (0 ≤ o.toInt ∧ o.toInt ≤ 3) := c_14_3
      refine V_astoreN (pc := 17) (lo' := [(0, .ref (ad G 0)), (1, .int k), (2, .int i), (3, .int o), (4, .int j), (5, .int m), (6, .ref (ad G (19 + 2 * k.toInt.toNat))), (7, .null)]) dX11_copy_17 (by decide) rfl ?_
      refine V_aload (pc := 19) 6 dX11_copy_19 rfl ?_
      refine V_ifnull_r (pc := 21) dX11_copy_21 ?_
      refine V_aloadN (pc := 24) 7 dX11_copy_24 rfl ?_
      refine V_ifnonnull_n (pc := 26) dX11_copy_26 ?_
      refine V_iconst (pc := 29) (v := (-1)) dX11_copy_29 rfl ?_
      refine V_iret (pc := 30) rfl rfl dX11_copy_30 (by omega) (by omega) ?_
      refine ⟨fun X' r' hq => ?_, fun a h1 h2 => ?_, hw, ⟨_, rfl⟩⟩
      · obtain ⟨v0, e0, rfl⟩ := hq
        unfold sCopy isSheet at e0
        (repeat' split at e0) <;> first | (exfalso; omega) | (obtain ⟨rfl, rfl⟩ := Prod.mk.inj e0; exact ⟨by (first | rfl | exact congrArg (fun z => some (Value.int z)) (by decide) | (refine ie ?_; (repeat' split) <;> omega)), by (exact JZ_le hJ1 (by omega))⟩)
      · (repeat first | rw [up2_o (by omega)] | rw [cpF_r (by omega)] | rw [uph_o (by omega)]) <;> rfl
    · have c_14_3 : 0 ≤ o.toInt ∧ o.toInt ≤ 3 := c_14_3
      have hq_o : o.toInt.toNat < 4 := by omega
      have hqi_o : o.toInt = ((o.toInt.toNat : Nat) : Int) := by omega
      have hsq_o := hS1 o.toInt.toNat hq_o
      have hsb_o := JSb hsq_o
      refine V_astore (pc := 17) (lo' := [(0, .ref (ad G 0)), (1, .int k), (2, .int i), (3, .int o), (4, .int j), (5, .int m), (6, .ref (ad G (19 + 2 * k.toInt.toNat))), (7, .ref (ad G (19 + 2 * o.toInt.toNat)))]) dX11_copy_17 (by decide) rfl ?_
      refine V_aload (pc := 19) 6 dX11_copy_19 rfl ?_
      refine V_ifnull_r (pc := 21) dX11_copy_21 ?_
      refine V_aload (pc := 24) 7 dX11_copy_24 rfl ?_
      refine V_ifnonnull_r (pc := 26) (tgt := 31) dX11_copy_26 (by decide) ?_
      refine V_aload (pc := 31) 6 dX11_copy_31 rfl ?_
      refine V_gI (pc := 33) (v := ((up2 I 0 11 0) (19 + 2 * k.toInt.toNat) 1)) rfl fk_X11_258_9 dX11_copy_33 (wSo hw hq_k).1.1 (wSo hw hq_k).2.1 ?_
      refine V_if_eq (pc := 36) (tgt := 47) dX11_copy_36 (by decide) (fun c_36_4 => ?_) (fun c_36_4 => ?_)
      · have c_36_4 : ((up2 I 0 11 0) (19 + 2 * k.toInt.toNat) 1).toInt = 0 := c_36_4
        refine V_aload_n (pc := 47) 0 dX11_copy_47 rfl rfl ?_
        refine V_iconst (pc := 48) (v := 1) dX11_copy_48 rfl ?_
        refine V_callV (pc := 49) (As := [.int 1]) (st := []) (c_X11_answerOfFault G 1 hw) mf_X11_answerOfFault ml_X11_89 iv_X11_answerOfFault (wN hw (by decide)) (wS1 hw (by decide) rfl) (by decide) rfl dX11_copy_49 rfl rfl (by omega) (by omega) (by omega) (Nat.le_of_ble_eq_true rfl) (fun r_49_5 n_49_5 sh_49_5 I_49_5 L_49_5 R_49_5 hq_49_5 => ?_)
        obtain ⟨rfl, rfl, rfl, rfl, rfl, rfl⟩ := hq_49_5
        refine V_iret (pc := 52) rfl rfl dX11_copy_52 (by omega) (by omega) ?_
        refine ⟨fun X' r' hq => ?_, fun a h1 h2 => ?_, hw, ⟨_, rfl⟩⟩
        · obtain ⟨v0, e0, rfl⟩ := hq
          unfold sCopy isSheet at e0
          (repeat' split at e0) <;> first | (exfalso; omega) | (obtain ⟨rfl, rfl⟩ := Prod.mk.inj e0; exact ⟨by (first | rfl | exact congrArg (fun z => some (Value.int z)) (by decide) | (refine ie ?_; (repeat' split) <;> omega)), by (rw [← up2_up (f := X) (v := 0)]; exact JZ_le (JZ_fault _ hJ1) (by omega))⟩)
        · (repeat first | rw [up2_o (by omega)] | rw [cpF_r (by omega)] | rw [uph_o (by omega)]) <;> rfl
      · have c_36_4 : ((up2 I 0 11 0) (19 + 2 * k.toInt.toNat) 1).toInt ≠ 0 := c_36_4
        refine V_aload (pc := 39) 7 dX11_copy_39 rfl ?_
        refine V_gI (pc := 41) (v := ((up2 I 0 11 0) (19 + 2 * o.toInt.toNat) 1)) rfl fk_X11_258_9 dX11_copy_41 (wSo hw hq_o).1.1 (wSo hw hq_o).2.1 ?_
        refine V_if_ne (pc := 44) (tgt := 53) dX11_copy_44 (by decide) (fun c_44_6 => ?_) (fun c_44_6 => ?_)
        · have c_44_6 : ((up2 I 0 11 0) (19 + 2 * o.toInt.toNat) 1).toInt ≠ 0 := c_44_6
          refine V_aload (pc := 53) 6 dX11_copy_53 rfl ?_
          refine V_gI (pc := 55) (v := ((up2 I 0 11 0) (19 + 2 * k.toInt.toNat) 2)) rfl fk_X11_261_9 dX11_copy_55 (wSo hw hq_k).1.1 (wSo hw hq_k).2.1 ?_
          refine V_aload (pc := 58) 7 dX11_copy_58 rfl ?_
          refine V_gI (pc := 60) (v := ((up2 I 0 11 0) (19 + 2 * o.toInt.toNat) 2)) rfl fk_X11_261_9 dX11_copy_60 (wSo hw hq_o).1.1 (wSo hw hq_o).2.1 ?_
          refine V_icmp_eq (pc := 63) (tgt := 72) dX11_copy_63 (by decide) (fun c_63_7 => ?_) (fun c_63_7 => ?_)
          · have c_63_7 : ((up2 I 0 11 0) (19 + 2 * k.toInt.toNat) 2).toInt = ((up2 I 0 11 0) (19 + 2 * o.toInt.toNat) 2).toInt := c_63_7
            refine V_iload (pc := 72) 5 dX11_copy_72 rfl ?_
            refine V_if_lt (pc := 74) (tgt := 100) dX11_copy_74 (by decide) (fun c_74_8 => ?_) (fun c_74_8 => ?_)
            · have c_74_8 : m.toInt < 0 := c_74_8
              refine V_aload_n (pc := 100) 0 dX11_copy_100 rfl rfl ?_
              refine V_iconst (pc := 101) (v := 3) dX11_copy_101 rfl ?_
              refine V_callV (pc := 102) (As := [.int 3]) (st := []) (c_X11_answerOfFault G 3 hw) mf_X11_answerOfFault ml_X11_89 iv_X11_answerOfFault (wN hw (by decide)) (wS1 hw (by decide) rfl) (by decide) rfl dX11_copy_102 rfl rfl (by omega) (by omega) (by omega) (Nat.le_of_ble_eq_true rfl) (fun r_102_9 n_102_9 sh_102_9 I_102_9 L_102_9 R_102_9 hq_102_9 => ?_)
              obtain ⟨rfl, rfl, rfl, rfl, rfl, rfl⟩ := hq_102_9
              refine V_iret (pc := 105) rfl rfl dX11_copy_105 (by omega) (by omega) ?_
              refine ⟨fun X' r' hq => ?_, fun a h1 h2 => ?_, hw, ⟨_, rfl⟩⟩
              · obtain ⟨v0, e0, rfl⟩ := hq
                unfold sCopy isSheet at e0
                (repeat' split at e0) <;> first | (exfalso; omega) | (obtain ⟨rfl, rfl⟩ := Prod.mk.inj e0; exact ⟨by (first | rfl | exact congrArg (fun z => some (Value.int z)) (by decide) | (refine ie ?_; (repeat' split) <;> omega)), by (rw [← up2_up (f := X) (v := 0)]; exact JZ_le (JZ_fault _ hJ1) (by omega))⟩)
              · (repeat first | rw [up2_o (by omega)] | rw [cpF_r (by omega)] | rw [uph_o (by omega)]) <;> rfl
            · have c_74_8 : 0 ≤ m.toInt := c_74_8
              refine V_aload (pc := 77) 6 dX11_copy_77 rfl ?_
              refine V_iload_n (pc := 79) 2 dX11_copy_79 rfl rfl ?_
              refine V_iload (pc := 80) 5 dX11_copy_80 rfl ?_
              refine V_callV (pc := 82) (As := [.int i, .int m]) (st := []) (c_X9_holds G k.toInt.toNat i m hw hq_k (by omega)) mf_X9_holds ml_X11_268 iv_X9_holds (wSo hw hq_k).1.1 (wSo hw hq_k).2.1 (by decide) rfl dX11_copy_82 rfl rfl (by omega) (by omega) (by omega) (Nat.le_of_ble_eq_true rfl) (fun r_82_10 n_82_10 sh_82_10 I_82_10 L_82_10 R_82_10 hq_82_10 => ?_)
              obtain ⟨rfl, rfl, rfl, rfl, rfl, hq_82_10⟩ := hq_82_10
              rcases hq_82_10 with ⟨hh_k, rfl⟩ | ⟨hh_k, rfl⟩
              · skip
                refine V_if_eq_f (pc := 85) (tgt := 100) dX11_copy_85 (by decide) (by decide) ?_
                refine V_aload (pc := 88) 7 dX11_copy_88 rfl ?_
                refine V_iload (pc := 90) 4 dX11_copy_90 rfl ?_
                refine V_iload (pc := 92) 5 dX11_copy_92 rfl ?_
                refine V_callV (pc := 94) (As := [.int j, .int m]) (st := []) (c_X9_holds G o.toInt.toNat j m hw hq_o (by omega)) mf_X9_holds ml_X11_268 iv_X9_holds (wSo hw hq_o).1.1 (wSo hw hq_o).2.1 (by decide) rfl dX11_copy_94 rfl rfl (by omega) (by omega) (by omega) (Nat.le_of_ble_eq_true rfl) (fun r_94_11 n_94_11 sh_94_11 I_94_11 L_94_11 R_94_11 hq_94_11 => ?_)
                obtain ⟨rfl, rfl, rfl, rfl, rfl, hq_94_11⟩ := hq_94_11
                rcases hq_94_11 with ⟨hh_o, rfl⟩ | ⟨hh_o, rfl⟩
                · skip
                  refine V_if_ne_t (pc := 97) (tgt := 106) dX11_copy_97 (by decide) (by decide) ?_
                  refine V_aload (pc := 106) 6 dX11_copy_106 rfl ?_
                  refine V_getR (pc := 108) (j := (20 + 2 * k.toInt.toNat)) fk_X11_123_9 (wSo hw hq_k).2.2.2.1 dX11_copy_108 (wSo hw hq_k).1.1 (wSo hw hq_k).2.1 ?_
                  refine V_iload_n (pc := 111) 2 dX11_copy_111 rfl rfl ?_
                  refine V_aload (pc := 112) 7 dX11_copy_112 rfl ?_
                  refine V_getR (pc := 114) (j := (20 + 2 * o.toInt.toNat)) fk_X11_123_9 (wSo hw hq_o).2.2.2.1 dX11_copy_114 (wSo hw hq_o).1.1 (wSo hw hq_o).2.1 ?_
                  refine V_iload (pc := 117) 4 dX11_copy_117 rfl ?_
                  refine V_iload (pc := 119) 5 dX11_copy_119 rfl ?_
                  refine V_copyi (pc := 121) (st := []) (I' := (cpyI (up2 I 0 11 0) (20 + 2 * k.toInt.toNat) (20 + 2 * o.toInt.toNat) i.toInt.toNat j.toInt.toNat m.toInt.toNat)) may_l dX11_copy_121 (by omega) (wSo hw hq_k).1.2 (wSo hw hq_k).2.2.1 (wSo hw hq_o).1.2 (wSo hw hq_o).2.2.1 (by omega) (by omega) (by omega) (by omega) (by omega) (Nat.le_of_ble_eq_true rfl) (fun q hq => funext fun y => if_neg (fun z => hq z.1)) (fun y => ?_) ?_
                  · show (if _ ∧ _ then _ else _) = _
                    by_cases z : j.toInt.toNat ≤ y ∧ y < j.toInt.toNat + m.toInt.toNat
                    · rw [if_pos ⟨rfl, z⟩, if_pos z]
                    · rw [if_neg (fun q => z q.2), if_neg z]
                  refine V_iload (pc := 124) 5 dX11_copy_124 rfl ?_
                  refine V_iret (pc := 126) rfl rfl dX11_copy_126 (by omega) (by omega) ?_
                  refine ⟨fun X' r' hq => ?_, fun a h1 h2 => ?_, hw, ⟨_, rfl⟩⟩
                  · obtain ⟨v0, e0, rfl⟩ := hq
                    unfold sCopy at e0
                    rw [if_neg (by omega), if_neg (by omega), if_neg (by omega), if_neg (by omega)] at e0
                    obtain ⟨rfl, rfl⟩ := Prod.mk.inj e0
                    refine ⟨rfl, ?_⟩
                    obtain ⟨c1, c2⟩ := cpX (X := X) (c := m.toInt.toNat) hqi_k hqi_o (show i.toInt = ((i.toInt.toNat : Nat) : Int) by omega) (show j.toInt = ((j.toInt.toNat : Nat) : Int) by omega)
                    refine JZ_le (JZ_copy hJ1 k.toInt.toNat o.toInt.toNat i.toInt.toNat j.toInt.toNat m.toInt.toNat hq_k hq_o (by show ((i.toInt.toNat + m.toInt.toNat : Nat) : Int) ≤ (X 34 k.toInt.toNat).toInt; omega) (by show ((j.toInt.toNat + m.toInt.toNat : Nat) : Int) ≤ (X 34 o.toInt.toNat).toInt; omega) (fun a ha => funext fun y => if_neg (fun z => ha z.1)) (fun b => ?_) (fun r h1 h2 => ?_) (fun b => ?_)) (by omega)
                    · show (if _ ∧ _ then _ else _) = _
                      by_cases z : j.toInt.toNat ≤ b ∧ b < j.toInt.toNat + m.toInt.toNat
                      · rw [if_pos ⟨rfl, z⟩, if_pos z]
                      · rw [if_neg (fun q => z q.2), if_neg z]
                    · funext y
                      unfold up2
                      rw [c1 r h1 h2]
                    · rw [up2_o (by decide), c2, up2_o (by decide)]
                  · refine (funext fun y => if_neg (fun z => ?_)).trans (up2_o (by omega))
                    have := z.1
                    omega
                · skip
                  refine V_if_ne_f (pc := 97) (tgt := 106) dX11_copy_97 (by decide) (by decide) ?_
                  refine V_aload_n (pc := 100) 0 dX11_copy_100 rfl rfl ?_
                  refine V_iconst (pc := 101) (v := 3) dX11_copy_101 rfl ?_
                  refine V_callV (pc := 102) (As := [.int 3]) (st := []) (c_X11_answerOfFault G 3 hw) mf_X11_answerOfFault ml_X11_89 iv_X11_answerOfFault (wN hw (by decide)) (wS1 hw (by decide) rfl) (by decide) rfl dX11_copy_102 rfl rfl (by omega) (by omega) (by omega) (Nat.le_of_ble_eq_true rfl) (fun r_102_12 n_102_12 sh_102_12 I_102_12 L_102_12 R_102_12 hq_102_12 => ?_)
                  obtain ⟨rfl, rfl, rfl, rfl, rfl, rfl⟩ := hq_102_12
                  refine V_iret (pc := 105) rfl rfl dX11_copy_105 (by omega) (by omega) ?_
                  refine ⟨fun X' r' hq => ?_, fun a h1 h2 => ?_, hw, ⟨_, rfl⟩⟩
                  · obtain ⟨v0, e0, rfl⟩ := hq
                    unfold sCopy isSheet at e0
                    (repeat' split at e0) <;> first | (exfalso; omega) | (obtain ⟨rfl, rfl⟩ := Prod.mk.inj e0; exact ⟨by (first | rfl | exact congrArg (fun z => some (Value.int z)) (by decide) | (refine ie ?_; (repeat' split) <;> omega)), by (rw [← up2_up (f := X) (v := 0)]; exact JZ_le (JZ_fault _ hJ1) (by omega))⟩)
                  · (repeat first | rw [up2_o (by omega)] | rw [cpF_r (by omega)] | rw [uph_o (by omega)]) <;> rfl
              · skip
                refine V_if_eq_t (pc := 85) (tgt := 100) dX11_copy_85 (by decide) (by decide) ?_
                refine V_aload_n (pc := 100) 0 dX11_copy_100 rfl rfl ?_
                refine V_iconst (pc := 101) (v := 3) dX11_copy_101 rfl ?_
                refine V_callV (pc := 102) (As := [.int 3]) (st := []) (c_X11_answerOfFault G 3 hw) mf_X11_answerOfFault ml_X11_89 iv_X11_answerOfFault (wN hw (by decide)) (wS1 hw (by decide) rfl) (by decide) rfl dX11_copy_102 rfl rfl (by omega) (by omega) (by omega) (Nat.le_of_ble_eq_true rfl) (fun r_102_13 n_102_13 sh_102_13 I_102_13 L_102_13 R_102_13 hq_102_13 => ?_)
                obtain ⟨rfl, rfl, rfl, rfl, rfl, rfl⟩ := hq_102_13
                refine V_iret (pc := 105) rfl rfl dX11_copy_105 (by omega) (by omega) ?_
                refine ⟨fun X' r' hq => ?_, fun a h1 h2 => ?_, hw, ⟨_, rfl⟩⟩
                · obtain ⟨v0, e0, rfl⟩ := hq
                  unfold sCopy isSheet at e0
                  (repeat' split at e0) <;> first | (exfalso; omega) | (obtain ⟨rfl, rfl⟩ := Prod.mk.inj e0; exact ⟨by (first | rfl | exact congrArg (fun z => some (Value.int z)) (by decide) | (refine ie ?_; (repeat' split) <;> omega)), by (rw [← up2_up (f := X) (v := 0)]; exact JZ_le (JZ_fault _ hJ1) (by omega))⟩)
                · (repeat first | rw [up2_o (by omega)] | rw [cpF_r (by omega)] | rw [uph_o (by omega)]) <;> rfl
          · have c_63_7 : ((up2 I 0 11 0) (19 + 2 * k.toInt.toNat) 2).toInt ≠ ((up2 I 0 11 0) (19 + 2 * o.toInt.toNat) 2).toInt := c_63_7
            refine V_aload_n (pc := 66) 0 dX11_copy_66 rfl rfl ?_
            refine V_iconst (pc := 67) (v := 2) dX11_copy_67 rfl ?_
            refine V_callV (pc := 68) (As := [.int 2]) (st := []) (c_X11_answerOfFault G 2 hw) mf_X11_answerOfFault ml_X11_89 iv_X11_answerOfFault (wN hw (by decide)) (wS1 hw (by decide) rfl) (by decide) rfl dX11_copy_68 rfl rfl (by omega) (by omega) (by omega) (Nat.le_of_ble_eq_true rfl) (fun r_68_14 n_68_14 sh_68_14 I_68_14 L_68_14 R_68_14 hq_68_14 => ?_)
            obtain ⟨rfl, rfl, rfl, rfl, rfl, rfl⟩ := hq_68_14
            refine V_iret (pc := 71) rfl rfl dX11_copy_71 (by omega) (by omega) ?_
            refine ⟨fun X' r' hq => ?_, fun a h1 h2 => ?_, hw, ⟨_, rfl⟩⟩
            · obtain ⟨v0, e0, rfl⟩ := hq
              unfold sCopy isSheet at e0
              (repeat' split at e0) <;> first | (exfalso; omega) | (obtain ⟨rfl, rfl⟩ := Prod.mk.inj e0; exact ⟨by (first | rfl | exact congrArg (fun z => some (Value.int z)) (by decide) | (refine ie ?_; (repeat' split) <;> omega)), by (rw [← up2_up (f := X) (v := 0)]; exact JZ_le (JZ_fault _ hJ1) (by omega))⟩)
            · (repeat first | rw [up2_o (by omega)] | rw [cpF_r (by omega)] | rw [uph_o (by omega)]) <;> rfl
        · have c_44_6 : ((up2 I 0 11 0) (19 + 2 * o.toInt.toNat) 1).toInt = 0 := c_44_6
          refine V_aload_n (pc := 47) 0 dX11_copy_47 rfl rfl ?_
          refine V_iconst (pc := 48) (v := 1) dX11_copy_48 rfl ?_
          refine V_callV (pc := 49) (As := [.int 1]) (st := []) (c_X11_answerOfFault G 1 hw) mf_X11_answerOfFault ml_X11_89 iv_X11_answerOfFault (wN hw (by decide)) (wS1 hw (by decide) rfl) (by decide) rfl dX11_copy_49 rfl rfl (by omega) (by omega) (by omega) (Nat.le_of_ble_eq_true rfl) (fun r_49_15 n_49_15 sh_49_15 I_49_15 L_49_15 R_49_15 hq_49_15 => ?_)
          obtain ⟨rfl, rfl, rfl, rfl, rfl, rfl⟩ := hq_49_15
          refine V_iret (pc := 52) rfl rfl dX11_copy_52 (by omega) (by omega) ?_
          refine ⟨fun X' r' hq => ?_, fun a h1 h2 => ?_, hw, ⟨_, rfl⟩⟩
          · obtain ⟨v0, e0, rfl⟩ := hq
            unfold sCopy isSheet at e0
            (repeat' split at e0) <;> first | (exfalso; omega) | (obtain ⟨rfl, rfl⟩ := Prod.mk.inj e0; exact ⟨by (first | rfl | exact congrArg (fun z => some (Value.int z)) (by decide) | (refine ie ?_; (repeat' split) <;> omega)), by (rw [← up2_up (f := X) (v := 0)]; exact JZ_le (JZ_fault _ hJ1) (by omega))⟩)
          · (repeat first | rw [up2_o (by omega)] | rw [cpF_r (by omega)] | rw [uph_o (by omega)]) <;> rfl
set_option maxRecDepth 100000 in
set_option maxHeartbeats 4000000 in
theorem c_X11_ways (G : vG) {n : Nat} {sh : vS} {I : vI} {L : vL} {R : vR} (t : Int) (X : vI) (hJ : JZ t n sh I L R X) : CT G yX11_ways cX11_ways 1 (some .int) 19 0 0 [.ref (ad G 0)] n sh I L R (ZP t I (fun X' r' => ∃ v : Int32, r' = some (.int v) ∧ wyP X X' v)) := by
  refine CT_of (own := RX11) (ini := false) (lo := [(0, .ref (ad G 0))]) mf_X11_ways (Nat.le_of_ble_eq_true rfl) rfl (fun h => by first | rfl | cases h) rfl ?_
  obtain ⟨⟨hw, hR, hC, hK, hS, hT, hB, hQ, hY, hV⟩, hx⟩ := id hJ
  have c01 : (I 0 1).toInt = (X 27 1).toInt := by rw [hR.1]
  have c06 : (I 0 6).toInt = (X 27 30).toInt := by rw [hC.1]
  have c08 : (I 0 8).toInt = (X 27 35).toInt := by rw [hK.1]
  have c21 : (I 2 1).toInt = (X 27 12).toInt := by rw [hB.1]
  have b01 := hR.2.1
  have b30 := hC.2.1
  have b35 := hK.2.1
  have b12 := hB.2.2.1
  obtain ⟨cy2, cy3, cy6, b24, b27, b25, y13⟩ := JW_d hY
  refine V_aload_n (pc := 0) 0 dX11_ways_0 rfl rfl ?_
  refine V_getR (pc := 1) (j := 2) fk_X11_20_11 (wR hw (i := 0) (k := 2) (j := 2) rfl) dX11_ways_1 (wN hw (by decide)) (wS1 hw (by decide) rfl) ?_
  refine V_gI (pc := 4) (v := (I 2 1)) rfl fk_X11_135_0 dX11_ways_4 (wN hw (by decide)) (wS1 hw (by decide) rfl) ?_
  refine V_if_ne (pc := 7) (tgt := 13) dX11_ways_7 (by decide) (fun c_7_1 => ?_) (fun c_7_1 => ?_)
  · have c_7_1 : (I 2 1).toInt ≠ 0 := c_7_1
    refine V_aload_n (pc := 13) 0 dX11_ways_13 rfl rfl ?_
    refine V_callV (pc := 14) (As := []) (st := []) (c_X11_searchTheMap G X hw hR hB hQ hV (by omega)) mf_X11_searchTheMap ml_X11_138 iv_X11_searchTheMap (wN hw (by decide)) (wS1 hw (by decide) rfl) (by decide) rfl dX11_ways_14 rfl rfl (by omega) (by omega) (by omega) (Nat.le_of_ble_eq_true rfl) (fun r_14_2 n_14_2 sh_14_2 J L_14_2 R_14_2 hq_14_2 => ?_)
    obtain ⟨rfl, rfl, rfl, rfl, ⟨hI, hQS, hSB, h48⟩, rfl⟩ := hq_14_2
    have hw0 := hw
    have hw := WF_s hw0
    have e1J : ∀ a, ¬ (4 ≤ a ∧ a ≤ 10) → J a = I a := fun a ha => funext fun b => hI a b ha
    have hit := ite_b h48
    refine V_aload_n (pc := 17) 0 dX11_ways_17 rfl rfl ?_
    refine V_getR (pc := 18) (j := 4) fk_X11_27_11 (wR hw (i := 0) (k := 3) (j := 4) rfl) dX11_ways_18 (wN hw (by decide)) (wS1 hw (by decide) rfl) ?_
    refine V_gI (pc := 21) (v := (J 4 8)) rfl fk_X11_141_8 dX11_ways_21 (wN hw (by decide)) (wS1 hw (by decide) rfl) ?_
    refine V_if_eq (pc := 24) (tgt := 32) dX11_ways_24 (by decide) (fun c_24_3 => ?_) (fun c_24_3 => ?_)
    · have c_24_3 : (J 4 8).toInt = 0 := c_24_3
      refine V_aload_n (pc := 32) 0 dX11_ways_32 rfl rfl ?_
      refine V_getR (pc := 33) (j := 4) fk_X11_27_11 (wR hw (i := 0) (k := 3) (j := 4) rfl) dX11_ways_33 (wN hw (by decide)) (wS1 hw (by decide) rfl) ?_
      refine V_gI (pc := 36) (v := (J 4 12)) rfl fk_X11_144_8 dX11_ways_36 (wN hw (by decide)) (wS1 hw (by decide) rfl) ?_
      refine V_iret (pc := 39) rfl rfl dX11_ways_39 (by omega) (by omega) ?_
      refine ⟨fun X' r' hq => ?_, fun a h1 h2 => ?_, hw, ⟨_, rfl⟩⟩
      · obtain ⟨v0, rfl, hwy⟩ := hq
        rcases hwy with ⟨z1, -⟩ | ⟨z1, hSF, hSB2, sp, hsr, hval⟩
        · omega
        have esr1 : (srF X).1 = sgM X' := by rw [hsr]
        have esr2 : (srF X).2 = sp := by rw [hsr]
        rw [esr1] at hQS
        rw [esr2] at hit
        refine ⟨?_, JZ_le (JZ_ways hJ hI hQS hSF) (by omega)⟩
        have hsp : sp = false := hit.2 (by omega)
        rcases hval with ⟨z, -⟩ | ⟨-, hv0⟩
        · rw [hsp] at z; exact absurd z (by decide)
        · refine ie ?_
          rw [hv0]
          rcases hQS.2.2.2 with ⟨z2, z3⟩ | ⟨z2, z3, -⟩
          · rw [if_pos z2]; exact z3
          · rw [if_neg (by omega), z3]; omega
      · exact e1J a (by omega)
    · have c_24_3 : (J 4 8).toInt ≠ 0 := c_24_3
      refine V_bipush (pc := 27) (v := (-6)) dX11_ways_27 rfl ?_
      refine V_goto (pc := 29) (tgt := 39) dX11_ways_29 (by decide) ?_
      refine V_iret (pc := 39) rfl rfl dX11_ways_39 (by omega) (by omega) ?_
      refine ⟨fun X' r' hq => ?_, fun a h1 h2 => ?_, hw, ⟨_, rfl⟩⟩
      · obtain ⟨v0, rfl, hwy⟩ := hq
        rcases hwy with ⟨z1, -⟩ | ⟨z1, hSF, hSB2, sp, hsr, hval⟩
        · omega
        have esr1 : (srF X).1 = sgM X' := by rw [hsr]
        have esr2 : (srF X).2 = sp := by rw [hsr]
        rw [esr1] at hQS
        rw [esr2] at hit
        refine ⟨?_, JZ_le (JZ_ways hJ hI hQS hSF) (by omega)⟩
        have hsp : sp = true := hit.1 (by omega)
        rcases hval with ⟨-, rfl⟩ | ⟨z, -⟩
        · rfl
        · rw [hsp] at z; exact absurd z (by decide)
      · exact e1J a (by omega)
  · have c_7_1 : (I 2 1).toInt = 0 := c_7_1
    refine V_bipush (pc := 10) (v := (-3)) dX11_ways_10 rfl ?_
    refine V_iret (pc := 12) rfl rfl dX11_ways_12 (by omega) (by omega) ?_
    refine ⟨fun X' r' hq => ?_, fun a h1 h2 => rfl, hw, ⟨_, rfl⟩⟩
    obtain ⟨v0, rfl, hwy⟩ := hq
    rcases hwy with ⟨z1, rfl, rfl⟩ | ⟨z1, -⟩
    · exact ⟨rfl, JZ_le hJ (by omega)⟩
    · exact absurd (by omega) z1
set_option maxRecDepth 100000 in
set_option maxHeartbeats 4000000 in
theorem c_X11_lay (G : vG) {n : Nat} {sh : vS} {I : vI} {L : vL} {R : vR} (t : Int) (X : vI) (hJ : JZ t n sh I L R X) : CT G yX11_lay cX11_lay 1 (some .int) 19 0 0 [.ref (ad G 0)] n sh I L R (ZP t I (fun X' r' => ∃ v : Int32, r' = some (.int v) ∧ lyP X X' v)) := by
  refine CT_of (own := RX11) (ini := false) (lo := [(0, .ref (ad G 0))]) mf_X11_lay (Nat.le_of_ble_eq_true rfl) rfl (fun h => by first | rfl | cases h) rfl ?_
  obtain ⟨⟨hw, hR, hC, hK, hS, hT, hB, hQ, hY, hV⟩, hx⟩ := id hJ
  have c01 : (I 0 1).toInt = (X 27 1).toInt := by rw [hR.1]
  have c06 : (I 0 6).toInt = (X 27 30).toInt := by rw [hC.1]
  have c08 : (I 0 8).toInt = (X 27 35).toInt := by rw [hK.1]
  have c21 : (I 2 1).toInt = (X 27 12).toInt := by rw [hB.1]
  have b01 := hR.2.1
  have b30 := hC.2.1
  have b35 := hK.2.1
  have b12 := hB.2.2.1
  obtain ⟨cy2, cy3, cy6, b24, b27, b25, y13⟩ := JW_d hY
  refine V_aload_n (pc := 0) 0 dX11_lay_0 rfl rfl ?_
  refine V_getR (pc := 1) (j := 2) fk_X11_20_11 (wR hw (i := 0) (k := 2) (j := 2) rfl) dX11_lay_1 (wN hw (by decide)) (wS1 hw (by decide) rfl) ?_
  refine V_gI (pc := 4) (v := (I 2 1)) rfl fk_X11_135_0 dX11_lay_4 (wN hw (by decide)) (wS1 hw (by decide) rfl) ?_
  refine V_if_ne (pc := 7) (tgt := 13) dX11_lay_7 (by decide) (fun c_7_1 => ?_) (fun c_7_1 => ?_)
  · have c_7_1 : (I 2 1).toInt ≠ 0 := c_7_1
    refine V_aload_n (pc := 13) 0 dX11_lay_13 rfl rfl ?_
    refine V_callV (pc := 14) (As := []) (st := []) (c_X11_searchTheMap G X hw hR hB hQ hV (by omega)) mf_X11_searchTheMap ml_X11_138 iv_X11_searchTheMap (wN hw (by decide)) (wS1 hw (by decide) rfl) (by decide) rfl dX11_lay_14 rfl rfl (by omega) (by omega) (by omega) (Nat.le_of_ble_eq_true rfl) (fun r_14_2 n_14_2 sh_14_2 J L_14_2 R_14_2 hq_14_2 => ?_)
    obtain ⟨rfl, rfl, rfl, rfl, ⟨hI, hQS, hSB, h48⟩, rfl⟩ := hq_14_2
    have hw0 := hw
    have hw := WF_s hw0
    have e1J : ∀ a, ¬ (4 ≤ a ∧ a ≤ 10) → J a = I a := fun a ha => funext fun b => hI a b ha
    have hit := ite_b h48
    refine V_aload_n (pc := 17) 0 dX11_lay_17 rfl rfl ?_
    refine V_getR (pc := 18) (j := 4) fk_X11_27_11 (wR hw (i := 0) (k := 3) (j := 4) rfl) dX11_lay_18 (wN hw (by decide)) (wS1 hw (by decide) rfl) ?_
    refine V_gI (pc := 21) (v := (J 4 8)) rfl fk_X11_141_8 dX11_lay_21 (wN hw (by decide)) (wS1 hw (by decide) rfl) ?_
    refine V_if_eq (pc := 24) (tgt := 30) dX11_lay_24 (by decide) (fun c_24_3 => ?_) (fun c_24_3 => ?_)
    · have c_24_3 : (J 4 8).toInt = 0 := c_24_3
      refine V_aload_n (pc := 30) 0 dX11_lay_30 rfl rfl ?_
      refine V_getR (pc := 31) (j := 4) fk_X11_27_11 (wR hw (i := 0) (k := 3) (j := 4) rfl) dX11_lay_31 (wN hw (by decide)) (wS1 hw (by decide) rfl) ?_
      refine V_gI (pc := 34) (v := (J 4 12)) rfl fk_X11_144_8 dX11_lay_34 (wN hw (by decide)) (wS1 hw (by decide) rfl) ?_
      refine V_if_ne (pc := 37) (tgt := 43) dX11_lay_37 (by decide) (fun c_37_4 => ?_) (fun c_37_4 => ?_)
      · have c_37_4 : (J 4 12).toInt ≠ 0 := c_37_4
        refine V_aload_n (pc := 43) 0 dX11_lay_43 rfl rfl ?_
        have hg0 : 0 ≤ (srF X).1.2.1 := by
          rcases hQS.2.2.2 with ⟨-, z3⟩ | ⟨z2, -⟩
          · omega
          · exact z2
        obtain ⟨hbv1, hbv2, hbv3⟩ := BV_sr hR.2.1 hg0
        obtain ⟨bn, hbn⟩ : ∃ bn : Nat, (srF X).1.2.2.1 = (bn : Int) := ⟨_, (Int.toNat_of_nonneg (by omega)).symm⟩
        have h410 : (J 4 10).toInt = (bn : Int) := by rw [hQS.2.1]; exact hbn
        have hJ10 : ∀ k, J 10 k = (srF X).1.2.2.2.2 k := hQS.2.2.1
        have hbe : ∀ k, k < bn → 0 ≤ (J 10 k).toInt ∧ (J 10 k).toInt < (X 27 1).toInt := fun k hk => by rw [hJ10]; exact hbv2 k (by omega)
        have hRJ : JRd n sh J (up2 R 4 4 (some 2)) X := FRd hR (Nat.le_refl _) (fun _ _ => rfl) (up2_o (by decide)) (hI 0 1 (by omega)) (fun a h1 _ _ => e1J a (by omega)) rfl rfl rfl rfl rfl rfl rfl
        have hKJ : JK n sh J (up2 R 4 4 (some 2)) X := FKk hK (Nat.le_refl _) (fun _ _ => rfl) (up2_o (by decide)) (fun a h1 _ => up2_o (by omega)) (hI 0 8 (by omega)) (fun a h1 _ _ => e1J a (by omega)) rfl rfl rfl rfl rfl rfl rfl
        refine V_callV (pc := 44) (As := []) (st := []) (c_X11_layTheBest G X hw hRJ hKJ bn h410 (by omega) hbe) mf_X11_layTheBest ml_X11_147 iv_X11_layTheBest (wN hw (by decide)) (wS1 hw (by decide) rfl) (by decide) rfl dX11_lay_44 rfl rfl (by omega) (by omega) (by omega) (Nat.le_of_ble_eq_true rfl) (fun r_44_5 n_44_5 sh_44_5 I_44_5 L_44_5 R_44_5 hq_44_5 => ?_)
        obtain ⟨rfl, rfl, rfl, rfl, ⟨J2, hLy, rfl⟩, rfl⟩ := hq_44_5
        refine V_aload_n (pc := 47) 0 dX11_lay_47 rfl rfl ?_
        refine V_getR (pc := 48) (j := 11) fk_X11_34_11 (wR hw (i := 0) (k := 4) (j := 11) rfl) dX11_lay_48 (wN hw (by decide)) (wS1 hw (by decide) rfl) ?_
        refine V_gI (pc := 51) (v := ((fgA (up2 J2 0 6 0) (up2 R 4 4 (some 2)) (X 27 35).toInt.toNat) 11 2)) rfl fk_X11_150_10 dX11_lay_51 (wN hw (by decide)) (wS1 hw (by decide) rfl) ?_
        refine V_iret (pc := 54) rfl rfl dX11_lay_54 (by omega) (by omega) ?_
        refine ⟨fun X' r' hq => ?_, fun a h1 h2 => ?_, hw, ⟨_, rfl⟩⟩
        · obtain ⟨v0, rfl, hwy⟩ := hq
          rcases hwy with ⟨z1, -⟩ | ⟨z1, X1, hSF, hSB2, sp, hsr, hval⟩
          · omega
          have esr1 : (srF X).1 = sgM X1 := by rw [hsr]
          have esr2 : (srF X).2 = sp := by rw [hsr]
          rw [esr1] at hQS
          rw [esr2] at hit
          have hJX := JZ_ways hJ hI hQS hSF
          have hsp : sp = false := hit.2 (by omega)
          rw [esr1] at hbn hg0 hbv3 hbv1
          rcases hval with ⟨z, -⟩ | ⟨-, z2, -⟩ | ⟨-, z2, rfl, rfl⟩
          · rw [hsp] at z; exact absurd z (by decide)
          · have y3 : 0 ≤ (X1 27 15).toInt := hg0; omega
          · have x35 : X1 27 35 = X 27 35 := hSF 27 35 rfl
            have x30 : X1 30 = X 30 := funext fun b => hSF 30 b rfl
            have hb16 : (X1 27 16).toInt = (bn : Int) := hbn
            have hLy2 : Ly1 J J2 X1 bn := by
              obtain ⟨l1, l2, l3, l4, l5, l6⟩ := hLy
              exact ⟨l1, by rw [psB_e x30]; exact l2, l3, l4, fun k hk => by rw [psB_e x30]; exact l5 k hk, l6⟩
            refine ⟨ie ?_, ?_⟩
            · rw [fgA_o (by omega) _ (fun k hk => (hKJ.2.2.1 k (by omega)).2.1), up2_o (by decide), hLy.1, hb16]
            · rw [← x35]
              refine JZ_le (JZ_lay hJX bn h410 ⟨by omega, by omega⟩ (fun k hk => by rw [hSF 27 1 rfl]; exact hbe k hk) ?_ hLy2) (by omega)
              have e15 : (X1 27 15).toInt = psB X (sgM X1).2.2.2.2 (sgM X1).2.2.1.toNat := hbv3
              rw [e15, hbn, Int.toNat_natCast, psB_e x30]
              exact psB_c bn (fun k _ => (hQS.2.2.1 k).symm)
        · rw [fgA_o (by omega) _ (fun k hk => (hKJ.2.2.1 k (by omega)).2.1), up2_o (by omega), hLy.2.2.2.2.2 a (by omega) (by omega) (by omega)]
          exact e1J a (by omega)
      · have c_37_4 : (J 4 12).toInt = 0 := c_37_4
        refine V_bipush (pc := 40) (v := (-9)) dX11_lay_40 rfl ?_
        refine V_iret (pc := 42) rfl rfl dX11_lay_42 (by omega) (by omega) ?_
        refine ⟨fun X' r' hq => ?_, fun a h1 h2 => ?_, hw, ⟨_, rfl⟩⟩
        · obtain ⟨v0, rfl, hwy⟩ := hq
          rcases hwy with ⟨z1, -⟩ | ⟨z1, X1, hSF, hSB2, sp, hsr, hval⟩
          · omega
          have esr1 : (srF X).1 = sgM X1 := by rw [hsr]
          have esr2 : (srF X).2 = sp := by rw [hsr]
          rw [esr1] at hQS
          rw [esr2] at hit
          have hJX := JZ_ways hJ hI hQS hSF
          have hsp : sp = false := hit.2 (by omega)
          rcases hval with ⟨z, -⟩ | ⟨-, z2, rfl, rfl⟩ | ⟨-, z2, -⟩
          · rw [hsp] at z; exact absurd z (by decide)
          · exact ⟨rfl, JZ_le hJX (by omega)⟩
          · rcases hQS.2.2.2 with ⟨y1, -⟩ | ⟨y1, y2, -⟩
            · have y3 : (X1 27 15).toInt < 0 := y1; omega
            · have := hSB2.2.2.2.2.1; omega
        · exact e1J a (by omega)
    · have c_24_3 : (J 4 8).toInt ≠ 0 := c_24_3
      refine V_bipush (pc := 27) (v := (-6)) dX11_lay_27 rfl ?_
      refine V_iret (pc := 29) rfl rfl dX11_lay_29 (by omega) (by omega) ?_
      refine ⟨fun X' r' hq => ?_, fun a h1 h2 => ?_, hw, ⟨_, rfl⟩⟩
      · obtain ⟨v0, rfl, hwy⟩ := hq
        rcases hwy with ⟨z1, -⟩ | ⟨z1, X1, hSF, hSB2, sp, hsr, hval⟩
        · omega
        have esr1 : (srF X).1 = sgM X1 := by rw [hsr]
        have esr2 : (srF X).2 = sp := by rw [hsr]
        rw [esr1] at hQS
        rw [esr2] at hit
        have hJX := JZ_ways hJ hI hQS hSF
        have hsp : sp = true := hit.1 (by omega)
        rcases hval with ⟨-, rfl, rfl⟩ | ⟨z, -⟩ | ⟨z, -⟩
        · exact ⟨rfl, JZ_le hJX (by omega)⟩
        · rw [hsp] at z; exact absurd z (by decide)
        · rw [hsp] at z; exact absurd z (by decide)
      · exact e1J a (by omega)
  · have c_7_1 : (I 2 1).toInt = 0 := c_7_1
    refine V_bipush (pc := 10) (v := (-3)) dX11_lay_10 rfl ?_
    refine V_iret (pc := 12) rfl rfl dX11_lay_12 (by omega) (by omega) ?_
    refine ⟨fun X' r' hq => ?_, fun a h1 h2 => rfl, hw, ⟨_, rfl⟩⟩
    obtain ⟨v0, rfl, hwy⟩ := hq
    rcases hwy with ⟨z1, rfl, rfl⟩ | ⟨z1, -⟩
    · exact ⟨rfl, JZ_le hJ (by omega)⟩
    · exact absurd (by omega) z1
