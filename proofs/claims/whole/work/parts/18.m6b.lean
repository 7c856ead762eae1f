set_option maxRecDepth 100000 in
set_option maxHeartbeats 4000000 in
theorem l_X12_roadAt (G : vG) {n : Nat} {sh : vS} {I : vI} {L : vL} {R : vR} (p : Int32) (hw : WF n sh R) (h24 : 0 ≤ (I 27 24).toInt ∧ (I 27 24).toInt ≤ 10) (hld : ∀ k, k < (I 27 24).toInt.toNat → (0 ≤ (I 44 k).toInt ∧ (I 44 k).toInt < 16) ∧ 0 ≤ (I 30 (I 44 k).toInt.toNat).toInt ∧ (I 30 (I 44 k).toInt.toNat).toInt ≤ 20000) (h0 : (I 27 24).toInt ≠ 0) (hp : 0 ≤ p.toInt ∧ p.toInt ≤ (I 27 25).toInt) : ∀ (f m : Nat) (k : Int32) (a : Int32) (hm : (m : Int) ≤ (I 27 24).toInt) (hk : k.toInt = (m : Int)) (ha : a.toInt = psF I m) (hr : raF I p.toInt (I 27 24).toInt.toNat (I 27 24).toInt.toNat 0 = raF I p.toInt (I 27 24).toInt.toNat ((I 27 24).toInt.toNat - m) m) (hf : (I 27 24).toInt < (m : Int) + f), V G RX12 cX12_roadAt (some .int) false 1 0 0 4 (PI n sh L R (fun I' o => I = I' ∧ ∃ v : Int32, o = some (.int v) ∧ v.toInt = sRoadAt I p)) 31 [(0, .ref (ad G 27)), (1, .int p), (2, .int a), (3, .int k)] [] 0 0 n sh I L R := by
  intro f
  induction f with
  | zero => intro m k a hm hk ha hr hf; omega
  | succ f ih =>
    intro m k a hm hk ha hr hf
    have hld1 := hld m
    have hps := psF_b I (I 27 24).toInt.toNat (fun k h => (hld k h).2) m (by omega)
    refine V_iload_n (pc := 31) 3 dX12_roadAt_31 rfl rfl ?_
    refine V_aload_n (pc := 32) 0 dX12_roadAt_32 rfl rfl ?_
    refine V_gI (pc := 33) (v := (I 27 24)) rfl fk_X12_95_12 dX12_roadAt_33 (wN hw (by decide)) (wS1 hw (by decide) rfl) ?_
    refine V_icmp_ge (pc := 36) (tgt := 71) dX12_roadAt_36 (by decide) (fun c_36_1 => ?_) (fun c_36_1 => ?_)
    · have c_36_1 : (I 27 24).toInt ≤ k.toInt := c_36_1
      refine V_aload_n (pc := 71) 0 dX12_roadAt_71 rfl rfl ?_
      refine V_getR (pc := 72) (j := 44) fk_X12_59_12 (wR hw (i := 27) (k := 26) (j := 44) rfl) dX12_roadAt_72 (wN hw (by decide)) (wS1 hw (by decide) rfl) ?_
      refine V_aload_n (pc := 75) 0 dX12_roadAt_75 rfl rfl ?_
      refine V_gI (pc := 76) (v := (I 27 24)) rfl fk_X12_95_12 dX12_roadAt_76 (wN hw (by decide)) (wS1 hw (by decide) rfl) ?_
      refine V_iconst (pc := 79) (v := 1) dX12_roadAt_79 rfl ?_
      refine V_isub (pc := 80) dX12_roadAt_80 (fun x_80_2 e_80_2 => ?_)
      have t_80_2 : x_80_2.toInt = (I 27 24).toInt - 1 := subT e_80_2 rfl rfl (by omega) (by omega)
      refine V_ia (pc := 81) (k := ((I 27 24).toInt - 1).toNat) (v := (I 44 ((I 27 24).toInt - 1).toNat)) rfl dX12_roadAt_81 (wN hw (by decide)) (wS hw (by decide) rfl) (by omega) (by omega) ?_
      refine V_iret (pc := 82) rfl rfl dX12_roadAt_82 (by omega) (by omega) ?_
      refine ⟨rfl, rfl, rfl, rfl, rfl, _, rfl, ?_⟩
      unfold sRoadAt
      rw [if_neg h0, if_neg (by omega), hr]
      have e9 : (I 27 24).toInt.toNat - m = 0 := by omega
      rw [e9]
      show _ = (I 44 ((I 27 24).toInt.toNat - 1)).toInt
      have e8 : (I 27 24).toInt.toNat - 1 = ((I 27 24).toInt - 1).toNat := by omega
      rw [e8]
    · have c_36_1 : k.toInt < (I 27 24).toInt := c_36_1
      refine V_iload_n (pc := 39) 2 dX12_roadAt_39 rfl rfl ?_
      refine V_aload_n (pc := 40) 0 dX12_roadAt_40 rfl rfl ?_
      refine V_getR (pc := 41) (j := 30) fk_X12_16_12 (wR hw (i := 27) (k := 4) (j := 30) rfl) dX12_roadAt_41 (wN hw (by decide)) (wS1 hw (by decide) rfl) ?_
      refine V_aload_n (pc := 44) 0 dX12_roadAt_44 rfl rfl ?_
      refine V_getR (pc := 45) (j := 44) fk_X12_59_12 (wR hw (i := 27) (k := 26) (j := 44) rfl) dX12_roadAt_45 (wN hw (by decide)) (wS1 hw (by decide) rfl) ?_
      refine V_iload_n (pc := 48) 3 dX12_roadAt_48 rfl rfl ?_
      refine V_ia (pc := 49) (k := m) (v := (I 44 m)) rfl dX12_roadAt_49 (wN hw (by decide)) (wS hw (by decide) rfl) hk (by omega) ?_
      refine V_ia (pc := 50) (k := (I 44 m).toInt.toNat) (v := (I 30 (I 44 m).toInt.toNat)) rfl dX12_roadAt_50 (wN hw (by decide)) (wS hw (by decide) rfl) (by omega) (by omega) ?_
      refine V_iadd (pc := 51) dX12_roadAt_51 (fun x_51_3 e_51_3 => ?_)
      have t_51_3 : x_51_3.toInt = a.toInt + (I 30 (I 44 m).toInt.toNat).toInt := addT e_51_3 rfl rfl (by omega) (by omega)
      refine V_istore_n (pc := 52) (lo' := [(0, .ref (ad G 27)), (1, .int p), (2, .int x_51_3), (3, .int k)]) dX12_roadAt_52 rfl (by decide) rfl ?_
      refine V_iload_n (pc := 53) 1 dX12_roadAt_53 rfl rfl ?_
      refine V_iload_n (pc := 54) 2 dX12_roadAt_54 rfl rfl ?_
      refine V_icmp_ge (pc := 55) (tgt := 65) dX12_roadAt_55 (by decide) (fun c_55_4 => ?_) (fun c_55_4 => ?_)
      · have c_55_4 : x_51_3.toInt ≤ p.toInt := c_55_4
        obtain ⟨x_65_5, e_65_5⟩ : ∃ y : Int32, y = k + (1) := ⟨_, rfl⟩
        have t_65_5 : x_65_5.toInt = k.toInt + 1 := addT e_65_5 rfl rfl (by omega) (by omega)
        refine V_iinc (pc := 65) (v := x_65_5) (lo' := [(0, .ref (ad G 27)), (1, .int p), (2, .int x_51_3), (3, .int x_65_5)]) 3 dX12_roadAt_65 rfl e_65_5.symm (by decide) rfl ?_
        refine V_goto (pc := 68) (tgt := 31) dX12_roadAt_68 (by decide) ?_
        have e9 : (I 27 24).toInt.toNat - m = ((I 27 24).toInt.toNat - (m + 1)) + 1 := by omega
        rw [e9, raF_s, if_neg (by unfold psF; omega)] at hr
        exact ih (m + 1) x_65_5 x_51_3 (by omega) (by omega) (by unfold psF; omega) hr (by omega)
      · have c_55_4 : p.toInt < x_51_3.toInt := c_55_4
        refine V_aload_n (pc := 58) 0 dX12_roadAt_58 rfl rfl ?_
        refine V_getR (pc := 59) (j := 44) fk_X12_59_12 (wR hw (i := 27) (k := 26) (j := 44) rfl) dX12_roadAt_59 (wN hw (by decide)) (wS1 hw (by decide) rfl) ?_
        refine V_iload_n (pc := 62) 3 dX12_roadAt_62 rfl rfl ?_
        refine V_ia (pc := 63) (k := m) (v := (I 44 m)) rfl dX12_roadAt_63 (wN hw (by decide)) (wS hw (by decide) rfl) hk (by omega) ?_
        refine V_iret (pc := 64) rfl rfl dX12_roadAt_64 (by omega) (by omega) ?_
        refine ⟨rfl, rfl, rfl, rfl, rfl, _, rfl, ?_⟩
        unfold sRoadAt
        rw [if_neg h0, if_neg (by omega), hr]
        have e9 : (I 27 24).toInt.toNat - m = ((I 27 24).toInt.toNat - (m + 1)) + 1 := by omega
        rw [e9, raF_s, if_pos (by unfold psF; omega)]
set_option maxRecDepth 100000 in
set_option maxHeartbeats 4000000 in
theorem c_X12_roadAt (G : vG) {n : Nat} {sh : vS} {I : vI} {L : vL} {R : vR} (p : Int32) (hw : WF n sh R) (h24 : 0 ≤ (I 27 24).toInt ∧ (I 27 24).toInt ≤ 10) (hld : ∀ k, k < (I 27 24).toInt.toNat → (0 ≤ (I 44 k).toInt ∧ (I 44 k).toInt < 16) ∧ 0 ≤ (I 30 (I 44 k).toInt.toNat).toInt ∧ (I 30 (I 44 k).toInt.toNat).toInt ≤ 20000) : CT G yX12_roadAt cX12_roadAt 4 (some .int) 1 0 0 [.ref (ad G 27), .int p] n sh I L R (PI n sh L R (fun I' o => I = I' ∧ ∃ v : Int32, o = some (.int v) ∧ v.toInt = sRoadAt I p)) := by
  refine CT_of (own := RX12) (ini := false) (lo := [(0, .ref (ad G 27)), (1, .int p)]) mf_X12_roadAt (Nat.le_of_ble_eq_true rfl) rfl (fun h => by first | rfl | cases h) rfl ?_
  refine V_aload_n (pc := 0) 0 dX12_roadAt_0 rfl rfl ?_
  refine V_gI (pc := 1) (v := (I 27 24)) rfl fk_X12_95_12 dX12_roadAt_1 (wN hw (by decide)) (wS1 hw (by decide) rfl) ?_
  refine V_if_ne (pc := 4) (tgt := 10) dX12_roadAt_4 (by decide) (fun c_4_1 => ?_) (fun c_4_1 => ?_)
  · have c_4_1 : (I 27 24).toInt ≠ 0 := c_4_1
    refine V_iload_n (pc := 10) 1 dX12_roadAt_10 rfl rfl ?_
    refine V_i2l (pc := 11) dX12_roadAt_11 (fun x_11_2 e_11_2 => ?_)
    have t_11_2 : x_11_2.toInt = p.toInt := i2lT e_11_2 rfl
    have b_11_2 := fb_rng p
    refine V_lconst (pc := 12) (v := 0) dX12_roadAt_12 rfl ?_
    refine V_aload_n (pc := 13) 0 dX12_roadAt_13 rfl rfl ?_
    refine V_gI (pc := 14) (v := (I 27 25)) rfl fk_X12_193_12 dX12_roadAt_14 (wN hw (by decide)) (wS1 hw (by decide) rfl) ?_
    refine V_i2l (pc := 17) dX12_roadAt_17 (fun x_17_3 e_17_3 => ?_)
    have t_17_3 : x_17_3.toInt = (I 27 25).toInt := i2lT e_17_3 rfl
    have b_17_3 := fb_rng (I 27 25)
    refine V_callS (pc := 18) (As := [.long x_11_2, .long 0, .long x_17_3]) (st := []) (c_X12_in G x_11_2 0 x_17_3) mf_X12_in ml_X12_111 st_X12_in dX12_roadAt_18 rfl rfl (by omega) (by omega) (by omega) (Nat.le_of_ble_eq_true rfl) (fun r_18_4 n_18_4 sh_18_4 I_18_4 L_18_4 R_18_4 hq_18_4 => ?_)
    obtain ⟨rfl, rfl, rfl, rfl, rfl, hq_18_4⟩ := hq_18_4
    rcases hq_18_4 with ⟨c_18_4, rfl⟩ | ⟨c_18_4, rfl⟩
    · have c_18_4 : 0 ≤ x_11_2.toInt ∧ x_11_2.toInt ≤ x_17_3.toInt := c_18_4
      refine V_if_ne_t (pc := 21) (tgt := 27) dX12_roadAt_21 (by decide) (by decide) ?_
      refine V_iconst (pc := 27) (v := 0) dX12_roadAt_27 rfl ?_
      refine V_istore_n (pc := 28) (lo' := [(0, .ref (ad G 27)), (1, .int p), (2, .int 0)]) dX12_roadAt_28 rfl (by decide) rfl ?_
      refine V_iconst (pc := 29) (v := 0) dX12_roadAt_29 rfl ?_
      refine V_istore_n (pc := 30) (lo' := [(0, .ref (ad G 27)), (1, .int p), (2, .int 0), (3, .int 0)]) dX12_roadAt_30 rfl (by decide) rfl ?_
      exact l_X12_roadAt G p hw h24 hld (by omega) (by omega) ((I 27 24).toInt.toNat + 1) 0 0 0 (by omega) rfl rfl rfl (by omega)
    · have c_18_4 : ¬ (0 ≤ x_11_2.toInt ∧ x_11_2.toInt ≤ x_17_3.toInt) := c_18_4
      refine V_if_ne_f (pc := 21) (tgt := 27) dX12_roadAt_21 (by decide) (by decide) ?_
      refine V_bipush (pc := 24) (v := (-2)) dX12_roadAt_24 rfl ?_
      refine V_iret (pc := 26) rfl rfl dX12_roadAt_26 (by omega) (by omega) ?_
      refine ⟨rfl, rfl, rfl, rfl, rfl, _, rfl, ?_⟩
      unfold sRoadAt
      (repeat' split) <;> first | rfl | (exfalso; omega)
  · have c_4_1 : (I 27 24).toInt = 0 := c_4_1
    refine V_bipush (pc := 7) (v := (-3)) dX12_roadAt_7 rfl ?_
    refine V_iret (pc := 9) rfl rfl dX12_roadAt_9 (by omega) (by omega) ?_
    refine ⟨rfl, rfl, rfl, rfl, rfl, _, rfl, ?_⟩
    unfold sRoadAt
    (repeat' split) <;> first | rfl | (exfalso; omega)
