set_option maxRecDepth 100000 in
set_option maxHeartbeats 4000000 in
theorem c_X12_rightAt (G : vG) {n : Nat} {sh : vS} {I : vI} {L : vL} {R : vR} (c : Int32) (t : Int64) (T : Int) (hw : WF n sh R) (hT : t.toInt = T) (hc : 0 ≤ c.toInt ∧ c.toInt < 8) (hk : ckOK I c.toInt) (ht : 0 ≤ t.toInt ∧ t.toInt ≤ 1000000) : CT G yX12_rightAt cX12_rightAt 8 (some .long) 0 0 0 [.ref (ad G 27), .int c, .long t] n sh I L R (PI n sh L R (fun I' o => I = I' ∧ ∃ v : Int64, o = some (.long v) ∧ (v.toInt = rightF I c.toInt T ∧ -1000001000000 ≤ v.toInt ∧ v.toInt ≤ 1000001000000))) := by
  refine CT_of (own := RX12) (ini := false) (lo := [(0, .ref (ad G 27)), (1, .int c), (2, .long t)]) mf_X12_rightAt (Nat.le_of_ble_eq_true rfl) rfl (fun h => by first | rfl | cases h) rfl ?_
  have hk1 := hk
  unfold ckOK at hk1
  subst hT
  refine V_aload_n (pc := 0) 0 dX12_rightAt_0 rfl rfl ?_
  refine V_getR (pc := 1) (j := 49) fk_X12_74_12 (wR hw (i := 27) (k := 33) (j := 49) rfl) dX12_rightAt_1 (wN hw (by decide)) (wS1 hw (by decide) rfl) ?_
  refine V_iload_n (pc := 4) 1 dX12_rightAt_4 rfl rfl ?_
  refine V_za (pc := 5) (k := c.toInt.toNat) (v := (I 49 c.toInt.toNat)) rfl dX12_rightAt_5 (wN hw (by decide)) (wS hw (by decide) rfl) (by omega) (by omega) ?_
  refine V_if_ne (pc := 6) (tgt := 11) dX12_rightAt_6 (by decide) (fun c_6_1 => ?_) (fun c_6_1 => ?_)
  · have c_6_1 : (I 49 c.toInt.toNat).toInt ≠ 0 := c_6_1
    refine V_aload_n (pc := 11) 0 dX12_rightAt_11 rfl rfl ?_
    refine V_getR (pc := 12) (j := 50) fk_X12_77_12 (wR hw (i := 27) (k := 34) (j := 50) rfl) dX12_rightAt_12 (wN hw (by decide)) (wS1 hw (by decide) rfl) ?_
    refine V_iconst (pc := 15) (v := 4) dX12_rightAt_15 rfl ?_
    refine V_iload_n (pc := 16) 1 dX12_rightAt_16 rfl rfl ?_
    refine V_imul (pc := 17) dX12_rightAt_17 (fun x_17_2 e_17_2 => ?_)
    have t_17_2 : x_17_2.toInt = 4 * c.toInt := mulT e_17_2 rfl rfl (by omega) (by omega)
    refine V_ia (pc := 18) (k := (4 * c.toInt).toNat) (v := (I 50 (4 * c.toInt).toNat)) rfl dX12_rightAt_18 (wN hw (by decide)) (wS hw (by decide) rfl) (by omega) (by omega) ?_
    refine V_i2l (pc := 19) dX12_rightAt_19 (fun x_19_3 e_19_3 => ?_)
    have t_19_3 : x_19_3.toInt = (I 50 (4 * c.toInt).toNat).toInt := i2lT e_19_3 rfl
    have b_19_3 := fb_rng (I 50 (4 * c.toInt).toNat)
    refine V_lstore (pc := 20) (lo' := [(0, .ref (ad G 27)), (1, .int c), (2, .long t), (4, .long x_19_3)]) dX12_rightAt_20 (by decide) rfl ?_
    refine V_aload_n (pc := 22) 0 dX12_rightAt_22 rfl rfl ?_
    refine V_getR (pc := 23) (j := 50) fk_X12_77_12 (wR hw (i := 27) (k := 34) (j := 50) rfl) dX12_rightAt_23 (wN hw (by decide)) (wS1 hw (by decide) rfl) ?_
    refine V_iconst (pc := 26) (v := 4) dX12_rightAt_26 rfl ?_
    refine V_iload_n (pc := 27) 1 dX12_rightAt_27 rfl rfl ?_
    refine V_imul (pc := 28) dX12_rightAt_28 (fun x_28_4 e_28_4 => ?_)
    have t_28_4 : x_28_4.toInt = 4 * c.toInt := mulT e_28_4 rfl rfl (by omega) (by omega)
    refine V_iconst (pc := 29) (v := 2) dX12_rightAt_29 rfl ?_
    refine V_iadd (pc := 30) dX12_rightAt_30 (fun x_30_5 e_30_5 => ?_)
    have t_30_5 : x_30_5.toInt = x_28_4.toInt + 2 := addT e_30_5 rfl rfl (by omega) (by omega)
    refine V_ia (pc := 31) (k := ((4 * c.toInt) + 2).toNat) (v := (I 50 ((4 * c.toInt) + 2).toNat)) rfl dX12_rightAt_31 (wN hw (by decide)) (wS hw (by decide) rfl) (by omega) (by omega) ?_
    refine V_i2l (pc := 32) dX12_rightAt_32 (fun x_32_6 e_32_6 => ?_)
    have t_32_6 : x_32_6.toInt = (I 50 ((4 * c.toInt) + 2).toNat).toInt := i2lT e_32_6 rfl
    have b_32_6 := fb_rng (I 50 ((4 * c.toInt) + 2).toNat)
    refine V_lstore (pc := 33) (lo' := [(0, .ref (ad G 27)), (1, .int c), (2, .long t), (4, .long x_19_3), (6, .long x_32_6)]) dX12_rightAt_33 (by decide) rfl ?_
    refine V_lload (pc := 35) 3 dX12_rightAt_35 rfl ?_
    refine V_lload_n (pc := 37) 2 dX12_rightAt_37 rfl rfl ?_
    refine V_lload (pc := 38) 4 dX12_rightAt_38 rfl ?_
    refine V_lsub (pc := 40) dX12_rightAt_40 (fun x_40_7 e_40_7 => ?_)
    have t_40_7 : x_40_7.toInt = t.toInt - x_32_6.toInt := lsubT e_40_7 rfl rfl (by omega) (by omega)
    refine V_aload_n (pc := 41) 0 dX12_rightAt_41 rfl rfl ?_
    refine V_getR (pc := 42) (j := 50) fk_X12_77_12 (wR hw (i := 27) (k := 34) (j := 50) rfl) dX12_rightAt_42 (wN hw (by decide)) (wS1 hw (by decide) rfl) ?_
    refine V_iconst (pc := 45) (v := 4) dX12_rightAt_45 rfl ?_
    refine V_iload_n (pc := 46) 1 dX12_rightAt_46 rfl rfl ?_
    refine V_imul (pc := 47) dX12_rightAt_47 (fun x_47_8 e_47_8 => ?_)
    have t_47_8 : x_47_8.toInt = 4 * c.toInt := mulT e_47_8 rfl rfl (by omega) (by omega)
    refine V_iconst (pc := 48) (v := 1) dX12_rightAt_48 rfl ?_
    refine V_iadd (pc := 49) dX12_rightAt_49 (fun x_49_9 e_49_9 => ?_)
    have t_49_9 : x_49_9.toInt = x_47_8.toInt + 1 := addT e_49_9 rfl rfl (by omega) (by omega)
    refine V_ia (pc := 50) (k := ((4 * c.toInt) + 1).toNat) (v := (I 50 ((4 * c.toInt) + 1).toNat)) rfl dX12_rightAt_50 (wN hw (by decide)) (wS hw (by decide) rfl) (by omega) (by omega) ?_
    refine V_i2l (pc := 51) dX12_rightAt_51 (fun x_51_10 e_51_10 => ?_)
    have t_51_10 : x_51_10.toInt = (I 50 ((4 * c.toInt) + 1).toNat).toInt := i2lT e_51_10 rfl
    have b_51_10 := fb_rng (I 50 ((4 * c.toInt) + 1).toNat)
    refine V_lload (pc := 52) 3 dX12_rightAt_52 rfl ?_
    refine V_lsub (pc := 54) dX12_rightAt_54 (fun x_54_11 e_54_11 => ?_)
    have t_54_11 : x_54_11.toInt = x_51_10.toInt - x_19_3.toInt := lsubT e_54_11 rfl rfl (by omega) (by omega)
    refine V_lmul (pc := 55) dX12_rightAt_55 (fun x_55_12 e_55_12 => ?_)
    have m_55_12 := mulB (a := x_40_7.toInt) (b := x_54_11.toInt) (M := 1000000) (N := 1000000) (by omega) (by omega) (by omega) (by omega)
    have t_55_12 : x_55_12.toInt = x_40_7.toInt * x_54_11.toInt := lmulT e_55_12 rfl rfl (by omega) (by omega)
    refine V_aload_n (pc := 56) 0 dX12_rightAt_56 rfl rfl ?_
    refine V_getR (pc := 57) (j := 50) fk_X12_77_12 (wR hw (i := 27) (k := 34) (j := 50) rfl) dX12_rightAt_57 (wN hw (by decide)) (wS1 hw (by decide) rfl) ?_
    refine V_iconst (pc := 60) (v := 4) dX12_rightAt_60 rfl ?_
    refine V_iload_n (pc := 61) 1 dX12_rightAt_61 rfl rfl ?_
    refine V_imul (pc := 62) dX12_rightAt_62 (fun x_62_13 e_62_13 => ?_)
    have t_62_13 : x_62_13.toInt = 4 * c.toInt := mulT e_62_13 rfl rfl (by omega) (by omega)
    refine V_iconst (pc := 63) (v := 3) dX12_rightAt_63 rfl ?_
    refine V_iadd (pc := 64) dX12_rightAt_64 (fun x_64_14 e_64_14 => ?_)
    have t_64_14 : x_64_14.toInt = x_62_13.toInt + 3 := addT e_64_14 rfl rfl (by omega) (by omega)
    refine V_ia (pc := 65) (k := ((4 * c.toInt) + 3).toNat) (v := (I 50 ((4 * c.toInt) + 3).toNat)) rfl dX12_rightAt_65 (wN hw (by decide)) (wS hw (by decide) rfl) (by omega) (by omega) ?_
    refine V_i2l (pc := 66) dX12_rightAt_66 (fun x_66_15 e_66_15 => ?_)
    have t_66_15 : x_66_15.toInt = (I 50 ((4 * c.toInt) + 3).toNat).toInt := i2lT e_66_15 rfl
    have b_66_15 := fb_rng (I 50 ((4 * c.toInt) + 3).toNat)
    refine V_lload (pc := 67) 4 dX12_rightAt_67 rfl ?_
    refine V_lsub (pc := 69) dX12_rightAt_69 (fun x_69_16 e_69_16 => ?_)
    have t_69_16 : x_69_16.toInt = x_66_15.toInt - x_32_6.toInt := lsubT e_69_16 rfl rfl (by omega) (by omega)
    refine V_ldiv (pc := 70) dX12_rightAt_70 (nzL (b := x_69_16.toInt) rfl (by omega)) (fun x_70_17 e_70_17 => ?_)
    have q_70_17 := tdivT e_70_17 rfl rfl 1000000000000 (by omega) (by omega) (by omega) (by omega)
    have t_70_17 := q_70_17.1
    refine V_ladd (pc := 71) dX12_rightAt_71 (fun x_71_18 e_71_18 => ?_)
    have t_71_18 : x_71_18.toInt = x_19_3.toInt + x_70_17.toInt := laddT e_71_18 rfl rfl (by omega) (by omega)
    refine V_lret (pc := 72) rfl dX12_rightAt_72 (by omega) (by omega) ?_
    refine ⟨rfl, rfl, rfl, rfl, rfl, ?_⟩
    refine ⟨_, rfl, ?_, by omega, by omega⟩
    unfold rightF
    rw [if_neg (by omega)]
    have e9 := t_70_17
    rw [t_55_12] at e9
    simp only [t_17_2, t_19_3, t_28_4, t_30_5, t_32_6, t_40_7, t_47_8, t_49_9, t_51_10, t_54_11, t_62_13, t_64_14, t_66_15, t_69_16] at e9
    omega
  · have c_6_1 : (I 49 c.toInt.toNat).toInt = 0 := c_6_1
    refine V_lload_n (pc := 9) 2 dX12_rightAt_9 rfl rfl ?_
    refine V_lret (pc := 10) rfl dX12_rightAt_10 (by omega) (by omega) ?_
    refine ⟨rfl, rfl, rfl, rfl, rfl, ?_⟩
    refine ⟨_, rfl, ?_⟩
    have e9 : rightF I c.toInt t.toInt = t.toInt := by unfold rightF; rw [if_pos (by omega)]
    omega
set_option maxRecDepth 100000 in
set_option maxHeartbeats 4000000 in
theorem c_X12_right (G : vG) {n : Nat} {sh : vS} {I : vI} {L : vL} {R : vR} (c t : Int32) (hw : WF n sh R) (h30 : 0 ≤ (I 27 30).toInt ∧ (I 27 30).toInt ≤ 8) (hcks : ∀ c : Int, 0 ≤ c → c < (I 27 30).toInt → ckOK I c) : CT G yX12_right cX12_right 3 (some .long) 2 0 0 [.ref (ad G 27), .int c, .int t] n sh I L R (PI n sh L R (fun I' o => I = I' ∧ ∃ v : Int64, o = some (.long v) ∧ v.toInt = sRight I c t)) := by
  refine CT_of (own := RX12) (ini := false) (lo := [(0, .ref (ad G 27)), (1, .int c), (2, .int t)]) mf_X12_right (Nat.le_of_ble_eq_true rfl) rfl (fun h => by first | rfl | cases h) rfl ?_
  refine V_aload_n (pc := 0) 0 dX12_right_0 rfl rfl ?_
  refine V_iload_n (pc := 1) 1 dX12_right_1 rfl rfl ?_
  refine V_callV (pc := 2) (As := [.int c]) (st := []) (c_X12_noControl G c hw h30.1) mf_X12_noControl ml_X12_228 iv_X12_noControl (wN hw (by decide)) (wS1 hw (by decide) rfl) (by decide) rfl dX12_right_2 rfl rfl (by omega) (by omega) (by omega) (Nat.le_of_ble_eq_true rfl) (fun r_2_1 n_2_1 sh_2_1 I_2_1 L_2_1 R_2_1 hq_2_1 => ?_)
  obtain ⟨rfl, rfl, rfl, rfl, rfl, hq_2_1⟩ := hq_2_1
  rcases hq_2_1 with ⟨c_2_1, rfl⟩ | ⟨c_2_1, rfl⟩
  · have c_2_1 : ¬ (0 ≤ c.toInt ∧ c.toInt < (I 27 30).toInt) := c_2_1
    refine V_if_ne_t (pc := 5) (tgt := 15) dX12_right_5 (by decide) (by decide) ?_
    refine V_callS (pc := 15) (As := []) (st := []) (c_X12_lost G) mf_X12_lost ml_X12_104 st_X12_lost dX12_right_15 rfl rfl (by omega) (by omega) (by omega) (Nat.le_of_ble_eq_true rfl) (fun r_15_2 n_15_2 sh_15_2 I_15_2 L_15_2 R_15_2 hq_15_2 => ?_)
    obtain ⟨rfl, rfl, rfl, rfl, rfl, rfl⟩ := hq_15_2
    refine V_goto (pc := 18) (tgt := 28) dX12_right_18 (by decide) ?_
    refine V_lret (pc := 28) rfl dX12_right_28 (by omega) (by omega) ?_
    refine ⟨rfl, rfl, rfl, rfl, rfl, ?_⟩
    refine ⟨_, rfl, ?_⟩
    unfold sRight isCtl isTm
    (repeat' split) <;> first | rfl | (exfalso; omega) | omega
  · have c_2_1 : ¬ (¬ (0 ≤ c.toInt ∧ c.toInt < (I 27 30).toInt)) := c_2_1
    refine V_if_ne_f (pc := 5) (tgt := 15) dX12_right_5 (by decide) (by decide) ?_
    refine V_iload_n (pc := 8) 2 dX12_right_8 rfl rfl ?_
    refine V_callS (pc := 9) (As := [.int t]) (st := []) (c_X12_isTime G t) mf_X12_isTime ml_X12_231 st_X12_isTime dX12_right_9 rfl rfl (by omega) (by omega) (by omega) (Nat.le_of_ble_eq_true rfl) (fun r_9_3 n_9_3 sh_9_3 I_9_3 L_9_3 R_9_3 hq_9_3 => ?_)
    obtain ⟨rfl, rfl, rfl, rfl, rfl, hq_9_3⟩ := hq_9_3
    rcases hq_9_3 with ⟨c_9_3, rfl⟩ | ⟨c_9_3, rfl⟩
    · have c_9_3 : 0 ≤ t.toInt ∧ t.toInt ≤ 1000000 := c_9_3
      refine V_if_ne_t (pc := 12) (tgt := 21) dX12_right_12 (by decide) (by decide) ?_
      refine V_aload_n (pc := 21) 0 dX12_right_21 rfl rfl ?_
      refine V_iload_n (pc := 22) 1 dX12_right_22 rfl rfl ?_
      refine V_iload_n (pc := 23) 2 dX12_right_23 rfl rfl ?_
      refine V_i2l (pc := 24) dX12_right_24 (fun x_24_4 e_24_4 => ?_)
      have t_24_4 : x_24_4.toInt = t.toInt := i2lT e_24_4 rfl
      have b_24_4 := fb_rng t
      refine V_callV (pc := 25) (As := [.int c, .long x_24_4]) (st := []) (c_X12_rightAt G c x_24_4 t.toInt hw (by omega) (by omega) (by first | assumption | exact hcks _ (by omega) (by omega)) (by omega)) mf_X12_rightAt ml_X12_234 iv_X12_rightAt (wN hw (by decide)) (wS1 hw (by decide) rfl) (by decide) rfl dX12_right_25 rfl rfl (by omega) (by omega) (by omega) (Nat.le_of_ble_eq_true rfl) (fun r_25_5 n_25_5 sh_25_5 I_25_5 L_25_5 R_25_5 hq_25_5 => ?_)
      obtain ⟨rfl, rfl, rfl, rfl, rfl, v_25_5, rfl, hv_25_5⟩ := hq_25_5
      refine V_lret (pc := 28) rfl dX12_right_28 (by omega) (by omega) ?_
      refine ⟨rfl, rfl, rfl, rfl, rfl, ?_⟩
      refine ⟨_, rfl, ?_⟩
      unfold sRight isCtl isTm
      (repeat' split) <;> first | rfl | (exfalso; omega) | omega
    · have c_9_3 : ¬ (0 ≤ t.toInt ∧ t.toInt ≤ 1000000) := c_9_3
      refine V_if_ne_f (pc := 12) (tgt := 21) dX12_right_12 (by decide) (by decide) ?_
      refine V_callS (pc := 15) (As := []) (st := []) (c_X12_lost G) mf_X12_lost ml_X12_104 st_X12_lost dX12_right_15 rfl rfl (by omega) (by omega) (by omega) (Nat.le_of_ble_eq_true rfl) (fun r_15_6 n_15_6 sh_15_6 I_15_6 L_15_6 R_15_6 hq_15_6 => ?_)
      obtain ⟨rfl, rfl, rfl, rfl, rfl, rfl⟩ := hq_15_6
      refine V_goto (pc := 18) (tgt := 28) dX12_right_18 (by decide) ?_
      refine V_lret (pc := 28) rfl dX12_right_28 (by omega) (by omega) ?_
      refine ⟨rfl, rfl, rfl, rfl, rfl, ?_⟩
      refine ⟨_, rfl, ?_⟩
      unfold sRight isCtl isTm
      (repeat' split) <;> first | rfl | (exfalso; omega) | omega
set_option maxRecDepth 100000 in
set_option maxHeartbeats 4000000 in
theorem l_X12_dueAt_in (G : vG) {n : Nat} {sh : vS} {I : vI} {L : vL} {R : vR} {post : PT} (p a : Int32) (s : Int64) (hw : WF n sh R) (h27 : 0 ≤ (I 27 27).toInt ∧ (I 27 27).toInt ≤ 8) (hv : ∀ k, k < (I 27 27).toInt.toNat → 1 ≤ (I 46 k).toInt ∧ (I 46 k).toInt ≤ 3000) (hp : 0 ≤ p.toInt ∧ p.toInt ≤ 200000) (K : V G RX12 cX12_dueAt (some .long) false 0 0 0 8 post 99 [(0, .ref (ad G 27)), (1, .int p), (2, .long s), (4, .int a), (5, .int (nwF I a.toInt (I 27 27).toInt.toNat)), (6, .int (nxF I a.toInt p (I 27 27).toInt.toNat))] [] 0 0 n sh I L R) : ∀ (f m : Nat) (k : Int32) (w : Int32) (x : Int32) (hm : (m : Int) ≤ (I 27 27).toInt) (hk : k.toInt = (m : Int)) (hn : w = nwF I a.toInt m) (hx : x = nxF I a.toInt p m) (hf : (I 27 27).toInt < (m : Int) + f), V G RX12 cX12_dueAt (some .long) false 0 0 0 8 post 20 [(0, .ref (ad G 27)), (1, .int p), (2, .long s), (4, .int a), (5, .int w), (6, .int x), (7, .int k)] [] 0 0 n sh I L R := by
  intro f
  induction f with
  | zero => intro m k w x hm hk hn hx hf; omega
  | succ f ih =>
    intro m k w x hm hk hn hx hf
    refine V_iload (pc := 20) 6 dX12_dueAt_20 rfl ?_
    refine V_aload_n (pc := 22) 0 dX12_dueAt_22 rfl rfl ?_
    refine V_gI (pc := 23) (v := (I 27 27)) rfl fk_X12_196_12 dX12_dueAt_23 (wN hw (by decide)) (wS1 hw (by decide) rfl) ?_
    refine V_icmp_ge (pc := 26) (tgt := 99) dX12_dueAt_26 (by decide) (fun c_26_1 => ?_) (fun c_26_1 => ?_)
    · have c_26_1 : (I 27 27).toInt ≤ k.toInt := c_26_1
      refine V_lo (pc := 99) (lo' := [(0, .ref (ad G 27)), (1, .int p), (2, .long s), (4, .int a), (5, .int w), (6, .int x)]) [0, 1, 2, 3, 4, 5] rfl ?_
      have e9 : (I 27 27).toInt.toNat = m := by omega
      rw [e9, ← hn, ← hx] at K
      exact K
    · have c_26_1 : k.toInt < (I 27 27).toInt := c_26_1
      refine V_aload_n (pc := 29) 0 dX12_dueAt_29 rfl rfl ?_
      refine V_getR (pc := 30) (j := 45) fk_X12_62_12 (wR hw (i := 27) (k := 28) (j := 45) rfl) dX12_dueAt_30 (wN hw (by decide)) (wS1 hw (by decide) rfl) ?_
      refine V_iload (pc := 33) 6 dX12_dueAt_33 rfl ?_
      refine V_ia (pc := 35) (k := m) (v := (I 45 m)) rfl dX12_dueAt_35 (wN hw (by decide)) (wS hw (by decide) rfl) hk (by omega) ?_
      refine V_iload (pc := 36) 3 dX12_dueAt_36 rfl ?_
      refine V_icmp_ne (pc := 38) (tgt := 51) dX12_dueAt_38 (by decide) (fun c_38_2 => ?_) (fun c_38_2 => ?_)
      · have c_38_2 : (I 45 m).toInt ≠ a.toInt := c_38_2
        refine V_iload (pc := 51) 4 dX12_dueAt_51 rfl ?_
        refine V_istore (pc := 53) (lo' := [(0, .ref (ad G 27)), (1, .int p), (2, .long s), (4, .int a), (5, .int w), (6, .int x), (7, .int k)]) dX12_dueAt_53 (by decide) rfl ?_
        refine V_aload_n (pc := 55) 0 dX12_dueAt_55 rfl rfl ?_
        refine V_getR (pc := 56) (j := 45) fk_X12_62_12 (wR hw (i := 27) (k := 28) (j := 45) rfl) dX12_dueAt_56 (wN hw (by decide)) (wS1 hw (by decide) rfl) ?_
        refine V_iload (pc := 59) 6 dX12_dueAt_59 rfl ?_
        refine V_ia (pc := 61) (k := m) (v := (I 45 m)) rfl dX12_dueAt_61 (wN hw (by decide)) (wS hw (by decide) rfl) hk (by omega) ?_
        refine V_iload (pc := 62) 3 dX12_dueAt_62 rfl ?_
        refine V_icmp_le (pc := 64) (tgt := 89) dX12_dueAt_64 (by decide) (fun c_64_3 => ?_) (fun c_64_3 => ?_)
        · have c_64_3 : (I 45 m).toInt ≤ a.toInt := c_64_3
          refine V_iload (pc := 89) 5 dX12_dueAt_89 rfl ?_
          refine V_istore (pc := 91) (lo' := [(0, .ref (ad G 27)), (1, .int p), (2, .long s), (4, .int a), (5, .int w), (6, .int x), (7, .int k)]) dX12_dueAt_91 (by decide) rfl ?_
          obtain ⟨x_93_4, e_93_4⟩ : ∃ y : Int32, y = k + (1) := ⟨_, rfl⟩
          have t_93_4 : x_93_4.toInt = k.toInt + 1 := addT e_93_4 rfl rfl (by omega) (by omega)
          refine V_iinc (pc := 93) (v := x_93_4) (lo' := [(0, .ref (ad G 27)), (1, .int p), (2, .long s), (4, .int a), (5, .int w), (6, .int x), (7, .int x_93_4)]) 6 dX12_dueAt_93 rfl e_93_4.symm (by decide) rfl ?_
          refine V_goto (pc := 96) (tgt := 20) dX12_dueAt_96 (by decide) ?_
          exact ih (m + 1) x_93_4 w x (by omega) (by omega) (by first | exact nwF_t (by omega) | exact nwF_n hn (by omega)) (by first | exact nxF_t hx (by omega) (by omega) | exact nxF_n hx (by omega)) (by omega)
        · have c_64_3 : a.toInt < (I 45 m).toInt := c_64_3
          refine V_aload_n (pc := 67) 0 dX12_dueAt_67 rfl rfl ?_
          refine V_getR (pc := 68) (j := 45) fk_X12_62_12 (wR hw (i := 27) (k := 28) (j := 45) rfl) dX12_dueAt_68 (wN hw (by decide)) (wS1 hw (by decide) rfl) ?_
          refine V_iload (pc := 71) 6 dX12_dueAt_71 rfl ?_
          refine V_ia (pc := 73) (k := m) (v := (I 45 m)) rfl dX12_dueAt_73 (wN hw (by decide)) (wS hw (by decide) rfl) hk (by omega) ?_
          refine V_iload (pc := 74) 5 dX12_dueAt_74 rfl ?_
          refine V_icmp_ge (pc := 76) (tgt := 89) dX12_dueAt_76 (by decide) (fun c_76_5 => ?_) (fun c_76_5 => ?_)
          · have c_76_5 : x.toInt ≤ (I 45 m).toInt := c_76_5
            refine V_iload (pc := 89) 5 dX12_dueAt_89 rfl ?_
            refine V_istore (pc := 91) (lo' := [(0, .ref (ad G 27)), (1, .int p), (2, .long s), (4, .int a), (5, .int w), (6, .int x), (7, .int k)]) dX12_dueAt_91 (by decide) rfl ?_
            obtain ⟨x_93_6, e_93_6⟩ : ∃ y : Int32, y = k + (1) := ⟨_, rfl⟩
            have t_93_6 : x_93_6.toInt = k.toInt + 1 := addT e_93_6 rfl rfl (by omega) (by omega)
            refine V_iinc (pc := 93) (v := x_93_6) (lo' := [(0, .ref (ad G 27)), (1, .int p), (2, .long s), (4, .int a), (5, .int w), (6, .int x), (7, .int x_93_6)]) 6 dX12_dueAt_93 rfl e_93_6.symm (by decide) rfl ?_
            refine V_goto (pc := 96) (tgt := 20) dX12_dueAt_96 (by decide) ?_
            exact ih (m + 1) x_93_6 w x (by omega) (by omega) (by first | exact nwF_t (by omega) | exact nwF_n hn (by omega)) (by first | exact nxF_t hx (by omega) (by omega) | exact nxF_n hx (by omega)) (by omega)
          · have c_76_5 : (I 45 m).toInt < x.toInt := c_76_5
            refine V_aload_n (pc := 79) 0 dX12_dueAt_79 rfl rfl ?_
            refine V_getR (pc := 80) (j := 45) fk_X12_62_12 (wR hw (i := 27) (k := 28) (j := 45) rfl) dX12_dueAt_80 (wN hw (by decide)) (wS1 hw (by decide) rfl) ?_
            refine V_iload (pc := 83) 6 dX12_dueAt_83 rfl ?_
            refine V_ia (pc := 85) (k := m) (v := (I 45 m)) rfl dX12_dueAt_85 (wN hw (by decide)) (wS hw (by decide) rfl) hk (by omega) ?_
            refine V_goto (pc := 86) (tgt := 91) dX12_dueAt_86 (by decide) ?_
            refine V_istore (pc := 91) (lo' := [(0, .ref (ad G 27)), (1, .int p), (2, .long s), (4, .int a), (5, .int w), (6, .int (I 45 m)), (7, .int k)]) dX12_dueAt_91 (by decide) rfl ?_
            obtain ⟨x_93_7, e_93_7⟩ : ∃ y : Int32, y = k + (1) := ⟨_, rfl⟩
            have t_93_7 : x_93_7.toInt = k.toInt + 1 := addT e_93_7 rfl rfl (by omega) (by omega)
            refine V_iinc (pc := 93) (v := x_93_7) (lo' := [(0, .ref (ad G 27)), (1, .int p), (2, .long s), (4, .int a), (5, .int w), (6, .int (I 45 m)), (7, .int x_93_7)]) 6 dX12_dueAt_93 rfl e_93_7.symm (by decide) rfl ?_
            refine V_goto (pc := 96) (tgt := 20) dX12_dueAt_96 (by decide) ?_
            exact ih (m + 1) x_93_7 w (I 45 m) (by omega) (by omega) (by first | exact nwF_t (by omega) | exact nwF_n hn (by omega)) (by first | exact nxF_t hx (by omega) (by omega) | exact nxF_n hx (by omega)) (by omega)
      · have c_38_2 : (I 45 m).toInt = a.toInt := c_38_2
        refine V_aload_n (pc := 41) 0 dX12_dueAt_41 rfl rfl ?_
        refine V_getR (pc := 42) (j := 46) fk_X12_65_12 (wR hw (i := 27) (k := 29) (j := 46) rfl) dX12_dueAt_42 (wN hw (by decide)) (wS1 hw (by decide) rfl) ?_
        refine V_iload (pc := 45) 6 dX12_dueAt_45 rfl ?_
        refine V_ia (pc := 47) (k := m) (v := (I 46 m)) rfl dX12_dueAt_47 (wN hw (by decide)) (wS hw (by decide) rfl) hk (by omega) ?_
        refine V_goto (pc := 48) (tgt := 53) dX12_dueAt_48 (by decide) ?_
        refine V_istore (pc := 53) (lo' := [(0, .ref (ad G 27)), (1, .int p), (2, .long s), (4, .int a), (5, .int (I 46 m)), (6, .int x), (7, .int k)]) dX12_dueAt_53 (by decide) rfl ?_
        refine V_aload_n (pc := 55) 0 dX12_dueAt_55 rfl rfl ?_
        refine V_getR (pc := 56) (j := 45) fk_X12_62_12 (wR hw (i := 27) (k := 28) (j := 45) rfl) dX12_dueAt_56 (wN hw (by decide)) (wS1 hw (by decide) rfl) ?_
        refine V_iload (pc := 59) 6 dX12_dueAt_59 rfl ?_
        refine V_ia (pc := 61) (k := m) (v := (I 45 m)) rfl dX12_dueAt_61 (wN hw (by decide)) (wS hw (by decide) rfl) hk (by omega) ?_
        refine V_iload (pc := 62) 3 dX12_dueAt_62 rfl ?_
        refine V_icmp_le (pc := 64) (tgt := 89) dX12_dueAt_64 (by decide) (fun c_64_8 => ?_) (fun c_64_8 => ?_)
        · have c_64_8 : (I 45 m).toInt ≤ a.toInt := c_64_8
          refine V_iload (pc := 89) 5 dX12_dueAt_89 rfl ?_
          refine V_istore (pc := 91) (lo' := [(0, .ref (ad G 27)), (1, .int p), (2, .long s), (4, .int a), (5, .int (I 46 m)), (6, .int x), (7, .int k)]) dX12_dueAt_91 (by decide) rfl ?_
          obtain ⟨x_93_9, e_93_9⟩ : ∃ y : Int32, y = k + (1) := ⟨_, rfl⟩
          have t_93_9 : x_93_9.toInt = k.toInt + 1 := addT e_93_9 rfl rfl (by omega) (by omega)
          refine V_iinc (pc := 93) (v := x_93_9) (lo' := [(0, .ref (ad G 27)), (1, .int p), (2, .long s), (4, .int a), (5, .int (I 46 m)), (6, .int x), (7, .int x_93_9)]) 6 dX12_dueAt_93 rfl e_93_9.symm (by decide) rfl ?_
          refine V_goto (pc := 96) (tgt := 20) dX12_dueAt_96 (by decide) ?_
          exact ih (m + 1) x_93_9 (I 46 m) x (by omega) (by omega) (by first | exact nwF_t (by omega) | exact nwF_n hn (by omega)) (by first | exact nxF_t hx (by omega) (by omega) | exact nxF_n hx (by omega)) (by omega)
        · have c_64_8 : a.toInt < (I 45 m).toInt := c_64_8
          refine V_aload_n (pc := 67) 0 dX12_dueAt_67 rfl rfl ?_
          refine V_getR (pc := 68) (j := 45) fk_X12_62_12 (wR hw (i := 27) (k := 28) (j := 45) rfl) dX12_dueAt_68 (wN hw (by decide)) (wS1 hw (by decide) rfl) ?_
          refine V_iload (pc := 71) 6 dX12_dueAt_71 rfl ?_
          refine V_ia (pc := 73) (k := m) (v := (I 45 m)) rfl dX12_dueAt_73 (wN hw (by decide)) (wS hw (by decide) rfl) hk (by omega) ?_
          refine V_iload (pc := 74) 5 dX12_dueAt_74 rfl ?_
          refine V_icmp_ge (pc := 76) (tgt := 89) dX12_dueAt_76 (by decide) (fun c_76_10 => ?_) (fun c_76_10 => ?_)
          · have c_76_10 : x.toInt ≤ (I 45 m).toInt := c_76_10
            refine V_iload (pc := 89) 5 dX12_dueAt_89 rfl ?_
            refine V_istore (pc := 91) (lo' := [(0, .ref (ad G 27)), (1, .int p), (2, .long s), (4, .int a), (5, .int (I 46 m)), (6, .int x), (7, .int k)]) dX12_dueAt_91 (by decide) rfl ?_
            obtain ⟨x_93_11, e_93_11⟩ : ∃ y : Int32, y = k + (1) := ⟨_, rfl⟩
            have t_93_11 : x_93_11.toInt = k.toInt + 1 := addT e_93_11 rfl rfl (by omega) (by omega)
            refine V_iinc (pc := 93) (v := x_93_11) (lo' := [(0, .ref (ad G 27)), (1, .int p), (2, .long s), (4, .int a), (5, .int (I 46 m)), (6, .int x), (7, .int x_93_11)]) 6 dX12_dueAt_93 rfl e_93_11.symm (by decide) rfl ?_
            refine V_goto (pc := 96) (tgt := 20) dX12_dueAt_96 (by decide) ?_
            exact ih (m + 1) x_93_11 (I 46 m) x (by omega) (by omega) (by first | exact nwF_t (by omega) | exact nwF_n hn (by omega)) (by first | exact nxF_t hx (by omega) (by omega) | exact nxF_n hx (by omega)) (by omega)
          · have c_76_10 : (I 45 m).toInt < x.toInt := c_76_10
            refine V_aload_n (pc := 79) 0 dX12_dueAt_79 rfl rfl ?_
            refine V_getR (pc := 80) (j := 45) fk_X12_62_12 (wR hw (i := 27) (k := 28) (j := 45) rfl) dX12_dueAt_80 (wN hw (by decide)) (wS1 hw (by decide) rfl) ?_
            refine V_iload (pc := 83) 6 dX12_dueAt_83 rfl ?_
            refine V_ia (pc := 85) (k := m) (v := (I 45 m)) rfl dX12_dueAt_85 (wN hw (by decide)) (wS hw (by decide) rfl) hk (by omega) ?_
            refine V_goto (pc := 86) (tgt := 91) dX12_dueAt_86 (by decide) ?_
            refine V_istore (pc := 91) (lo' := [(0, .ref (ad G 27)), (1, .int p), (2, .long s), (4, .int a), (5, .int (I 46 m)), (6, .int (I 45 m)), (7, .int k)]) dX12_dueAt_91 (by decide) rfl ?_
            obtain ⟨x_93_12, e_93_12⟩ : ∃ y : Int32, y = k + (1) := ⟨_, rfl⟩
            have t_93_12 : x_93_12.toInt = k.toInt + 1 := addT e_93_12 rfl rfl (by omega) (by omega)
            refine V_iinc (pc := 93) (v := x_93_12) (lo' := [(0, .ref (ad G 27)), (1, .int p), (2, .long s), (4, .int a), (5, .int (I 46 m)), (6, .int (I 45 m)), (7, .int x_93_12)]) 6 dX12_dueAt_93 rfl e_93_12.symm (by decide) rfl ?_
            refine V_goto (pc := 96) (tgt := 20) dX12_dueAt_96 (by decide) ?_
            exact ih (m + 1) x_93_12 (I 46 m) (I 45 m) (by omega) (by omega) (by first | exact nwF_t (by omega) | exact nwF_n hn (by omega)) (by first | exact nxF_t hx (by omega) (by omega) | exact nxF_n hx (by omega)) (by omega)
set_option maxRecDepth 100000 in
set_option maxHeartbeats 4000000 in
theorem l_X12_dueAt (G : vG) {n : Nat} {sh : vS} {I : vI} {L : vL} {R : vR} (p : Int32) (hw : WF n sh R) (h27 : 0 ≤ (I 27 27).toInt ∧ (I 27 27).toInt ≤ 8) (hv : ∀ k, k < (I 27 27).toInt.toNat → 1 ≤ (I 46 k).toInt ∧ (I 46 k).toInt ≤ 3000) (hp : 0 ≤ p.toInt ∧ p.toInt ≤ 200000) : ∀ (f : Nat) (a : Int32) (s : Int64) (hat : a.toInt < p.toInt → ∃ k, k < (I 27 27).toInt.toNat ∧ (I 45 k).toInt = a.toInt) (ha : 0 ≤ a.toInt ∧ a.toInt ≤ p.toInt) (hs : 0 ≤ s.toInt ∧ s.toInt ≤ 600 * a.toInt) (hT : s.toInt + dueF I p f a.toInt = dueF I p 10 0) (hf : 0 < f ∧ (a.toInt < p.toInt → cntG I a.toInt (I 27 27).toInt.toNat + 1 < f)), V G RX12 cX12_dueAt (some .long) false 0 0 0 8 (PI n sh L R (fun I' o => I = I' ∧ ∃ v : Int64, o = some (.long v) ∧ (v.toInt = dueF I p 10 0 ∧ 0 ≤ v.toInt ∧ v.toInt ≤ 600 * p.toInt))) 5 [(0, .ref (ad G 27)), (1, .int p), (2, .long s), (4, .int a)] [] 0 0 n sh I L R := by
  intro f
  induction f with
  | zero => intro a s hat ha hs hT hf; omega
  | succ f ih =>
    intro a s hat ha hs hT hf
    refine V_iload (pc := 5) 3 dX12_dueAt_5 rfl ?_
    refine V_iload_n (pc := 7) 1 dX12_dueAt_7 rfl rfl ?_
    refine V_icmp_ge (pc := 8) (tgt := 123) dX12_dueAt_8 (by decide) (fun c_8_1 => ?_) (fun c_8_1 => ?_)
    · have c_8_1 : p.toInt ≤ a.toInt := c_8_1
      refine V_lload_n (pc := 123) 2 dX12_dueAt_123 rfl rfl ?_
      refine V_lret (pc := 124) rfl dX12_dueAt_124 (by omega) (by omega) ?_
      refine ⟨rfl, rfl, rfl, rfl, rfl, ?_⟩
      refine ⟨_, rfl, ?_, by omega, by omega⟩
      rw [dueF_ge (f := f + 1) (a := a.toInt) (by omega)] at hT
      omega
    · have c_8_1 : a.toInt < p.toInt := c_8_1
      refine V_iconst (pc := 11) (v := 0) dX12_dueAt_11 rfl ?_
      refine V_istore (pc := 12) (lo' := [(0, .ref (ad G 27)), (1, .int p), (2, .long s), (4, .int a), (5, .int 0)]) dX12_dueAt_12 (by decide) rfl ?_
      refine V_iload_n (pc := 14) 1 dX12_dueAt_14 rfl rfl ?_
      refine V_istore (pc := 15) (lo' := [(0, .ref (ad G 27)), (1, .int p), (2, .long s), (4, .int a), (5, .int 0), (6, .int p)]) dX12_dueAt_15 (by decide) rfl ?_
      refine V_iconst (pc := 17) (v := 0) dX12_dueAt_17 rfl ?_
      refine V_istore (pc := 18) (lo' := [(0, .ref (ad G 27)), (1, .int p), (2, .long s), (4, .int a), (5, .int 0), (6, .int p), (7, .int 0)]) dX12_dueAt_18 (by decide) rfl ?_
      refine l_X12_dueAt_in G p a s hw h27 hv hp ?_ ((I 27 27).toInt.toNat + 1) 0 0 0 p (by omega) rfl rfl rfl (by omega)
      obtain ⟨j1, j2, j3, j4⟩ := nwF_c I a.toInt _ (hat (by omega))
      have j5 := hv j1 j2
      rw [← j4] at j5
      obtain ⟨z1, z2, z3⟩ := nxF_c I a.toInt p (by omega) (I 27 27).toInt.toNat
      refine V_lload_n (pc := 99) 2 dX12_dueAt_99 rfl rfl ?_
      refine V_ldc2 (pc := 100) dX12_dueAt_100 kk_X12_218 ?_
      refine V_iload (pc := 103) 5 dX12_dueAt_103 rfl ?_
      refine V_iload (pc := 105) 3 dX12_dueAt_105 rfl ?_
      refine V_isub (pc := 107) dX12_dueAt_107 (fun x_107_2 e_107_2 => ?_)
      have t_107_2 : x_107_2.toInt = (nxF I a.toInt p (I 27 27).toInt.toNat).toInt - a.toInt := subT e_107_2 rfl rfl (by omega) (by omega)
      refine V_i2l (pc := 108) dX12_dueAt_108 (fun x_108_3 e_108_3 => ?_)
      have t_108_3 : x_108_3.toInt = x_107_2.toInt := i2lT e_108_3 rfl
      have b_108_3 := fb_rng x_107_2
      refine V_lmul (pc := 109) dX12_dueAt_109 (fun x_109_4 e_109_4 => ?_)
      have t_109_4 : x_109_4.toInt = 600 * x_108_3.toInt := lmulT e_109_4 rfl rfl (by omega) (by omega)
      refine V_iload (pc := 110) 4 dX12_dueAt_110 rfl ?_
      refine V_i2l (pc := 112) dX12_dueAt_112 (fun x_112_5 e_112_5 => ?_)
      have t_112_5 : x_112_5.toInt = (nwF I a.toInt (I 27 27).toInt.toNat).toInt := i2lT e_112_5 rfl
      have b_112_5 := fb_rng (nwF I a.toInt (I 27 27).toInt.toNat)
      refine V_ldiv (pc := 113) dX12_dueAt_113 (nzL (b := x_112_5.toInt) rfl (by omega)) (fun x_113_6 e_113_6 => ?_)
      have q_113_6 := ldivT e_113_6 rfl rfl (by omega) (by omega)
      have g_113_6 : x_109_4.toInt / x_112_5.toInt ≤ x_109_4.toInt := Int.ediv_le_self _ (by omega)
      have g2_113_6 : 0 ≤ x_109_4.toInt / x_112_5.toInt := Int.ediv_nonneg (by omega) (by omega)
      refine V_ladd (pc := 114) dX12_dueAt_114 (fun x_114_7 e_114_7 => ?_)
      have t_114_7 : x_114_7.toInt = s.toInt + x_113_6.toInt := laddT e_114_7 rfl rfl (by omega) (by omega)
      refine V_lstore_n (pc := 115) (lo' := [(0, .ref (ad G 27)), (1, .int p), (2, .long x_114_7), (4, .int a), (5, .int (nwF I a.toInt (I 27 27).toInt.toNat)), (6, .int (nxF I a.toInt p (I 27 27).toInt.toNat))]) dX12_dueAt_115 rfl (by decide) rfl ?_
      refine V_iload (pc := 116) 5 dX12_dueAt_116 rfl ?_
      refine V_istore (pc := 118) (lo' := [(0, .ref (ad G 27)), (1, .int p), (2, .long x_114_7), (4, .int (nxF I a.toInt p (I 27 27).toInt.toNat)), (5, .int (nwF I a.toInt (I 27 27).toInt.toNat)), (6, .int (nxF I a.toInt p (I 27 27).toInt.toNat))]) dX12_dueAt_118 (by decide) rfl ?_
      refine V_goto (pc := 120) (tgt := 5) dX12_dueAt_120 (by decide) ?_
      have hT2 := hT
      rw [dueF_lt (f := f) (a := a.toInt) (by omega), Int.tdiv_eq_ediv_of_nonneg (by omega)] at hT2
      have e8 : 600 * ((nxF I a.toInt p (I 27 27).toInt.toNat).toInt - a.toInt) = x_109_4.toInt := by omega
      have e7 : (nwF I a.toInt (I 27 27).toInt.toNat).toInt = x_112_5.toInt := by omega
      rw [e8, e7] at hT2
      refine V_lo (pc := 5) (lo' := [(0, .ref (ad G 27)), (1, .int p), (2, .long x_114_7), (4, .int (nxF I a.toInt p (I 27 27).toInt.toNat))]) [0, 1, 2, 3] rfl ?_
      refine ih (nxF I a.toInt p (I 27 27).toInt.toNat) x_114_7 (fun z => z3.elim (fun q => by omega) id) (by omega) (by omega) (by omega) ⟨by omega, fun z => ?_⟩
      rcases z3 with z3 | z3
      · omega
      · have := cntG_lt I z1 (I 27 27).toInt.toNat z3
        omega
set_option maxRecDepth 100000 in
set_option maxHeartbeats 4000000 in
theorem c_X12_dueAt (G : vG) {n : Nat} {sh : vS} {I : vI} {L : vL} {R : vR} (p : Int32) (hw : WF n sh R) (h27 : 0 ≤ (I 27 27).toInt ∧ (I 27 27).toInt ≤ 8) (hv : ∀ k, k < (I 27 27).toInt.toNat → 1 ≤ (I 46 k).toInt ∧ (I 46 k).toInt ≤ 3000) (hp : 0 ≤ p.toInt ∧ p.toInt ≤ 200000) (h0e : ∃ k, k < (I 27 27).toInt.toNat ∧ (I 45 k).toInt = 0) : CT G yX12_dueAt cX12_dueAt 8 (some .long) 0 0 0 [.ref (ad G 27), .int p] n sh I L R (PI n sh L R (fun I' o => I = I' ∧ ∃ v : Int64, o = some (.long v) ∧ (v.toInt = dueF I p 10 0 ∧ 0 ≤ v.toInt ∧ v.toInt ≤ 600 * p.toInt))) := by
  refine CT_of (own := RX12) (ini := false) (lo := [(0, .ref (ad G 27)), (1, .int p)]) mf_X12_dueAt (Nat.le_of_ble_eq_true rfl) rfl (fun h => by first | rfl | cases h) rfl ?_
  refine V_lconst (pc := 0) (v := 0) dX12_dueAt_0 rfl ?_
  refine V_lstore_n (pc := 1) (lo' := [(0, .ref (ad G 27)), (1, .int p), (2, .long 0)]) dX12_dueAt_1 rfl (by decide) rfl ?_
  refine V_iconst (pc := 2) (v := 0) dX12_dueAt_2 rfl ?_
  refine V_istore (pc := 3) (lo' := [(0, .ref (ad G 27)), (1, .int p), (2, .long 0), (4, .int 0)]) dX12_dueAt_3 (by decide) rfl ?_
  exact l_X12_dueAt G p hw h27 hv hp 10 0 0 (fun _ => h0e) ⟨Int.le_refl _, hp.1⟩ ⟨Int.le_refl _, Int.le_refl _⟩ (Int.zero_add _) ⟨by omega, fun _ => by have := cntG_N I 0 (I 27 27).toInt.toNat; show cntG I 0 _ + 1 < 10; omega⟩
set_option maxRecDepth 100000 in
set_option maxHeartbeats 4000000 in
theorem c_X12_due (G : vG) {n : Nat} {sh : vS} {I : vI} {L : vL} {R : vR} (p : Int32) (hw : WF n sh R) (h27 : 0 ≤ (I 27 27).toInt ∧ (I 27 27).toInt ≤ 8) (h24 : 0 ≤ (I 27 24).toInt) (h25 : (I 27 25).toInt ≤ 200000) (hv : ∀ k, k < (I 27 27).toInt.toNat → 1 ≤ (I 46 k).toInt ∧ (I 46 k).toInt ≤ 3000) : CT G yX12_due cX12_due 2 (some .long) 1 0 0 [.ref (ad G 27), .int p] n sh I L R (PI n sh L R (fun I' o => I = I' ∧ ∃ v : Int64, o = some (.long v) ∧ v.toInt = sDue I p)) := by
  refine CT_of (own := RX12) (ini := false) (lo := [(0, .ref (ad G 27)), (1, .int p)]) mf_X12_due (Nat.le_of_ble_eq_true rfl) rfl (fun h => by first | rfl | cases h) rfl ?_
  refine V_aload_n (pc := 0) 0 dX12_due_0 rfl rfl ?_
  refine V_callV (pc := 1) (As := []) (st := []) (c_X12_hasDue G hw (by assumption)) mf_X12_hasDue ml_X12_220 iv_X12_hasDue (wN hw (by decide)) (wS1 hw (by decide) rfl) (by decide) rfl dX12_due_1 rfl rfl (by omega) (by omega) (by omega) (Nat.le_of_ble_eq_true rfl) (fun r_1_1 n_1_1 sh_1_1 I_1_1 L_1_1 R_1_1 hq_1_1 => ?_)
  obtain ⟨rfl, rfl, rfl, rfl, rfl, hq_1_1⟩ := hq_1_1
  rcases hq_1_1 with ⟨c_1_1, rfl⟩ | ⟨c_1_1, rfl⟩
  · have c_1_1 := c_1_1
    refine V_if_eq_f (pc := 4) (tgt := 29) dX12_due_4 (by decide) (by decide) ?_
    refine V_iload_n (pc := 7) 1 dX12_due_7 rfl rfl ?_
    refine V_i2l (pc := 8) dX12_due_8 (fun x_8_2 e_8_2 => ?_)
    have t_8_2 : x_8_2.toInt = p.toInt := i2lT e_8_2 rfl
    have b_8_2 := fb_rng p
    refine V_lconst (pc := 9) (v := 0) dX12_due_9 rfl ?_
    refine V_aload_n (pc := 10) 0 dX12_due_10 rfl rfl ?_
    refine V_gI (pc := 11) (v := (I 27 25)) rfl fk_X12_193_12 dX12_due_11 (wN hw (by decide)) (wS1 hw (by decide) rfl) ?_
    refine V_i2l (pc := 14) dX12_due_14 (fun x_14_3 e_14_3 => ?_)
    have t_14_3 : x_14_3.toInt = (I 27 25).toInt := i2lT e_14_3 rfl
    have b_14_3 := fb_rng (I 27 25)
    refine V_callS (pc := 15) (As := [.long x_8_2, .long 0, .long x_14_3]) (st := []) (c_X12_in G x_8_2 0 x_14_3) mf_X12_in ml_X12_111 st_X12_in dX12_due_15 rfl rfl (by omega) (by omega) (by omega) (Nat.le_of_ble_eq_true rfl) (fun r_15_4 n_15_4 sh_15_4 I_15_4 L_15_4 R_15_4 hq_15_4 => ?_)
    obtain ⟨rfl, rfl, rfl, rfl, rfl, hq_15_4⟩ := hq_15_4
    rcases hq_15_4 with ⟨c_15_4, rfl⟩ | ⟨c_15_4, rfl⟩
    · have c_15_4 : 0 ≤ x_8_2.toInt ∧ x_8_2.toInt ≤ x_14_3.toInt := c_15_4
      refine V_if_eq_f (pc := 18) (tgt := 29) dX12_due_18 (by decide) (by decide) ?_
      refine V_aload_n (pc := 21) 0 dX12_due_21 rfl rfl ?_
      refine V_iload_n (pc := 22) 1 dX12_due_22 rfl rfl ?_
      refine V_callV (pc := 23) (As := [.int p]) (st := []) (c_X12_dueAt G p hw (by assumption) (by assumption) (by omega) (by assumption : hasDueP I).1) mf_X12_dueAt ml_X12_223 iv_X12_dueAt (wN hw (by decide)) (wS1 hw (by decide) rfl) (by decide) rfl dX12_due_23 rfl rfl (by omega) (by omega) (by omega) (Nat.le_of_ble_eq_true rfl) (fun r_23_5 n_23_5 sh_23_5 I_23_5 L_23_5 R_23_5 hq_23_5 => ?_)
      obtain ⟨rfl, rfl, rfl, rfl, rfl, v_23_5, rfl, hv_23_5⟩ := hq_23_5
      refine V_goto (pc := 26) (tgt := 32) dX12_due_26 (by decide) ?_
      refine V_lret (pc := 32) rfl dX12_due_32 (by omega) (by omega) ?_
      refine ⟨rfl, rfl, rfl, rfl, rfl, ?_⟩
      refine ⟨_, rfl, ?_⟩
      unfold sDue
      rw [pIf_pos ⟨by assumption, by omega⟩]
      omega
    · have c_15_4 : ¬ (0 ≤ x_8_2.toInt ∧ x_8_2.toInt ≤ x_14_3.toInt) := c_15_4
      refine V_if_eq_t (pc := 18) (tgt := 29) dX12_due_18 (by decide) (by decide) ?_
      refine V_callS (pc := 29) (As := []) (st := []) (c_X12_lost G) mf_X12_lost ml_X12_104 st_X12_lost dX12_due_29 rfl rfl (by omega) (by omega) (by omega) (Nat.le_of_ble_eq_true rfl) (fun r_29_6 n_29_6 sh_29_6 I_29_6 L_29_6 R_29_6 hq_29_6 => ?_)
      obtain ⟨rfl, rfl, rfl, rfl, rfl, rfl⟩ := hq_29_6
      refine V_lret (pc := 32) rfl dX12_due_32 (by omega) (by omega) ?_
      refine ⟨rfl, rfl, rfl, rfl, rfl, ?_⟩
      refine ⟨_, rfl, ?_⟩
      unfold sDue
      rw [pIf_neg (fun z => by first | exact absurd z.1 (by assumption) | omega)]
      rfl
  · have c_1_1 := c_1_1
    refine V_if_eq_t (pc := 4) (tgt := 29) dX12_due_4 (by decide) (by decide) ?_
    refine V_callS (pc := 29) (As := []) (st := []) (c_X12_lost G) mf_X12_lost ml_X12_104 st_X12_lost dX12_due_29 rfl rfl (by omega) (by omega) (by omega) (Nat.le_of_ble_eq_true rfl) (fun r_29_7 n_29_7 sh_29_7 I_29_7 L_29_7 R_29_7 hq_29_7 => ?_)
    obtain ⟨rfl, rfl, rfl, rfl, rfl, rfl⟩ := hq_29_7
    refine V_lret (pc := 32) rfl dX12_due_32 (by omega) (by omega) ?_
    refine ⟨rfl, rfl, rfl, rfl, rfl, ?_⟩
    refine ⟨_, rfl, ?_⟩
    unfold sDue
    rw [pIf_neg (fun z => by first | exact absurd z.1 (by assumption) | omega)]
    rfl
set_option maxRecDepth 100000 in
set_option maxHeartbeats 4000000 in
theorem c_X12_errorAt (G : vG) {n : Nat} {sh : vS} {I : vI} {L : vL} {R : vR} (car c : Int32) (hw : WF n sh R) (hv : PV I) (h8 : 0 ≤ car.toInt ∧ car.toInt < 8) (hc : 0 ≤ c.toInt ∧ c.toInt < (I 27 30).toInt) : CT G yX12_errorAt cX12_errorAt 7 (some .long) 1 0 0 [.ref (ad G 27), .int car, .int c] n sh I L R (PI n sh L R (fun I' o => I = I' ∧ ∃ v : Int64, o = some (.long v) ∧ (v.toInt = errF I car.toInt c.toInt ∧ -2000000000000 ≤ v.toInt ∧ v.toInt ≤ 2000000000000))) := by
  refine CT_of (own := RX12) (ini := false) (lo := [(0, .ref (ad G 27)), (1, .int car), (2, .int c)]) mf_X12_errorAt (Nat.le_of_ble_eq_true rfl) rfl (fun h => by first | rfl | cases h) rfl ?_
  obtain ⟨h30, h27, h0e, hvv, hpl, hcks, htm, hst, hclk⟩ := id hv
  have htm1 := htm ((8 * car.toInt) + c.toInt).toNat
  have hst1 := hst car.toInt.toNat
  have hpl1 := hpl c.toInt.toNat (by omega)
  have hcf := carF_b I car.toInt c.toInt (I 27 30).toInt.toNat
  refine V_aload_n (pc := 0) 0 dX12_errorAt_0 rfl rfl ?_
  refine V_iload_n (pc := 1) 2 dX12_errorAt_1 rfl rfl ?_
  refine V_aload_n (pc := 2) 0 dX12_errorAt_2 rfl rfl ?_
  refine V_getR (pc := 3) (j := 54) fk_X12_89_12 (wR hw (i := 27) (k := 40) (j := 54) rfl) dX12_errorAt_3 (wN hw (by decide)) (wS1 hw (by decide) rfl) ?_
  refine V_bipush (pc := 6) (v := 8) dX12_errorAt_6 rfl ?_
  refine V_iload_n (pc := 8) 1 dX12_errorAt_8 rfl rfl ?_
  refine V_imul (pc := 9) dX12_errorAt_9 (fun x_9_1 e_9_1 => ?_)
  have t_9_1 : x_9_1.toInt = 8 * car.toInt := mulT e_9_1 rfl rfl (by omega) (by omega)
  refine V_iload_n (pc := 10) 2 dX12_errorAt_10 rfl rfl ?_
  refine V_iadd (pc := 11) dX12_errorAt_11 (fun x_11_2 e_11_2 => ?_)
  have t_11_2 : x_11_2.toInt = x_9_1.toInt + c.toInt := addT e_11_2 rfl rfl (by omega) (by omega)
  refine V_ia (pc := 12) (k := ((8 * car.toInt) + c.toInt).toNat) (v := (I 54 ((8 * car.toInt) + c.toInt).toNat)) rfl dX12_errorAt_12 (wN hw (by decide)) (wS hw (by decide) rfl) (by omega) (by omega) ?_
  refine V_i2l (pc := 13) dX12_errorAt_13 (fun x_13_3 e_13_3 => ?_)
  have t_13_3 : x_13_3.toInt = (I 54 ((8 * car.toInt) + c.toInt).toNat).toInt := i2lT e_13_3 rfl
  have b_13_3 := fb_rng (I 54 ((8 * car.toInt) + c.toInt).toNat)
  refine V_callV (pc := 14) (As := [.int c, .long x_13_3]) (st := []) (c_X12_rightAt G c x_13_3 (I 54 ((8 * car.toInt) + c.toInt).toNat).toInt hw (by omega) (by omega) (by first | assumption | exact hcks _ (by omega) (by omega)) (by omega)) mf_X12_rightAt ml_X12_234 iv_X12_rightAt (wN hw (by decide)) (wS1 hw (by decide) rfl) (by decide) rfl dX12_errorAt_14 rfl rfl (by omega) (by omega) (by omega) (Nat.le_of_ble_eq_true rfl) (fun r_14_4 n_14_4 sh_14_4 I_14_4 L_14_4 R_14_4 hq_14_4 => ?_)
  obtain ⟨rfl, rfl, rfl, rfl, rfl, v_14_4, rfl, hv_14_4⟩ := hq_14_4
  refine V_aload_n (pc := 17) 0 dX12_errorAt_17 rfl rfl ?_
  refine V_getR (pc := 18) (j := 51) fk_X12_80_12 (wR hw (i := 27) (k := 36) (j := 51) rfl) dX12_errorAt_18 (wN hw (by decide)) (wS1 hw (by decide) rfl) ?_
  refine V_iload_n (pc := 21) 1 dX12_errorAt_21 rfl rfl ?_
  refine V_ia (pc := 22) (k := car.toInt.toNat) (v := (I 51 car.toInt.toNat)) rfl dX12_errorAt_22 (wN hw (by decide)) (wS hw (by decide) rfl) (by omega) (by omega) ?_
  refine V_i2l (pc := 23) dX12_errorAt_23 (fun x_23_5 e_23_5 => ?_)
  have t_23_5 : x_23_5.toInt = (I 51 car.toInt.toNat).toInt := i2lT e_23_5 rfl
  have b_23_5 := fb_rng (I 51 car.toInt.toNat)
  refine V_lsub (pc := 24) dX12_errorAt_24 (fun x_24_6 e_24_6 => ?_)
  have t_24_6 : x_24_6.toInt = v_14_4.toInt - x_23_5.toInt := lsubT e_24_6 rfl rfl (by omega) (by omega)
  refine V_aload_n (pc := 25) 0 dX12_errorAt_25 rfl rfl ?_
  refine V_aload_n (pc := 26) 0 dX12_errorAt_26 rfl rfl ?_
  refine V_getR (pc := 27) (j := 47) fk_X12_68_12 (wR hw (i := 27) (k := 31) (j := 47) rfl) dX12_errorAt_27 (wN hw (by decide)) (wS1 hw (by decide) rfl) ?_
  refine V_iload_n (pc := 30) 2 dX12_errorAt_30 rfl rfl ?_
  refine V_ia (pc := 31) (k := c.toInt.toNat) (v := (I 47 c.toInt.toNat)) rfl dX12_errorAt_31 (wN hw (by decide)) (wS hw (by decide) rfl) (by omega) (by omega) ?_
  refine V_callV (pc := 32) (As := [.int (I 47 c.toInt.toNat)]) (st := [.long x_24_6]) (c_X12_dueAt G (I 47 c.toInt.toNat) hw (by first | assumption | omega) (by assumption) (by omega) (by assumption)) mf_X12_dueAt ml_X12_223 iv_X12_dueAt (wN hw (by decide)) (wS1 hw (by decide) rfl) (by decide) rfl dX12_errorAt_32 rfl rfl (by omega) (by omega) (by omega) (Nat.le_of_ble_eq_true rfl) (fun r_32_7 n_32_7 sh_32_7 I_32_7 L_32_7 R_32_7 hq_32_7 => ?_)
  obtain ⟨rfl, rfl, rfl, rfl, rfl, v_32_7, rfl, hv_32_7⟩ := hq_32_7
  refine V_lsub (pc := 35) dX12_errorAt_35 (fun x_35_8 e_35_8 => ?_)
  have t_35_8 : x_35_8.toInt = x_24_6.toInt - v_32_7.toInt := lsubT e_35_8 rfl rfl (by omega) (by omega)
  refine V_lstore_n (pc := 36) (lo' := [(0, .ref (ad G 27)), (1, .int car), (2, .int c), (3, .long x_35_8)]) dX12_errorAt_36 rfl (by decide) rfl ?_
  refine V_lload_n (pc := 37) 3 dX12_errorAt_37 rfl rfl ?_
  refine V_lconst (pc := 38) (v := 0) dX12_errorAt_38 rfl ?_
  refine V_lcmp (pc := 39) dX12_errorAt_39 (fun x_39_9 e_39_9 => ?_)
  refine V_if_gt (pc := 40) (tgt := 45) dX12_errorAt_40 (by decide) (fun c_39_9 => ?_) (fun c_39_9 => ?_)
  · have c_39_9 : 0 < x_35_8.toInt := (lcT_gt e_39_9).mp c_39_9
    refine V_lload_n (pc := 45) 3 dX12_errorAt_45 rfl rfl ?_
    refine V_aload_n (pc := 46) 0 dX12_errorAt_46 rfl rfl ?_
    refine V_iload_n (pc := 47) 1 dX12_errorAt_47 rfl rfl ?_
    refine V_iload_n (pc := 48) 2 dX12_errorAt_48 rfl rfl ?_
    refine V_callV (pc := 49) (As := [.int car, .int c]) (st := [.long x_35_8]) (c_X12_carried G car c hw (by assumption) (by omega) (by omega)) mf_X12_carried ml_X12_248 iv_X12_carried (wN hw (by decide)) (wS1 hw (by decide) rfl) (by decide) rfl dX12_errorAt_49 rfl rfl (by omega) (by omega) (by omega) (Nat.le_of_ble_eq_true rfl) (fun r_49_10 n_49_10 sh_49_10 I_49_10 L_49_10 R_49_10 hq_49_10 => ?_)
    obtain ⟨rfl, rfl, rfl, rfl, rfl, v_49_10, rfl, hv_49_10⟩ := hq_49_10
    refine V_lsub (pc := 52) dX12_errorAt_52 (fun x_52_11 e_52_11 => ?_)
    have t_52_11 : x_52_11.toInt = x_35_8.toInt - v_49_10.toInt := lsubT e_52_11 rfl rfl (by omega) (by omega)
    refine V_lstore (pc := 53) (lo' := [(0, .ref (ad G 27)), (1, .int car), (2, .int c), (3, .long x_35_8), (5, .long x_52_11)]) dX12_errorAt_53 (by decide) rfl ?_
    refine V_lload (pc := 55) 4 dX12_errorAt_55 rfl ?_
    refine V_lconst (pc := 57) (v := 0) dX12_errorAt_57 rfl ?_
    refine V_lcmp (pc := 58) dX12_errorAt_58 (fun x_58_12 e_58_12 => ?_)
    refine V_if_le (pc := 59) (tgt := 67) dX12_errorAt_59 (by decide) (fun c_58_12 => ?_) (fun c_58_12 => ?_)
    · have c_58_12 : x_52_11.toInt ≤ 0 := (lcT_le e_58_12).mp c_58_12
      refine V_lconst (pc := 67) (v := 0) dX12_errorAt_67 rfl ?_
      refine V_lret (pc := 68) rfl dX12_errorAt_68 (by omega) (by omega) ?_
      refine ⟨rfl, rfl, rfl, rfl, rfl, ?_⟩
      refine ⟨_, rfl, ?_⟩
      have e9 : errE I car.toInt c.toInt = x_35_8.toInt := by unfold errE; omega
      unfold errF
      rw [e9]
      (repeat' split) <;> first | omega | (show (0 : Int) = _ ∧ -2000000000000 ≤ (0 : Int) ∧ (0 : Int) ≤ 2000000000000; omega)
    · have c_58_12 : 0 < x_52_11.toInt := (lcT_gt e_58_12).mp c_58_12
      refine V_lload (pc := 62) 4 dX12_errorAt_62 rfl ?_
      refine V_goto (pc := 64) (tgt := 68) dX12_errorAt_64 (by decide) ?_
      refine V_lret (pc := 68) rfl dX12_errorAt_68 (by omega) (by omega) ?_
      refine ⟨rfl, rfl, rfl, rfl, rfl, ?_⟩
      refine ⟨_, rfl, ?_⟩
      have e9 : errE I car.toInt c.toInt = x_35_8.toInt := by unfold errE; omega
      unfold errF
      rw [e9]
      (repeat' split) <;> first | omega | (show (0 : Int) = _ ∧ -2000000000000 ≤ (0 : Int) ∧ (0 : Int) ≤ 2000000000000; omega)
  · have c_39_9 : x_35_8.toInt ≤ 0 := (lcT_le e_39_9).mp c_39_9
    refine V_lload_n (pc := 43) 3 dX12_errorAt_43 rfl rfl ?_
    refine V_lret (pc := 44) rfl dX12_errorAt_44 (by omega) (by omega) ?_
    refine ⟨rfl, rfl, rfl, rfl, rfl, ?_⟩
    refine ⟨_, rfl, ?_⟩
    have e9 : errE I car.toInt c.toInt = x_35_8.toInt := by unfold errE; omega
    unfold errF
    rw [e9]
    (repeat' split) <;> first | omega | (show (0 : Int) = _ ∧ -2000000000000 ≤ (0 : Int) ∧ (0 : Int) ≤ 2000000000000; omega)
set_option maxRecDepth 100000 in
set_option maxHeartbeats 4000000 in
theorem c_X12_error (G : vG) {n : Nat} {sh : vS} {I : vI} {L : vL} {R : vR} (car c : Int32) (hw : WF n sh R) (h27 : 0 ≤ (I 27 27).toInt ∧ (I 27 27).toInt ≤ 8) (h30 : 0 ≤ (I 27 30).toInt ∧ (I 27 30).toInt ≤ 8) (h35 : 0 ≤ (I 27 35).toInt ∧ (I 27 35).toInt ≤ 8) (hpv : hasDueP I → PV I) (hcl : ∀ i, 0 ≤ (I 53 i).toInt) : CT G yX12_error cX12_error 3 (some .long) 2 0 0 [.ref (ad G 27), .int car, .int c] n sh I L R (PI n sh L R (fun I' o => I = I' ∧ ∃ v : Int64, o = some (.long v) ∧ v.toInt = sError I car c)) := by
  refine CT_of (own := RX12) (ini := false) (lo := [(0, .ref (ad G 27)), (1, .int car), (2, .int c)]) mf_X12_error (Nat.le_of_ble_eq_true rfl) rfl (fun h => by first | rfl | cases h) rfl ?_
  refine V_aload_n (pc := 0) 0 dX12_error_0 rfl rfl ?_
  refine V_iload_n (pc := 1) 1 dX12_error_1 rfl rfl ?_
  refine V_callV (pc := 2) (As := [.int car]) (st := []) (c_X12_noCar G car hw h35.1) mf_X12_noCar ml_X12_243 iv_X12_noCar (wN hw (by decide)) (wS1 hw (by decide) rfl) (by decide) rfl dX12_error_2 rfl rfl (by omega) (by omega) (by omega) (Nat.le_of_ble_eq_true rfl) (fun r_2_1 n_2_1 sh_2_1 I_2_1 L_2_1 R_2_1 hq_2_1 => ?_)
  obtain ⟨rfl, rfl, rfl, rfl, rfl, hq_2_1⟩ := hq_2_1
  rcases hq_2_1 with ⟨c_2_1, rfl⟩ | ⟨c_2_1, rfl⟩
  · have c_2_1 : ¬ (0 ≤ car.toInt ∧ car.toInt < (I 27 35).toInt) := c_2_1
    refine V_if_ne_t (pc := 5) (tgt := 37) dX12_error_5 (by decide) (by decide) ?_
    refine V_callS (pc := 37) (As := []) (st := []) (c_X12_lost G) mf_X12_lost ml_X12_104 st_X12_lost dX12_error_37 rfl rfl (by omega) (by omega) (by omega) (Nat.le_of_ble_eq_true rfl) (fun r_37_2 n_37_2 sh_37_2 I_37_2 L_37_2 R_37_2 hq_37_2 => ?_)
    obtain ⟨rfl, rfl, rfl, rfl, rfl, rfl⟩ := hq_37_2
    refine V_goto (pc := 40) (tgt := 49) dX12_error_40 (by decide) ?_
    refine V_lret (pc := 49) rfl dX12_error_49 (by omega) (by omega) ?_
    refine ⟨rfl, rfl, rfl, rfl, rfl, ?_⟩
    refine ⟨_, rfl, ?_⟩
    unfold sError isCar isCtl
    rw [pIf_neg (fun z => by first | exact absurd z.2.2.2 (by assumption) | omega)]
    rfl
  · have c_2_1 : ¬ (¬ (0 ≤ car.toInt ∧ car.toInt < (I 27 35).toInt)) := c_2_1
    refine V_if_ne_f (pc := 5) (tgt := 37) dX12_error_5 (by decide) (by decide) ?_
    refine V_aload_n (pc := 8) 0 dX12_error_8 rfl rfl ?_
    refine V_iload_n (pc := 9) 2 dX12_error_9 rfl rfl ?_
    refine V_callV (pc := 10) (As := [.int c]) (st := []) (c_X12_noControl G c hw h30.1) mf_X12_noControl ml_X12_228 iv_X12_noControl (wN hw (by decide)) (wS1 hw (by decide) rfl) (by decide) rfl dX12_error_10 rfl rfl (by omega) (by omega) (by omega) (Nat.le_of_ble_eq_true rfl) (fun r_10_3 n_10_3 sh_10_3 I_10_3 L_10_3 R_10_3 hq_10_3 => ?_)
    obtain ⟨rfl, rfl, rfl, rfl, rfl, hq_10_3⟩ := hq_10_3
    rcases hq_10_3 with ⟨c_10_3, rfl⟩ | ⟨c_10_3, rfl⟩
    · have c_10_3 : ¬ (0 ≤ c.toInt ∧ c.toInt < (I 27 30).toInt) := c_10_3
      refine V_if_ne_t (pc := 13) (tgt := 37) dX12_error_13 (by decide) (by decide) ?_
      refine V_callS (pc := 37) (As := []) (st := []) (c_X12_lost G) mf_X12_lost ml_X12_104 st_X12_lost dX12_error_37 rfl rfl (by omega) (by omega) (by omega) (Nat.le_of_ble_eq_true rfl) (fun r_37_4 n_37_4 sh_37_4 I_37_4 L_37_4 R_37_4 hq_37_4 => ?_)
      obtain ⟨rfl, rfl, rfl, rfl, rfl, rfl⟩ := hq_37_4
      refine V_goto (pc := 40) (tgt := 49) dX12_error_40 (by decide) ?_
      refine V_lret (pc := 49) rfl dX12_error_49 (by omega) (by omega) ?_
      refine ⟨rfl, rfl, rfl, rfl, rfl, ?_⟩
      refine ⟨_, rfl, ?_⟩
      unfold sError isCar isCtl
      rw [pIf_neg (fun z => by first | exact absurd z.2.2.2 (by assumption) | omega)]
      rfl
    · have c_10_3 : ¬ (¬ (0 ≤ c.toInt ∧ c.toInt < (I 27 30).toInt)) := c_10_3
      refine V_if_ne_f (pc := 13) (tgt := 37) dX12_error_13 (by decide) (by decide) ?_
      refine V_aload_n (pc := 16) 0 dX12_error_16 rfl rfl ?_
      refine V_getR (pc := 17) (j := 53) fk_X12_86_12 (wR hw (i := 27) (k := 39) (j := 53) rfl) dX12_error_17 (wN hw (by decide)) (wS1 hw (by decide) rfl) ?_
      refine V_bipush (pc := 20) (v := 8) dX12_error_20 rfl ?_
      refine V_iload_n (pc := 22) 1 dX12_error_22 rfl rfl ?_
      refine V_imul (pc := 23) dX12_error_23 (fun x_23_5 e_23_5 => ?_)
      have t_23_5 : x_23_5.toInt = 8 * car.toInt := mulT e_23_5 rfl rfl (by omega) (by omega)
      refine V_iload_n (pc := 24) 2 dX12_error_24 rfl rfl ?_
      refine V_iadd (pc := 25) dX12_error_25 (fun x_25_6 e_25_6 => ?_)
      have t_25_6 : x_25_6.toInt = x_23_5.toInt + c.toInt := addT e_25_6 rfl rfl (by omega) (by omega)
      refine V_ia (pc := 26) (k := ((8 * car.toInt) + c.toInt).toNat) (v := (I 53 ((8 * car.toInt) + c.toInt).toNat)) rfl dX12_error_26 (wN hw (by decide)) (wS hw (by decide) rfl) (by omega) (by omega) ?_
      refine V_if_eq (pc := 27) (tgt := 37) dX12_error_27 (by decide) (fun c_27_7 => ?_) (fun c_27_7 => ?_)
      · have c_27_7 : (I 53 ((8 * car.toInt) + c.toInt).toNat).toInt = 0 := c_27_7
        refine V_callS (pc := 37) (As := []) (st := []) (c_X12_lost G) mf_X12_lost ml_X12_104 st_X12_lost dX12_error_37 rfl rfl (by omega) (by omega) (by omega) (Nat.le_of_ble_eq_true rfl) (fun r_37_8 n_37_8 sh_37_8 I_37_8 L_37_8 R_37_8 hq_37_8 => ?_)
        obtain ⟨rfl, rfl, rfl, rfl, rfl, rfl⟩ := hq_37_8
        refine V_goto (pc := 40) (tgt := 49) dX12_error_40 (by decide) ?_
        refine V_lret (pc := 49) rfl dX12_error_49 (by omega) (by omega) ?_
        refine ⟨rfl, rfl, rfl, rfl, rfl, ?_⟩
        refine ⟨_, rfl, ?_⟩
        unfold sError isCar isCtl
        rw [pIf_neg (fun z => by first | exact absurd z.2.2.2 (by assumption) | omega)]
        rfl
      · have c_27_7 : (I 53 ((8 * car.toInt) + c.toInt).toNat).toInt ≠ 0 := c_27_7
        refine V_aload_n (pc := 30) 0 dX12_error_30 rfl rfl ?_
        refine V_callV (pc := 31) (As := []) (st := []) (c_X12_hasDue G hw (by assumption)) mf_X12_hasDue ml_X12_220 iv_X12_hasDue (wN hw (by decide)) (wS1 hw (by decide) rfl) (by decide) rfl dX12_error_31 rfl rfl (by omega) (by omega) (by omega) (Nat.le_of_ble_eq_true rfl) (fun r_31_9 n_31_9 sh_31_9 I_31_9 L_31_9 R_31_9 hq_31_9 => ?_)
        obtain ⟨rfl, rfl, rfl, rfl, rfl, hq_31_9⟩ := hq_31_9
        rcases hq_31_9 with ⟨c_31_9, rfl⟩ | ⟨c_31_9, rfl⟩
        · have c_31_9 := c_31_9
          refine V_if_ne_t (pc := 34) (tgt := 43) dX12_error_34 (by decide) (by decide) ?_
          refine V_aload_n (pc := 43) 0 dX12_error_43 rfl rfl ?_
          refine V_iload_n (pc := 44) 1 dX12_error_44 rfl rfl ?_
          refine V_iload_n (pc := 45) 2 dX12_error_45 rfl rfl ?_
          refine V_callV (pc := 46) (As := [.int car, .int c]) (st := []) (c_X12_errorAt G car c hw (hpv (by assumption)) (by omega) (by omega)) mf_X12_errorAt ml_X12_252 iv_X12_errorAt (wN hw (by decide)) (wS1 hw (by decide) rfl) (by decide) rfl dX12_error_46 rfl rfl (by omega) (by omega) (by omega) (Nat.le_of_ble_eq_true rfl) (fun r_46_10 n_46_10 sh_46_10 I_46_10 L_46_10 R_46_10 hq_46_10 => ?_)
          obtain ⟨rfl, rfl, rfl, rfl, rfl, v_46_10, rfl, hv_46_10⟩ := hq_46_10
          refine V_lret (pc := 49) rfl dX12_error_49 (by omega) (by omega) ?_
          refine ⟨rfl, rfl, rfl, rfl, rfl, ?_⟩
          refine ⟨_, rfl, ?_⟩
          unfold sError isCar isCtl
          rw [pIf_pos ⟨by omega, by omega, by omega, by assumption⟩]
          omega
        · have c_31_9 := c_31_9
          refine V_if_ne_f (pc := 34) (tgt := 43) dX12_error_34 (by decide) (by decide) ?_
          refine V_callS (pc := 37) (As := []) (st := []) (c_X12_lost G) mf_X12_lost ml_X12_104 st_X12_lost dX12_error_37 rfl rfl (by omega) (by omega) (by omega) (Nat.le_of_ble_eq_true rfl) (fun r_37_11 n_37_11 sh_37_11 I_37_11 L_37_11 R_37_11 hq_37_11 => ?_)
          obtain ⟨rfl, rfl, rfl, rfl, rfl, rfl⟩ := hq_37_11
          refine V_goto (pc := 40) (tgt := 49) dX12_error_40 (by decide) ?_
          refine V_lret (pc := 49) rfl dX12_error_49 (by omega) (by omega) ?_
          refine ⟨rfl, rfl, rfl, rfl, rfl, ?_⟩
          refine ⟨_, rfl, ?_⟩
          unfold sError isCar isCtl
          rw [pIf_neg (fun z => by first | exact absurd z.2.2.2 (by assumption) | omega)]
          rfl
