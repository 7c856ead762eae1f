set_option maxRecDepth 100000 in
set_option maxHeartbeats 4000000 in
theorem l_X12_sheet (G : vG) {n : Nat} {sh : vS} {I : vI} {L : vL} {R : vR} (k l m0 : Int32) (hw : WF n sh R) (hk0 : 0 ≤ k.toInt ∧ k.toInt ≤ 3) (hl : isLane l) (hm0 : 0 ≤ m0.toInt ∧ m0.toInt ≤ 32) : ∀ (f m : Nat) (x : Int32) (J : vI) (hm : (m : Int) ≤ m0.toInt) (hx : x.toInt = (m : Int)) (hJ : J = cpF (up2 (up2 I 34 k.toInt.toNat m0) 35 k.toInt.toNat l) 36 (32 * k.toInt) (fun _ => 0) m) (hf : m0.toInt < (m : Int) + f), V G RX12 cX12_sheet (some .int) false 2 0 0 5 (PI n sh L R (qi (sSheet I k l m0))) 65 [(0, .ref (ad G 27)), (1, .int k), (2, .int l), (3, .int m0), (4, .int x)] [] 0 0 n sh J L R := by
  intro f
  induction f with
  | zero => intro m x J hm hx hJ hf; omega
  | succ f ih =>
    intro m x J hm hx hJ hf
    unfold isLane at hl
    refine V_iload (pc := 65) 4 dX12_sheet_65 rfl ?_
    refine V_iload_n (pc := 67) 3 dX12_sheet_67 rfl rfl ?_
    refine V_icmp_ge (pc := 68) (tgt := 90) dX12_sheet_68 (by decide) (fun c_68_1 => ?_) (fun c_68_1 => ?_)
    · have c_68_1 : m0.toInt ≤ x.toInt := c_68_1
      refine V_aload_n (pc := 90) 0 dX12_sheet_90 rfl rfl ?_
      refine V_iconst (pc := 91) (v := 1) dX12_sheet_91 rfl ?_
      refine V_callV (pc := 92) (As := [.int 1]) (st := []) (c_X12_refused G 1 hw) mf_X12_refused ml_X12_128 iv_X12_refused (wN hw (by decide)) (wS1 hw (by decide) rfl) (by decide) rfl dX12_sheet_92 rfl rfl (by omega) (by omega) (by omega) (Nat.le_of_ble_eq_true rfl) (fun r_92_2 n_92_2 sh_92_2 I_92_2 L_92_2 R_92_2 hq_92_2 => ?_)
      obtain ⟨rfl, rfl, rfl, rfl, rfl, rfl⟩ := hq_92_2
      refine V_iret (pc := 95) rfl rfl dX12_sheet_95 (by omega) (by omega) ?_
      have e1 : m0.toInt.toNat = m := by omega
      refine ⟨rfl, rfl, rfl, rfl, _, ?_, rfl⟩
      unfold sSheet
      rw [if_neg (by unfold isSheet; omega), if_neg (by omega), if_neg (by omega), e1, ← hJ]
    · have c_68_1 : x.toInt < m0.toInt := c_68_1
      refine V_aload_n (pc := 71) 0 dX12_sheet_71 rfl rfl ?_
      refine V_getR (pc := 72) (j := 36) fk_X12_35_12 (wR hw (i := 27) (k := 10) (j := 36) rfl) dX12_sheet_72 (wN hw (by decide)) (wS1 hw (by decide) rfl) ?_
      refine V_bipush (pc := 75) (v := 32) dX12_sheet_75 rfl ?_
      refine V_iload_n (pc := 77) 1 dX12_sheet_77 rfl rfl ?_
      refine V_imul (pc := 78) dX12_sheet_78 (fun x_78_3 e_78_3 => ?_)
      have t_78_3 : x_78_3.toInt = 32 * k.toInt := mulT e_78_3 rfl rfl (by omega) (by omega)
      refine V_iload (pc := 79) 4 dX12_sheet_79 rfl ?_
      refine V_iadd (pc := 81) dX12_sheet_81 (fun x_81_4 e_81_4 => ?_)
      have t_81_4 : x_81_4.toInt = x_78_3.toInt + x.toInt := addT e_81_4 rfl rfl (by omega) (by omega)
      refine V_iconst (pc := 82) (v := 0) dX12_sheet_82 rfl ?_
      refine V_iask (pc := 83) (k := ((32 * k.toInt) + (m : Int)).toNat) dX12_sheet_83 (wN hw (by decide)) (wS hw (by decide) rfl) (by omega) (by omega) ?_
      obtain ⟨x_84_5, e_84_5⟩ : ∃ y : Int32, y = x + (1) := ⟨_, rfl⟩
      have t_84_5 : x_84_5.toInt = x.toInt + 1 := addT e_84_5 rfl rfl (by omega) (by omega)
      refine V_iinc (pc := 84) (v := x_84_5) (lo' := [(0, .ref (ad G 27)), (1, .int k), (2, .int l), (3, .int m0), (4, .int x_84_5)]) 4 dX12_sheet_84 rfl e_84_5.symm (by decide) rfl ?_
      refine V_goto (pc := 87) (tgt := 65) dX12_sheet_87 (by decide) ?_
      exact ih (m + 1) x_84_5 _ (by omega) (by omega) (by rw [hJ]; rfl) (by omega)
set_option maxRecDepth 100000 in
set_option maxHeartbeats 4000000 in
theorem c_X12_sheet (G : vG) {n : Nat} {sh : vS} {I : vI} {L : vL} {R : vR} (k l m0 : Int32) (hw : WF n sh R) : CT G yX12_sheet cX12_sheet 5 (some .int) 2 0 0 [.ref (ad G 27), .int k, .int l, .int m0] n sh I L R (PI n sh L R (qi (sSheet I k l m0))) := by
  refine CT_of (own := RX12) (ini := false) (lo := [(0, .ref (ad G 27)), (1, .int k), (2, .int l), (3, .int m0)]) mf_X12_sheet (Nat.le_of_ble_eq_true rfl) rfl (fun h => by first | rfl | cases h) rfl ?_
  refine V_iload_n (pc := 0) 1 dX12_sheet_0 rfl rfl ?_
  refine V_callS (pc := 1) (As := [.int k]) (st := []) (c_X12_noSheet G k) mf_X12_noSheet ml_X12_137 st_X12_noSheet dX12_sheet_1 rfl rfl (by omega) (by omega) (by omega) (Nat.le_of_ble_eq_true rfl) (fun r_1_1 n_1_1 sh_1_1 I_1_1 L_1_1 R_1_1 hq_1_1 => ?_)
  obtain ⟨rfl, rfl, rfl, rfl, rfl, hq_1_1⟩ := hq_1_1
  rcases hq_1_1 with ⟨c_1_1, rfl⟩ | ⟨c_1_1, rfl⟩
  · have c_1_1 : ¬ (0 ≤ k.toInt ∧ k.toInt ≤ 3) := c_1_1
    refine V_if_eq_f (pc := 4) (tgt := 13) dX12_sheet_4 (by decide) (by decide) ?_
    refine V_aload_n (pc := 7) 0 dX12_sheet_7 rfl rfl ?_
    refine V_iconst (pc := 8) (v := (-1)) dX12_sheet_8 rfl ?_
    refine V_callV (pc := 9) (As := [.int (-1)]) (st := []) (c_X12_refused G (-1) hw) mf_X12_refused ml_X12_128 iv_X12_refused (wN hw (by decide)) (wS1 hw (by decide) rfl) (by decide) rfl dX12_sheet_9 rfl rfl (by omega) (by omega) (by omega) (Nat.le_of_ble_eq_true rfl) (fun r_9_2 n_9_2 sh_9_2 I_9_2 L_9_2 R_9_2 hq_9_2 => ?_)
    obtain ⟨rfl, rfl, rfl, rfl, rfl, rfl⟩ := hq_9_2
    refine V_iret (pc := 12) rfl rfl dX12_sheet_12 (by omega) (by omega) ?_
    subst_vars
    refine ⟨rfl, rfl, rfl, rfl, _, ?_, rfl⟩
    unfold sSheet isSheet isLane
    (repeat' split) <;> first | rfl | (exfalso; omega)
  · have c_1_1 : ¬ (¬ (0 ≤ k.toInt ∧ k.toInt ≤ 3)) := c_1_1
    refine V_if_eq_t (pc := 4) (tgt := 13) dX12_sheet_4 (by decide) (by decide) ?_
    refine V_iload_n (pc := 13) 2 dX12_sheet_13 rfl rfl ?_
    refine V_i2l (pc := 14) dX12_sheet_14 (fun x_14_3 e_14_3 => ?_)
    have t_14_3 : x_14_3.toInt = l.toInt := i2lT e_14_3 rfl
    have b_14_3 := fb_rng l
    refine V_lconst (pc := 15) (v := 0) dX12_sheet_15 rfl ?_
    refine V_ldc2 (pc := 16) dX12_sheet_16 kk_X12_123 ?_
    refine V_callS (pc := 19) (As := [.long x_14_3, .long 0, .long 2]) (st := []) (c_X12_in G x_14_3 0 2) mf_X12_in ml_X12_111 st_X12_in dX12_sheet_19 rfl rfl (by omega) (by omega) (by omega) (Nat.le_of_ble_eq_true rfl) (fun r_19_4 n_19_4 sh_19_4 I_19_4 L_19_4 R_19_4 hq_19_4 => ?_)
    obtain ⟨rfl, rfl, rfl, rfl, rfl, hq_19_4⟩ := hq_19_4
    rcases hq_19_4 with ⟨c_19_4, rfl⟩ | ⟨c_19_4, rfl⟩
    · have c_19_4 : 0 ≤ x_14_3.toInt ∧ x_14_3.toInt ≤ 2 := c_19_4
      refine V_if_eq_f (pc := 22) (tgt := 31) dX12_sheet_22 (by decide) (by decide) ?_
      refine V_iload_n (pc := 25) 3 dX12_sheet_25 rfl rfl ?_
      refine V_bipush (pc := 26) (v := 32) dX12_sheet_26 rfl ?_
      refine V_icmp_le (pc := 28) (tgt := 38) dX12_sheet_28 (by decide) (fun c_28_5 => ?_) (fun c_28_5 => ?_)
      · have c_28_5 : m0.toInt ≤ 32 := c_28_5
        refine V_iload_n (pc := 38) 3 dX12_sheet_38 rfl rfl ?_
        refine V_if_ge (pc := 39) (tgt := 48) dX12_sheet_39 (by decide) (fun c_39_6 => ?_) (fun c_39_6 => ?_)
        · have c_39_6 : 0 ≤ m0.toInt := c_39_6
          refine V_aload_n (pc := 48) 0 dX12_sheet_48 rfl rfl ?_
          refine V_getR (pc := 49) (j := 34) fk_X12_29_12 (wR hw (i := 27) (k := 8) (j := 34) rfl) dX12_sheet_49 (wN hw (by decide)) (wS1 hw (by decide) rfl) ?_
          refine V_iload_n (pc := 52) 1 dX12_sheet_52 rfl rfl ?_
          refine V_iload_n (pc := 53) 3 dX12_sheet_53 rfl rfl ?_
          refine V_iask (pc := 54) (k := k.toInt.toNat) dX12_sheet_54 (wN hw (by decide)) (wS hw (by decide) rfl) (by omega) (by omega) ?_
          refine V_aload_n (pc := 55) 0 dX12_sheet_55 rfl rfl ?_
          refine V_getR (pc := 56) (j := 35) fk_X12_32_12 (wR hw (i := 27) (k := 9) (j := 35) rfl) dX12_sheet_56 (wN hw (by decide)) (wS1 hw (by decide) rfl) ?_
          refine V_iload_n (pc := 59) 1 dX12_sheet_59 rfl rfl ?_
          refine V_iload_n (pc := 60) 2 dX12_sheet_60 rfl rfl ?_
          refine V_iask (pc := 61) (k := k.toInt.toNat) dX12_sheet_61 (wN hw (by decide)) (wS hw (by decide) rfl) (by omega) (by omega) ?_
          refine V_iconst (pc := 62) (v := 0) dX12_sheet_62 rfl ?_
          refine V_istore (pc := 63) (lo' := [(0, .ref (ad G 27)), (1, .int k), (2, .int l), (3, .int m0), (4, .int 0)]) dX12_sheet_63 (by decide) rfl ?_
          exact l_X12_sheet G k l m0 hw (by omega) (by unfold isLane; omega) (by omega) (m0.toInt.toNat + 1) 0 0 _ (by omega) rfl rfl (by omega)
        · have c_39_6 : m0.toInt < 0 := c_39_6
          refine V_aload_n (pc := 42) 0 dX12_sheet_42 rfl rfl ?_
          refine V_iconst (pc := 43) (v := 4) dX12_sheet_43 rfl ?_
          refine V_callV (pc := 44) (As := [.int 4]) (st := []) (c_X12_failed G 4 hw) mf_X12_failed ml_X12_132 iv_X12_failed (wN hw (by decide)) (wS1 hw (by decide) rfl) (by decide) rfl dX12_sheet_44 rfl rfl (by omega) (by omega) (by omega) (Nat.le_of_ble_eq_true rfl) (fun r_44_7 n_44_7 sh_44_7 I_44_7 L_44_7 R_44_7 hq_44_7 => ?_)
          obtain ⟨rfl, rfl, rfl, rfl, rfl, rfl⟩ := hq_44_7
          refine V_iret (pc := 47) rfl rfl dX12_sheet_47 (by omega) (by omega) ?_
          subst_vars
          refine ⟨rfl, rfl, rfl, rfl, _, ?_, rfl⟩
          unfold sSheet isSheet isLane
          (repeat' split) <;> first | rfl | (exfalso; omega)
      · have c_28_5 : 32 < m0.toInt := c_28_5
        refine V_aload_n (pc := 31) 0 dX12_sheet_31 rfl rfl ?_
        refine V_bipush (pc := 32) (v := (-2)) dX12_sheet_32 rfl ?_
        refine V_callV (pc := 34) (As := [.int (-2)]) (st := []) (c_X12_refused G (-2) hw) mf_X12_refused ml_X12_128 iv_X12_refused (wN hw (by decide)) (wS1 hw (by decide) rfl) (by decide) rfl dX12_sheet_34 rfl rfl (by omega) (by omega) (by omega) (Nat.le_of_ble_eq_true rfl) (fun r_34_8 n_34_8 sh_34_8 I_34_8 L_34_8 R_34_8 hq_34_8 => ?_)
        obtain ⟨rfl, rfl, rfl, rfl, rfl, rfl⟩ := hq_34_8
        refine V_iret (pc := 37) rfl rfl dX12_sheet_37 (by omega) (by omega) ?_
        subst_vars
        refine ⟨rfl, rfl, rfl, rfl, _, ?_, rfl⟩
        unfold sSheet isSheet isLane
        (repeat' split) <;> first | rfl | (exfalso; omega)
    · have c_19_4 : ¬ (0 ≤ x_14_3.toInt ∧ x_14_3.toInt ≤ 2) := c_19_4
      refine V_if_eq_t (pc := 22) (tgt := 31) dX12_sheet_22 (by decide) (by decide) ?_
      refine V_aload_n (pc := 31) 0 dX12_sheet_31 rfl rfl ?_
      refine V_bipush (pc := 32) (v := (-2)) dX12_sheet_32 rfl ?_
      refine V_callV (pc := 34) (As := [.int (-2)]) (st := []) (c_X12_refused G (-2) hw) mf_X12_refused ml_X12_128 iv_X12_refused (wN hw (by decide)) (wS1 hw (by decide) rfl) (by decide) rfl dX12_sheet_34 rfl rfl (by omega) (by omega) (by omega) (Nat.le_of_ble_eq_true rfl) (fun r_34_9 n_34_9 sh_34_9 I_34_9 L_34_9 R_34_9 hq_34_9 => ?_)
      obtain ⟨rfl, rfl, rfl, rfl, rfl, rfl⟩ := hq_34_9
      refine V_iret (pc := 37) rfl rfl dX12_sheet_37 (by omega) (by omega) ?_
      subst_vars
      refine ⟨rfl, rfl, rfl, rfl, _, ?_, rfl⟩
      unfold sSheet isSheet isLane
      (repeat' split) <;> first | rfl | (exfalso; omega)
set_option maxRecDepth 100000 in
set_option maxHeartbeats 4000000 in
theorem l_X12_isBook (G : vG) {n : Nat} {sh : vS} {I : vI} {L : vL} {R : vR} (k i m0 : Int32) (Q M : Int) (hw : WF n sh R) (hQ : (32 * k.toInt) + i.toInt = Q) (hM : m0.toInt = M) (hk0 : 0 ≤ k.toInt ∧ k.toInt ≤ 3) (hi : 0 ≤ i.toInt) (hm0 : 0 ≤ m0.toInt ∧ i.toInt + m0.toInt ≤ 32) : ∀ (f m : Nat) (x : Int32) (g : Int32) (hm : (m : Int) ≤ m0.toInt) (hx : x.toInt = (m : Int)) (hg : bkI I Q M g m) (hf : m0.toInt < (m : Int) + f), V G RX12 cX12_isBook (some .boolean) false 2 0 0 7 (PI n sh L R (fun I' o => I = I' ∧ rb o (bookP I Q M))) 16 [(0, .ref (ad G 27)), (1, .int k), (2, .int i), (3, .int m0), (4, .int g), (5, .int x)] [] 0 0 n sh I L R := by
  intro f
  induction f with
  | zero => intro m x g hm hx hg hf; omega
  | succ f ih =>
    intro m x g hm hx hg hf
    refine V_iload (pc := 16) 5 dX12_isBook_16 rfl ?_
    refine V_iload_n (pc := 18) 3 dX12_isBook_18 rfl rfl ?_
    refine V_icmp_ge (pc := 19) (tgt := 90) dX12_isBook_19 (by decide) (fun c_19_1 => ?_) (fun c_19_1 => ?_)
    · have c_19_1 : m0.toInt ≤ x.toInt := c_19_1
      refine V_iload (pc := 90) 4 dX12_isBook_90 rfl ?_
      refine V_iret (pc := 92) rfl (nbool (by rcases hg with ⟨q, -⟩ | ⟨q, -⟩ <;> omega)) dX12_isBook_92 (by omega) (by omega) ?_
      refine ⟨rfl, rfl, rfl, rfl, rfl, ?_⟩
      exact bkI_e hg (by omega)
    · have c_19_1 : x.toInt < m0.toInt := c_19_1
      refine V_iload (pc := 22) 4 dX12_isBook_22 rfl ?_
      refine V_if_eq (pc := 24) (tgt := 90) dX12_isBook_24 (by decide) (fun c_24_2 => ?_) (fun c_24_2 => ?_)
      · have c_24_2 : g.toInt = 0 := c_24_2
        refine V_iload (pc := 90) 4 dX12_isBook_90 rfl ?_
        refine V_iret (pc := 92) rfl (nbool (by rcases hg with ⟨q, -⟩ | ⟨q, -⟩ <;> omega)) dX12_isBook_92 (by omega) (by omega) ?_
        refine ⟨rfl, rfl, rfl, rfl, rfl, ?_⟩
        exact bkI_e hg (by omega)
      · have c_24_2 : g.toInt ≠ 0 := c_24_2
        refine V_aload_n (pc := 27) 0 dX12_isBook_27 rfl rfl ?_
        refine V_getR (pc := 28) (j := 36) fk_X12_35_12 (wR hw (i := 27) (k := 10) (j := 36) rfl) dX12_isBook_28 (wN hw (by decide)) (wS1 hw (by decide) rfl) ?_
        refine V_bipush (pc := 31) (v := 32) dX12_isBook_31 rfl ?_
        refine V_iload_n (pc := 33) 1 dX12_isBook_33 rfl rfl ?_
        refine V_imul (pc := 34) dX12_isBook_34 (fun x_34_3 e_34_3 => ?_)
        have t_34_3 : x_34_3.toInt = 32 * k.toInt := mulT e_34_3 rfl rfl (by omega) (by omega)
        refine V_iload_n (pc := 35) 2 dX12_isBook_35 rfl rfl ?_
        refine V_iadd (pc := 36) dX12_isBook_36 (fun x_36_4 e_36_4 => ?_)
        have t_36_4 : x_36_4.toInt = x_34_3.toInt + i.toInt := addT e_36_4 rfl rfl (by omega) (by omega)
        refine V_iload (pc := 37) 5 dX12_isBook_37 rfl ?_
        refine V_iadd (pc := 39) dX12_isBook_39 (fun x_39_5 e_39_5 => ?_)
        have t_39_5 : x_39_5.toInt = x_36_4.toInt + x.toInt := addT e_39_5 rfl rfl (by omega) (by omega)
        refine V_ia (pc := 40) (k := (((32 * k.toInt) + i.toInt) + (m : Int)).toNat) (v := (I 36 (((32 * k.toInt) + i.toInt) + (m : Int)).toNat)) rfl dX12_isBook_40 (wN hw (by decide)) (wS hw (by decide) rfl) (by omega) (by omega) ?_
        refine V_istore (pc := 41) (lo' := [(0, .ref (ad G 27)), (1, .int k), (2, .int i), (3, .int m0), (4, .int g), (5, .int x), (6, .int (I 36 (((32 * k.toInt) + i.toInt) + (m : Int)).toNat))]) dX12_isBook_41 (by decide) rfl ?_
        refine V_iload (pc := 43) 6 dX12_isBook_43 rfl ?_
        refine V_callS (pc := 45) (As := [.int (I 36 (((32 * k.toInt) + i.toInt) + (m : Int)).toNat)]) (st := []) (c_X12_isSpot G (I 36 (((32 * k.toInt) + i.toInt) + (m : Int)).toNat)) mf_X12_isSpot ml_X12_117 st_X12_isSpot dX12_isBook_45 rfl rfl (by omega) (by omega) (by omega) (Nat.le_of_ble_eq_true rfl) (fun r_45_6 n_45_6 sh_45_6 I_45_6 L_45_6 R_45_6 hq_45_6 => ?_)
        obtain ⟨rfl, rfl, rfl, rfl, rfl, hq_45_6⟩ := hq_45_6
        rcases hq_45_6 with ⟨c_45_6, rfl⟩ | ⟨c_45_6, rfl⟩
        · have c_45_6 : 0 ≤ (I 36 (((32 * k.toInt) + i.toInt) + (m : Int)).toNat).toInt ∧ (I 36 (((32 * k.toInt) + i.toInt) + (m : Int)).toNat).toInt ≤ 9 := c_45_6
          refine V_if_eq_f (pc := 48) (tgt := 81) dX12_isBook_48 (by decide) (by decide) ?_
          refine V_iload (pc := 51) 5 dX12_isBook_51 rfl ?_
          refine V_if_eq (pc := 53) (tgt := 77) dX12_isBook_53 (by decide) (fun c_53_7 => ?_) (fun c_53_7 => ?_)
          · have c_53_7 : x.toInt = 0 := c_53_7
            refine V_iconst (pc := 77) (v := 1) dX12_isBook_77 rfl ?_
            refine V_goto (pc := 78) (tgt := 82) dX12_isBook_78 (by decide) ?_
            refine V_istore (pc := 82) (lo' := [(0, .ref (ad G 27)), (1, .int k), (2, .int i), (3, .int m0), (4, .int 1), (5, .int x), (6, .int (I 36 (((32 * k.toInt) + i.toInt) + (m : Int)).toNat))]) dX12_isBook_82 (by decide) rfl ?_
            obtain ⟨x_84_8, e_84_8⟩ : ∃ y : Int32, y = x + (1) := ⟨_, rfl⟩
            have t_84_8 : x_84_8.toInt = x.toInt + 1 := addT e_84_8 rfl rfl (by omega) (by omega)
            refine V_iinc (pc := 84) (v := x_84_8) (lo' := [(0, .ref (ad G 27)), (1, .int k), (2, .int i), (3, .int m0), (4, .int 1), (5, .int x_84_8), (6, .int (I 36 (((32 * k.toInt) + i.toInt) + (m : Int)).toNat))]) 5 dX12_isBook_84 rfl e_84_8.symm (by decide) rfl ?_
            refine V_goto (pc := 87) (tgt := 16) dX12_isBook_87 (by decide) ?_
            refine V_lo (pc := 16) (lo' := [(0, .ref (ad G 27)), (1, .int k), (2, .int i), (3, .int m0), (4, .int 1), (5, .int x_84_8)]) [0, 1, 2, 3, 4, 5] rfl ?_
            exact ih (m + 1) x_84_8 1 (by omega) (by omega) (bkI_s hg (by omega) (by subst hQ; exact ⟨by omega, by first | (left; omega) | (right; omega)⟩)) (by omega)
          · have c_53_7 : x.toInt ≠ 0 := c_53_7
            refine V_aload_n (pc := 56) 0 dX12_isBook_56 rfl rfl ?_
            refine V_getR (pc := 57) (j := 36) fk_X12_35_12 (wR hw (i := 27) (k := 10) (j := 36) rfl) dX12_isBook_57 (wN hw (by decide)) (wS1 hw (by decide) rfl) ?_
            refine V_bipush (pc := 60) (v := 32) dX12_isBook_60 rfl ?_
            refine V_iload_n (pc := 62) 1 dX12_isBook_62 rfl rfl ?_
            refine V_imul (pc := 63) dX12_isBook_63 (fun x_63_9 e_63_9 => ?_)
            have t_63_9 : x_63_9.toInt = 32 * k.toInt := mulT e_63_9 rfl rfl (by omega) (by omega)
            refine V_iload_n (pc := 64) 2 dX12_isBook_64 rfl rfl ?_
            refine V_iadd (pc := 65) dX12_isBook_65 (fun x_65_10 e_65_10 => ?_)
            have t_65_10 : x_65_10.toInt = x_63_9.toInt + i.toInt := addT e_65_10 rfl rfl (by omega) (by omega)
            refine V_iload (pc := 66) 5 dX12_isBook_66 rfl ?_
            refine V_iadd (pc := 68) dX12_isBook_68 (fun x_68_11 e_68_11 => ?_)
            have t_68_11 : x_68_11.toInt = x_65_10.toInt + x.toInt := addT e_68_11 rfl rfl (by omega) (by omega)
            refine V_iconst (pc := 69) (v := 1) dX12_isBook_69 rfl ?_
            refine V_isub (pc := 70) dX12_isBook_70 (fun x_70_12 e_70_12 => ?_)
            have t_70_12 : x_70_12.toInt = x_68_11.toInt - 1 := subT e_70_12 rfl rfl (by omega) (by omega)
            refine V_ia (pc := 71) (k := ((((32 * k.toInt) + i.toInt) + (m : Int)) - 1).toNat) (v := (I 36 ((((32 * k.toInt) + i.toInt) + (m : Int)) - 1).toNat)) rfl dX12_isBook_71 (wN hw (by decide)) (wS hw (by decide) rfl) (by omega) (by omega) ?_
            refine V_iload (pc := 72) 6 dX12_isBook_72 rfl ?_
            refine V_icmp_eq (pc := 74) (tgt := 81) dX12_isBook_74 (by decide) (fun c_74_13 => ?_) (fun c_74_13 => ?_)
            · have c_74_13 : (I 36 ((((32 * k.toInt) + i.toInt) + (m : Int)) - 1).toNat).toInt = (I 36 (((32 * k.toInt) + i.toInt) + (m : Int)).toNat).toInt := c_74_13
              refine V_iconst (pc := 81) (v := 0) dX12_isBook_81 rfl ?_
              refine V_istore (pc := 82) (lo' := [(0, .ref (ad G 27)), (1, .int k), (2, .int i), (3, .int m0), (4, .int 0), (5, .int x), (6, .int (I 36 (((32 * k.toInt) + i.toInt) + (m : Int)).toNat))]) dX12_isBook_82 (by decide) rfl ?_
              obtain ⟨x_84_14, e_84_14⟩ : ∃ y : Int32, y = x + (1) := ⟨_, rfl⟩
              have t_84_14 : x_84_14.toInt = x.toInt + 1 := addT e_84_14 rfl rfl (by omega) (by omega)
              refine V_iinc (pc := 84) (v := x_84_14) (lo' := [(0, .ref (ad G 27)), (1, .int k), (2, .int i), (3, .int m0), (4, .int 0), (5, .int x_84_14), (6, .int (I 36 (((32 * k.toInt) + i.toInt) + (m : Int)).toNat))]) 5 dX12_isBook_84 rfl e_84_14.symm (by decide) rfl ?_
              refine V_goto (pc := 87) (tgt := 16) dX12_isBook_87 (by decide) ?_
              refine V_lo (pc := 16) (lo' := [(0, .ref (ad G 27)), (1, .int k), (2, .int i), (3, .int m0), (4, .int 0), (5, .int x_84_14)]) [0, 1, 2, 3, 4, 5] rfl ?_
              exact ih (m + 1) x_84_14 0 (by omega) (by omega) (bkI_f (by omega) (by subst hQ; rintro ⟨z1, z2⟩; rcases z2 with z2 | z2 <;> omega)) (by omega)
            · have c_74_13 : (I 36 ((((32 * k.toInt) + i.toInt) + (m : Int)) - 1).toNat).toInt ≠ (I 36 (((32 * k.toInt) + i.toInt) + (m : Int)).toNat).toInt := c_74_13
              refine V_iconst (pc := 77) (v := 1) dX12_isBook_77 rfl ?_
              refine V_goto (pc := 78) (tgt := 82) dX12_isBook_78 (by decide) ?_
              refine V_istore (pc := 82) (lo' := [(0, .ref (ad G 27)), (1, .int k), (2, .int i), (3, .int m0), (4, .int 1), (5, .int x), (6, .int (I 36 (((32 * k.toInt) + i.toInt) + (m : Int)).toNat))]) dX12_isBook_82 (by decide) rfl ?_
              obtain ⟨x_84_15, e_84_15⟩ : ∃ y : Int32, y = x + (1) := ⟨_, rfl⟩
              have t_84_15 : x_84_15.toInt = x.toInt + 1 := addT e_84_15 rfl rfl (by omega) (by omega)
              refine V_iinc (pc := 84) (v := x_84_15) (lo' := [(0, .ref (ad G 27)), (1, .int k), (2, .int i), (3, .int m0), (4, .int 1), (5, .int x_84_15), (6, .int (I 36 (((32 * k.toInt) + i.toInt) + (m : Int)).toNat))]) 5 dX12_isBook_84 rfl e_84_15.symm (by decide) rfl ?_
              refine V_goto (pc := 87) (tgt := 16) dX12_isBook_87 (by decide) ?_
              refine V_lo (pc := 16) (lo' := [(0, .ref (ad G 27)), (1, .int k), (2, .int i), (3, .int m0), (4, .int 1), (5, .int x_84_15)]) [0, 1, 2, 3, 4, 5] rfl ?_
              exact ih (m + 1) x_84_15 1 (by omega) (by omega) (bkI_s hg (by omega) (by subst hQ; exact ⟨by omega, by first | (left; omega) | (right; omega)⟩)) (by omega)
        · have c_45_6 : ¬ (0 ≤ (I 36 (((32 * k.toInt) + i.toInt) + (m : Int)).toNat).toInt ∧ (I 36 (((32 * k.toInt) + i.toInt) + (m : Int)).toNat).toInt ≤ 9) := c_45_6
          refine V_if_eq_t (pc := 48) (tgt := 81) dX12_isBook_48 (by decide) (by decide) ?_
          refine V_iconst (pc := 81) (v := 0) dX12_isBook_81 rfl ?_
          refine V_istore (pc := 82) (lo' := [(0, .ref (ad G 27)), (1, .int k), (2, .int i), (3, .int m0), (4, .int 0), (5, .int x), (6, .int (I 36 (((32 * k.toInt) + i.toInt) + (m : Int)).toNat))]) dX12_isBook_82 (by decide) rfl ?_
          obtain ⟨x_84_16, e_84_16⟩ : ∃ y : Int32, y = x + (1) := ⟨_, rfl⟩
          have t_84_16 : x_84_16.toInt = x.toInt + 1 := addT e_84_16 rfl rfl (by omega) (by omega)
          refine V_iinc (pc := 84) (v := x_84_16) (lo' := [(0, .ref (ad G 27)), (1, .int k), (2, .int i), (3, .int m0), (4, .int 0), (5, .int x_84_16), (6, .int (I 36 (((32 * k.toInt) + i.toInt) + (m : Int)).toNat))]) 5 dX12_isBook_84 rfl e_84_16.symm (by decide) rfl ?_
          refine V_goto (pc := 87) (tgt := 16) dX12_isBook_87 (by decide) ?_
          refine V_lo (pc := 16) (lo' := [(0, .ref (ad G 27)), (1, .int k), (2, .int i), (3, .int m0), (4, .int 0), (5, .int x_84_16)]) [0, 1, 2, 3, 4, 5] rfl ?_
          exact ih (m + 1) x_84_16 0 (by omega) (by omega) (bkI_f (by omega) (by subst hQ; rintro ⟨z1, z2⟩; rcases z2 with z2 | z2 <;> omega)) (by omega)
set_option maxRecDepth 100000 in
set_option maxHeartbeats 4000000 in
theorem c_X12_isBook (G : vG) {n : Nat} {sh : vS} {I : vI} {L : vL} {R : vR} (k i m0 : Int32) (Q M : Int) (hw : WF n sh R) (hQ : (32 * k.toInt) + i.toInt = Q) (hM : m0.toInt = M) (hk0 : 0 ≤ k.toInt ∧ k.toInt ≤ 3) (hi : 0 ≤ i.toInt) (hm0 : 0 ≤ m0.toInt ∧ i.toInt + m0.toInt ≤ 32) : CT G yX12_isBook cX12_isBook 7 (some .boolean) 2 0 0 [.ref (ad G 27), .int k, .int i, .int m0] n sh I L R (PI n sh L R (fun I' o => I = I' ∧ rb o (bookP I Q M))) := by
  refine CT_of (own := RX12) (ini := false) (lo := [(0, .ref (ad G 27)), (1, .int k), (2, .int i), (3, .int m0)]) mf_X12_isBook (Nat.le_of_ble_eq_true rfl) rfl (fun h => by first | rfl | cases h) rfl ?_
  refine V_iload_n (pc := 0) 3 dX12_isBook_0 rfl rfl ?_
  refine V_i2l (pc := 1) dX12_isBook_1 (fun x_1_1 e_1_1 => ?_)
  have t_1_1 : x_1_1.toInt = m0.toInt := i2lT e_1_1 rfl
  have b_1_1 := fb_rng m0
  refine V_ldc2 (pc := 2) dX12_isBook_2 kk_X12_123 ?_
  refine V_ldc2 (pc := 5) dX12_isBook_5 kk_X12_152 ?_
  refine V_callS (pc := 8) (As := [.long x_1_1, .long 2, .long 8]) (st := []) (c_X12_in G x_1_1 2 8) mf_X12_in ml_X12_111 st_X12_in dX12_isBook_8 rfl rfl (by omega) (by omega) (by omega) (Nat.le_of_ble_eq_true rfl) (fun r_8_2 n_8_2 sh_8_2 I_8_2 L_8_2 R_8_2 hq_8_2 => ?_)
  obtain ⟨rfl, rfl, rfl, rfl, rfl, hq_8_2⟩ := hq_8_2
  rcases hq_8_2 with ⟨c_8_2, rfl⟩ | ⟨c_8_2, rfl⟩
  · have c_8_2 : 2 ≤ x_1_1.toInt ∧ x_1_1.toInt ≤ 8 := c_8_2
    refine V_istore (pc := 11) (lo' := [(0, .ref (ad G 27)), (1, .int k), (2, .int i), (3, .int m0), (4, .int 1)]) dX12_isBook_11 (by decide) rfl ?_
    refine V_iconst (pc := 13) (v := 0) dX12_isBook_13 rfl ?_
    refine V_istore (pc := 14) (lo' := [(0, .ref (ad G 27)), (1, .int k), (2, .int i), (3, .int m0), (4, .int 1), (5, .int 0)]) dX12_isBook_14 (by decide) rfl ?_
    exact l_X12_isBook G k i m0 Q M hw hQ hM hk0 hi hm0 (m0.toInt.toNat + 1) 0 0 1 (by omega) rfl (Or.inl ⟨rfl, by omega, fun y h => absurd h (Nat.not_lt_zero y)⟩) (by omega)
  · have c_8_2 : ¬ (2 ≤ x_1_1.toInt ∧ x_1_1.toInt ≤ 8) := c_8_2
    refine V_istore (pc := 11) (lo' := [(0, .ref (ad G 27)), (1, .int k), (2, .int i), (3, .int m0), (4, .int 0)]) dX12_isBook_11 (by decide) rfl ?_
    refine V_iconst (pc := 13) (v := 0) dX12_isBook_13 rfl ?_
    refine V_istore (pc := 14) (lo' := [(0, .ref (ad G 27)), (1, .int k), (2, .int i), (3, .int m0), (4, .int 0), (5, .int 0)]) dX12_isBook_14 (by decide) rfl ?_
    exact l_X12_isBook G k i m0 Q M hw hQ hM hk0 hi hm0 (m0.toInt.toNat + 1) 0 0 0 (by omega) rfl (Or.inr ⟨rfl, fun z => by have := z.1; omega⟩) (by omega)
set_option maxRecDepth 100000 in
set_option maxHeartbeats 4000000 in
theorem l_X12_book (G : vG) {n : Nat} {sh : vS} {I : vI} {L : vL} {R : vR} (k l i m0 : Int32) (hw : WF n sh R) (hk0 : 0 ≤ k.toInt ∧ k.toInt ≤ 3) (hl : isLane l) (hft : ¬ 0 < (faultF I k l i m0).toInt) (hb : bookP I ((32 * k.toInt) + i.toInt) m0.toInt) (hi : 0 ≤ i.toInt ∧ i.toInt + m0.toInt ≤ 32) : ∀ (f m : Nat) (x : Int32) (J : vI) (hm : (m : Int) ≤ m0.toInt) (hx : x.toInt = (m : Int)) (hJ : J = cpF (up2 I 27 12 m0) 38 0 (fun x => I 36 (((32 * k.toInt) + i.toInt) + (x : Int)).toNat) m) (hf : m0.toInt < (m : Int) + f), V G RX12 cX12_book (some .int) false 3 0 0 7 (PI n sh L R (qi (sBook I k l i m0))) 82 [(0, .ref (ad G 27)), (1, .int k), (2, .int l), (3, .int i), (4, .int m0), (6, .int x)] [] 0 0 n sh J L R := by
  intro f
  induction f with
  | zero => intro m x J hm hx hJ hf; omega
  | succ f ih =>
    intro m x J hm hx hJ hf
    unfold isLane at hl
    have hb1 := hb.1
    refine V_iload (pc := 82) 5 dX12_book_82 rfl ?_
    refine V_iload (pc := 84) 4 dX12_book_84 rfl ?_
    refine V_icmp_ge (pc := 86) (tgt := 116) dX12_book_86 (by decide) (fun c_86_1 => ?_) (fun c_86_1 => ?_)
    · have c_86_1 : m0.toInt ≤ x.toInt := c_86_1
      refine V_aload_n (pc := 116) 0 dX12_book_116 rfl rfl ?_
      refine V_iload (pc := 117) 4 dX12_book_117 rfl ?_
      refine V_callV (pc := 119) (As := [.int m0]) (st := []) (c_X12_refused G m0 hw) mf_X12_refused ml_X12_128 iv_X12_refused (wN hw (by decide)) (wS1 hw (by decide) rfl) (by decide) rfl dX12_book_119 rfl rfl (by omega) (by omega) (by omega) (Nat.le_of_ble_eq_true rfl) (fun r_119_2 n_119_2 sh_119_2 I_119_2 L_119_2 R_119_2 hq_119_2 => ?_)
      obtain ⟨rfl, rfl, rfl, rfl, rfl, rfl⟩ := hq_119_2
      refine V_iret (pc := 122) rfl rfl dX12_book_122 (by omega) (by omega) ?_
      have e1 : m0.toInt.toNat = m := by omega
      refine ⟨rfl, rfl, rfl, rfl, _, ?_, rfl⟩
      unfold sBook
      rw [if_neg (by unfold isSheet; omega), if_neg (by omega), if_neg hft, bIf_pos hb, e1, ← hJ]
    · have c_86_1 : x.toInt < m0.toInt := c_86_1
      refine V_aload_n (pc := 89) 0 dX12_book_89 rfl rfl ?_
      refine V_getR (pc := 90) (j := 38) fk_X12_41_12 (wR hw (i := 27) (k := 13) (j := 38) rfl) dX12_book_90 (wN hw (by decide)) (wS1 hw (by decide) rfl) ?_
      refine V_iload (pc := 93) 5 dX12_book_93 rfl ?_
      refine V_aload_n (pc := 95) 0 dX12_book_95 rfl rfl ?_
      refine V_getR (pc := 96) (j := 36) fk_X12_35_12 (wR hw (i := 27) (k := 10) (j := 36) rfl) dX12_book_96 (wN hw (by decide)) (wS1 hw (by decide) rfl) ?_
      refine V_bipush (pc := 99) (v := 32) dX12_book_99 rfl ?_
      refine V_iload_n (pc := 101) 1 dX12_book_101 rfl rfl ?_
      refine V_imul (pc := 102) dX12_book_102 (fun x_102_3 e_102_3 => ?_)
      have t_102_3 : x_102_3.toInt = 32 * k.toInt := mulT e_102_3 rfl rfl (by omega) (by omega)
      refine V_iload_n (pc := 103) 3 dX12_book_103 rfl rfl ?_
      refine V_iadd (pc := 104) dX12_book_104 (fun x_104_4 e_104_4 => ?_)
      have t_104_4 : x_104_4.toInt = x_102_3.toInt + i.toInt := addT e_104_4 rfl rfl (by omega) (by omega)
      refine V_iload (pc := 105) 5 dX12_book_105 rfl ?_
      refine V_iadd (pc := 107) dX12_book_107 (fun x_107_5 e_107_5 => ?_)
      have t_107_5 : x_107_5.toInt = x_104_4.toInt + x.toInt := addT e_107_5 rfl rfl (by omega) (by omega)
      refine V_ia (pc := 108) (k := (((32 * k.toInt) + i.toInt) + (m : Int)).toNat) (v := (J 36 (((32 * k.toInt) + i.toInt) + (m : Int)).toNat)) rfl dX12_book_108 (wN hw (by decide)) (wS hw (by decide) rfl) (by omega) (by omega) ?_
      refine V_iask (pc := 109) (k := m) dX12_book_109 (wN hw (by decide)) (wS hw (by decide) rfl) hx (by omega) ?_
      obtain ⟨x_110_6, e_110_6⟩ : ∃ y : Int32, y = x + (1) := ⟨_, rfl⟩
      have t_110_6 : x_110_6.toInt = x.toInt + 1 := addT e_110_6 rfl rfl (by omega) (by omega)
      refine V_iinc (pc := 110) (v := x_110_6) (lo' := [(0, .ref (ad G 27)), (1, .int k), (2, .int l), (3, .int i), (4, .int m0), (6, .int x_110_6)]) 5 dX12_book_110 rfl e_110_6.symm (by decide) rfl ?_
      refine V_goto (pc := 113) (tgt := 82) dX12_book_113 (by decide) ?_
      exact ih (m + 1) x_110_6 _ (by omega) (by omega) (by subst hJ; show _ = up2 (cpF _ _ _ _ m) 38 _ _; rw [cpF_o (by decide)]; simp [up2]) (by omega)
set_option maxRecDepth 100000 in
set_option maxHeartbeats 4000000 in
theorem c_X12_book (G : vG) {n : Nat} {sh : vS} {I : vI} {L : vL} {R : vR} (k l i m0 : Int32) (hw : WF n sh R) (hs : ∀ k, k < 4 → -1 ≤ (I 34 k).toInt ∧ (I 34 k).toInt ≤ 32) : CT G yX12_book cX12_book 7 (some .int) 3 0 0 [.ref (ad G 27), .int k, .int l, .int i, .int m0] n sh I L R (PI n sh L R (qi (sBook I k l i m0))) := by
  refine CT_of (own := RX12) (ini := false) (lo := [(0, .ref (ad G 27)), (1, .int k), (2, .int l), (3, .int i), (4, .int m0)]) mf_X12_book (Nat.le_of_ble_eq_true rfl) rfl (fun h => by first | rfl | cases h) rfl ?_
  have hft := fault_5 I k l i m0
  have hz : 0 ≤ k.toInt → k.toInt ≤ 3 → -1 ≤ (I 34 k.toInt.toNat).toInt ∧ (I 34 k.toInt.toNat).toInt ≤ 32 := fun _ _ => hs _ (by omega)
  refine V_iload_n (pc := 0) 1 dX12_book_0 rfl rfl ?_
  refine V_callS (pc := 1) (As := [.int k]) (st := []) (c_X12_noSheet G k) mf_X12_noSheet ml_X12_137 st_X12_noSheet dX12_book_1 rfl rfl (by omega) (by omega) (by omega) (Nat.le_of_ble_eq_true rfl) (fun r_1_1 n_1_1 sh_1_1 I_1_1 L_1_1 R_1_1 hq_1_1 => ?_)
  obtain ⟨rfl, rfl, rfl, rfl, rfl, hq_1_1⟩ := hq_1_1
  rcases hq_1_1 with ⟨c_1_1, rfl⟩ | ⟨c_1_1, rfl⟩
  · have c_1_1 : ¬ (0 ≤ k.toInt ∧ k.toInt ≤ 3) := c_1_1
    refine V_if_eq_f (pc := 4) (tgt := 13) dX12_book_4 (by decide) (by decide) ?_
    refine V_aload_n (pc := 7) 0 dX12_book_7 rfl rfl ?_
    refine V_iconst (pc := 8) (v := (-1)) dX12_book_8 rfl ?_
    refine V_callV (pc := 9) (As := [.int (-1)]) (st := []) (c_X12_refused G (-1) hw) mf_X12_refused ml_X12_128 iv_X12_refused (wN hw (by decide)) (wS1 hw (by decide) rfl) (by decide) rfl dX12_book_9 rfl rfl (by omega) (by omega) (by omega) (Nat.le_of_ble_eq_true rfl) (fun r_9_2 n_9_2 sh_9_2 I_9_2 L_9_2 R_9_2 hq_9_2 => ?_)
    obtain ⟨rfl, rfl, rfl, rfl, rfl, rfl⟩ := hq_9_2
    refine V_iret (pc := 12) rfl rfl dX12_book_12 (by omega) (by omega) ?_
    subst_vars
    refine ⟨rfl, rfl, rfl, rfl, _, ?_, rfl⟩
    unfold sBook isSheet isLane
    rw [if_pos (by omega)]
  · have c_1_1 : ¬ (¬ (0 ≤ k.toInt ∧ k.toInt ≤ 3)) := c_1_1
    refine V_if_eq_t (pc := 4) (tgt := 13) dX12_book_4 (by decide) (by decide) ?_
    refine V_iload_n (pc := 13) 2 dX12_book_13 rfl rfl ?_
    refine V_i2l (pc := 14) dX12_book_14 (fun x_14_3 e_14_3 => ?_)
    have t_14_3 : x_14_3.toInt = l.toInt := i2lT e_14_3 rfl
    have b_14_3 := fb_rng l
    refine V_lconst (pc := 15) (v := 0) dX12_book_15 rfl ?_
    refine V_ldc2 (pc := 16) dX12_book_16 kk_X12_123 ?_
    refine V_callS (pc := 19) (As := [.long x_14_3, .long 0, .long 2]) (st := []) (c_X12_in G x_14_3 0 2) mf_X12_in ml_X12_111 st_X12_in dX12_book_19 rfl rfl (by omega) (by omega) (by omega) (Nat.le_of_ble_eq_true rfl) (fun r_19_4 n_19_4 sh_19_4 I_19_4 L_19_4 R_19_4 hq_19_4 => ?_)
    obtain ⟨rfl, rfl, rfl, rfl, rfl, hq_19_4⟩ := hq_19_4
    rcases hq_19_4 with ⟨c_19_4, rfl⟩ | ⟨c_19_4, rfl⟩
    · have c_19_4 : 0 ≤ x_14_3.toInt ∧ x_14_3.toInt ≤ 2 := c_19_4
      refine V_if_ne_t (pc := 22) (tgt := 32) dX12_book_22 (by decide) (by decide) ?_
      refine V_aload_n (pc := 32) 0 dX12_book_32 rfl rfl ?_
      refine V_iload_n (pc := 33) 1 dX12_book_33 rfl rfl ?_
      refine V_iload_n (pc := 34) 2 dX12_book_34 rfl rfl ?_
      refine V_iload_n (pc := 35) 3 dX12_book_35 rfl rfl ?_
      refine V_iload (pc := 36) 4 dX12_book_36 rfl ?_
      refine V_callV (pc := 38) (As := [.int k, .int l, .int i, .int m0]) (st := []) (c_X12_faultOf G I k l i m0 hw (fun _ => rfl) (fun _ => rfl) (by omega)) mf_X12_faultOf ml_X12_154 iv_X12_faultOf (wN hw (by decide)) (wS1 hw (by decide) rfl) (by decide) rfl dX12_book_38 rfl rfl (by omega) (by omega) (by omega) (Nat.le_of_ble_eq_true rfl) (fun r_38_5 n_38_5 sh_38_5 I_38_5 L_38_5 R_38_5 hq_38_5 => ?_)
      obtain ⟨rfl, rfl, rfl, rfl, rfl, rfl⟩ := hq_38_5
      refine V_istore (pc := 41) (lo' := [(0, .ref (ad G 27)), (1, .int k), (2, .int l), (3, .int i), (4, .int m0), (5, .int (faultF I k l i m0))]) dX12_book_41 (by decide) rfl ?_
      refine V_iload (pc := 43) 5 dX12_book_43 rfl ?_
      refine V_if_le (pc := 45) (tgt := 55) dX12_book_45 (by decide) (fun c_45_6 => ?_) (fun c_45_6 => ?_)
      · have c_45_6 : (faultF I k l i m0).toInt ≤ 0 := c_45_6
        refine V_aload_n (pc := 55) 0 dX12_book_55 rfl rfl ?_
        refine V_iload_n (pc := 56) 1 dX12_book_56 rfl rfl ?_
        refine V_iload_n (pc := 57) 3 dX12_book_57 rfl rfl ?_
        refine V_iload (pc := 58) 4 dX12_book_58 rfl ?_
        refine V_callV (pc := 60) (As := [.int k, .int i, .int m0]) (st := []) (c_X12_isBook G k i m0 _ _ hw rfl rfl (by omega) (by omega) (by omega)) mf_X12_isBook ml_X12_158 iv_X12_isBook (wN hw (by decide)) (wS1 hw (by decide) rfl) (by decide) rfl dX12_book_60 rfl rfl (by omega) (by omega) (by omega) (Nat.le_of_ble_eq_true rfl) (fun r_60_7 n_60_7 sh_60_7 I_60_7 L_60_7 R_60_7 hq_60_7 => ?_)
        obtain ⟨rfl, rfl, rfl, rfl, rfl, hq_60_7⟩ := hq_60_7
        rcases hq_60_7 with ⟨c_60_7, rfl⟩ | ⟨c_60_7, rfl⟩
        · have c_60_7 : bookP I ((32 * k.toInt) + i.toInt) m0.toInt := c_60_7
          refine V_if_ne_t (pc := 63) (tgt := 73) dX12_book_63 (by decide) (by decide) ?_
          refine V_aload_n (pc := 73) 0 dX12_book_73 rfl rfl ?_
          refine V_iload (pc := 74) 4 dX12_book_74 rfl ?_
          refine V_putI (pc := 76) fw_X12_161_12 rfl rfl dX12_book_76 (wN hw (by decide)) (wS1 hw (by decide) rfl) ?_
          refine V_iconst (pc := 79) (v := 0) dX12_book_79 rfl ?_
          refine V_istore (pc := 80) (lo' := [(0, .ref (ad G 27)), (1, .int k), (2, .int l), (3, .int i), (4, .int m0), (5, .int (faultF I k l i m0)), (6, .int 0)]) dX12_book_80 (by decide) rfl ?_
          refine V_lo (pc := 82) (lo' := [(0, .ref (ad G 27)), (1, .int k), (2, .int l), (3, .int i), (4, .int m0), (6, .int 0)]) [0, 1, 2, 3, 4, 6] rfl ?_
          exact l_X12_book G k l i m0 hw (by omega) (by unfold isLane; omega) (by omega) (by assumption) (by omega) (m0.toInt.toNat + 1) 0 0 _ (by omega) rfl rfl (by omega)
        · have c_60_7 : ¬ (bookP I ((32 * k.toInt) + i.toInt) m0.toInt) := c_60_7
          refine V_if_ne_f (pc := 63) (tgt := 73) dX12_book_63 (by decide) (by decide) ?_
          refine V_aload_n (pc := 66) 0 dX12_book_66 rfl rfl ?_
          refine V_bipush (pc := 67) (v := (-2)) dX12_book_67 rfl ?_
          refine V_callV (pc := 69) (As := [.int (-2)]) (st := []) (c_X12_refused G (-2) hw) mf_X12_refused ml_X12_128 iv_X12_refused (wN hw (by decide)) (wS1 hw (by decide) rfl) (by decide) rfl dX12_book_69 rfl rfl (by omega) (by omega) (by omega) (Nat.le_of_ble_eq_true rfl) (fun r_69_8 n_69_8 sh_69_8 I_69_8 L_69_8 R_69_8 hq_69_8 => ?_)
          obtain ⟨rfl, rfl, rfl, rfl, rfl, rfl⟩ := hq_69_8
          refine V_iret (pc := 72) rfl rfl dX12_book_72 (by omega) (by omega) ?_
          subst_vars
          refine ⟨rfl, rfl, rfl, rfl, _, ?_, rfl⟩
          unfold sBook isSheet isLane
          rw [if_neg (by omega), if_neg (by omega), if_neg (by omega), bIf_neg (by assumption)]
      · have c_45_6 : 0 < (faultF I k l i m0).toInt := c_45_6
        refine V_aload_n (pc := 48) 0 dX12_book_48 rfl rfl ?_
        refine V_iload (pc := 49) 5 dX12_book_49 rfl ?_
        refine V_callV (pc := 51) (As := [.int (faultF I k l i m0)]) (st := []) (c_X12_failed G (faultF I k l i m0) hw) mf_X12_failed ml_X12_132 iv_X12_failed (wN hw (by decide)) (wS1 hw (by decide) rfl) (by decide) rfl dX12_book_51 rfl rfl (by omega) (by omega) (by omega) (Nat.le_of_ble_eq_true rfl) (fun r_51_9 n_51_9 sh_51_9 I_51_9 L_51_9 R_51_9 hq_51_9 => ?_)
        obtain ⟨rfl, rfl, rfl, rfl, rfl, rfl⟩ := hq_51_9
        refine V_iret (pc := 54) rfl rfl dX12_book_54 (by omega) (by omega) ?_
        subst_vars
        refine ⟨rfl, rfl, rfl, rfl, _, ?_, rfl⟩
        unfold sBook isSheet isLane
        rw [if_neg (by omega), if_neg (by omega), if_pos (by omega)]
    · have c_19_4 : ¬ (0 ≤ x_14_3.toInt ∧ x_14_3.toInt ≤ 2) := c_19_4
      refine V_if_ne_f (pc := 22) (tgt := 32) dX12_book_22 (by decide) (by decide) ?_
      refine V_aload_n (pc := 25) 0 dX12_book_25 rfl rfl ?_
      refine V_bipush (pc := 26) (v := (-2)) dX12_book_26 rfl ?_
      refine V_callV (pc := 28) (As := [.int (-2)]) (st := []) (c_X12_refused G (-2) hw) mf_X12_refused ml_X12_128 iv_X12_refused (wN hw (by decide)) (wS1 hw (by decide) rfl) (by decide) rfl dX12_book_28 rfl rfl (by omega) (by omega) (by omega) (Nat.le_of_ble_eq_true rfl) (fun r_28_10 n_28_10 sh_28_10 I_28_10 L_28_10 R_28_10 hq_28_10 => ?_)
      obtain ⟨rfl, rfl, rfl, rfl, rfl, rfl⟩ := hq_28_10
      refine V_iret (pc := 31) rfl rfl dX12_book_31 (by omega) (by omega) ?_
      subst_vars
      refine ⟨rfl, rfl, rfl, rfl, _, ?_, rfl⟩
      unfold sBook isSheet isLane
      rw [if_neg (by omega), if_pos (by omega)]
