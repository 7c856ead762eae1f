set_option maxRecDepth 100000 in
set_option maxHeartbeats 4000000 in
theorem l_X12_control (G : vG) {n : Nat} {sh : vS} {I : vI} {L : vL} {R : vR} (p : Int32) (hw : WF n sh R) (h30 : 0 ≤ (I 27 30).toInt ∧ (I 27 30).toInt ≤ 8) (h0 : (I 27 24).toInt ≠ 0) (hp : 1 ≤ p.toInt ∧ p.toInt ≤ (I 27 25).toInt) : ∀ (f m : Nat) (k : Int32) (hm : (m : Int) ≤ (I 27 30).toInt) (hk : k.toInt = (m : Int)) (he : exE (I 47) p.toInt m = false) (hf : (I 27 30).toInt < (m : Int) + f), V G RX12 cX12_control (some .int) false 1 0 0 3 (PI n sh L R (qi (sControl I p))) 29 [(0, .ref (ad G 27)), (1, .int p), (2, .int k)] [] 0 0 n sh I L R := by
  intro f
  induction f with
  | zero => intro m k hm hk he hf; omega
  | succ f ih =>
    intro m k hm hk he hf
    refine V_iload_n (pc := 29) 2 dX12_control_29 rfl rfl ?_
    refine V_aload_n (pc := 30) 0 dX12_control_30 rfl rfl ?_
    refine V_gI (pc := 31) (v := (I 27 30)) rfl fk_X12_199_12 dX12_control_31 (wN hw (by decide)) (wS1 hw (by decide) rfl) ?_
    refine V_icmp_ge (pc := 34) (tgt := 56) dX12_control_34 (by decide) (fun c_34_1 => ?_) (fun c_34_1 => ?_)
    · have c_34_1 : (I 27 30).toInt ≤ k.toInt := c_34_1
      refine V_aload_n (pc := 56) 0 dX12_control_56 rfl rfl ?_
      refine V_gI (pc := 57) (v := (I 27 30)) rfl fk_X12_199_12 dX12_control_57 (wN hw (by decide)) (wS1 hw (by decide) rfl) ?_
      refine V_bipush (pc := 60) (v := 8) dX12_control_60 rfl ?_
      refine V_icmp_ne (pc := 62) (tgt := 68) dX12_control_62 (by decide) (fun c_62_2 => ?_) (fun c_62_2 => ?_)
      · have c_62_2 : (I 27 30).toInt ≠ 8 := c_62_2
        refine V_aload_n (pc := 68) 0 dX12_control_68 rfl rfl ?_
        refine V_getR (pc := 69) (j := 47) fk_X12_68_12 (wR hw (i := 27) (k := 31) (j := 47) rfl) dX12_control_69 (wN hw (by decide)) (wS1 hw (by decide) rfl) ?_
        refine V_aload_n (pc := 72) 0 dX12_control_72 rfl rfl ?_
        refine V_gI (pc := 73) (v := (I 27 30)) rfl fk_X12_199_12 dX12_control_73 (wN hw (by decide)) (wS1 hw (by decide) rfl) ?_
        refine V_iload_n (pc := 76) 1 dX12_control_76 rfl rfl ?_
        refine V_iask (pc := 77) (k := (I 27 30).toInt.toNat) dX12_control_77 (wN hw (by decide)) (wS hw (by decide) rfl) (by omega) (by omega) ?_
        refine V_aload_n (pc := 78) 0 dX12_control_78 rfl rfl ?_
        refine V_getR (pc := 79) (j := 48) fk_X12_71_12 (wR hw (i := 27) (k := 32) (j := 48) rfl) dX12_control_79 (wN hw (by decide)) (wS1 hw (by decide) rfl) ?_
        refine V_aload_n (pc := 82) 0 dX12_control_82 rfl rfl ?_
        refine V_gI (pc := 83) (v := (I 27 30)) rfl fk_X12_199_12 dX12_control_83 (wN hw (by decide)) (wS1 hw (by decide) rfl) ?_
        refine V_iconst (pc := 86) (v := 0) dX12_control_86 rfl ?_
        refine V_zask (pc := 87) (k := (I 27 30).toInt.toNat) (by decide) dX12_control_87 (wN hw (by decide)) (wS hw (by decide) rfl) (by omega) (by omega) ?_
        refine V_aload_n (pc := 88) 0 dX12_control_88 rfl rfl ?_
        refine V_getR (pc := 89) (j := 49) fk_X12_74_12 (wR hw (i := 27) (k := 33) (j := 49) rfl) dX12_control_89 (wN hw (by decide)) (wS1 hw (by decide) rfl) ?_
        refine V_aload_n (pc := 92) 0 dX12_control_92 rfl rfl ?_
        refine V_gI (pc := 93) (v := (I 27 30)) rfl fk_X12_199_12 dX12_control_93 (wN hw (by decide)) (wS1 hw (by decide) rfl) ?_
        refine V_iconst (pc := 96) (v := 0) dX12_control_96 rfl ?_
        refine V_zask (pc := 97) (k := (I 27 30).toInt.toNat) (by decide) dX12_control_97 (wN hw (by decide)) (wS hw (by decide) rfl) (by omega) (by omega) ?_
        refine V_aload_n (pc := 98) 0 dX12_control_98 rfl rfl ?_
        refine V_dup (pc := 99) dX12_control_99 rfl ?_
        refine V_gI (pc := 100) (v := (I 27 30)) rfl fk_X12_199_12 dX12_control_100 (wN hw (by decide)) (wS1 hw (by decide) rfl) ?_
        refine V_iconst (pc := 103) (v := 1) dX12_control_103 rfl ?_
        refine V_iadd (pc := 104) dX12_control_104 (fun x_104_3 e_104_3 => ?_)
        have t_104_3 : x_104_3.toInt = (I 27 30).toInt + 1 := addT e_104_3 rfl rfl (by omega) (by omega)
        refine V_putI (pc := 105) fw_X12_199_12 rfl rfl dX12_control_105 (wN hw (by decide)) (wS1 hw (by decide) rfl) ?_
        refine V_aload_n (pc := 108) 0 dX12_control_108 rfl rfl ?_
        refine V_gI (pc := 109) (v := x_104_3) rfl fk_X12_199_12 dX12_control_109 (wN hw (by decide)) (wS1 hw (by decide) rfl) ?_
        refine V_iconst (pc := 112) (v := 1) dX12_control_112 rfl ?_
        refine V_isub (pc := 113) dX12_control_113 (fun x_113_4 e_113_4 => ?_)
        have t_113_4 : x_113_4.toInt = x_104_3.toInt - 1 := subT e_113_4 rfl rfl (by omega) (by omega)
        refine V_iret (pc := 114) rfl rfl dX12_control_114 (by omega) (by omega) ?_
        have e9 : (I 27 30).toInt.toNat = m := by omega
        rw [← e9] at he
        clear e9
        subst_vars
        refine ⟨rfl, rfl, rfl, rfl, _, ?_, rfl⟩
        unfold sControl
        rw [if_neg h0, if_neg (by omega), if_neg (by rw [he]; decide)]
        (repeat' split) <;> first | rfl | (exfalso; omega)
      · have c_62_2 : (I 27 30).toInt = 8 := c_62_2
        refine V_bipush (pc := 65) (v := (-4)) dX12_control_65 rfl ?_
        refine V_iret (pc := 67) rfl rfl dX12_control_67 (by omega) (by omega) ?_
        have e9 : (I 27 30).toInt.toNat = m := by omega
        rw [← e9] at he
        clear e9
        subst_vars
        refine ⟨rfl, rfl, rfl, rfl, _, ?_, rfl⟩
        unfold sControl
        rw [if_neg h0, if_neg (by omega), if_neg (by rw [he]; decide)]
        (repeat' split) <;> first | rfl | (exfalso; omega)
    · have c_34_1 : k.toInt < (I 27 30).toInt := c_34_1
      refine V_aload_n (pc := 37) 0 dX12_control_37 rfl rfl ?_
      refine V_getR (pc := 38) (j := 47) fk_X12_68_12 (wR hw (i := 27) (k := 31) (j := 47) rfl) dX12_control_38 (wN hw (by decide)) (wS1 hw (by decide) rfl) ?_
      refine V_iload_n (pc := 41) 2 dX12_control_41 rfl rfl ?_
      refine V_ia (pc := 42) (k := m) (v := (I 47 m)) rfl dX12_control_42 (wN hw (by decide)) (wS hw (by decide) rfl) hk (by omega) ?_
      refine V_iload_n (pc := 43) 1 dX12_control_43 rfl rfl ?_
      refine V_icmp_ne (pc := 44) (tgt := 50) dX12_control_44 (by decide) (fun c_44_5 => ?_) (fun c_44_5 => ?_)
      · have c_44_5 : (I 47 m).toInt ≠ p.toInt := c_44_5
        obtain ⟨x_50_6, e_50_6⟩ : ∃ y : Int32, y = k + (1) := ⟨_, rfl⟩
        have t_50_6 : x_50_6.toInt = k.toInt + 1 := addT e_50_6 rfl rfl (by omega) (by omega)
        refine V_iinc (pc := 50) (v := x_50_6) (lo' := [(0, .ref (ad G 27)), (1, .int p), (2, .int x_50_6)]) 2 dX12_control_50 rfl e_50_6.symm (by decide) rfl ?_
        refine V_goto (pc := 53) (tgt := 29) dX12_control_53 (by decide) ?_
        exact ih (m + 1) x_50_6 (by omega) (by omega) (by unfold exE; rw [he, decide_eq_false (by omega)]; rfl) (by omega)
      · have c_44_5 : (I 47 m).toInt = p.toInt := c_44_5
        refine V_bipush (pc := 47) (v := (-3)) dX12_control_47 rfl ?_
        refine V_iret (pc := 49) rfl rfl dX12_control_49 (by omega) (by omega) ?_
        refine ⟨rfl, rfl, rfl, rfl, _, ?_, rfl⟩
        unfold sControl
        rw [if_neg h0, if_neg (by omega), if_pos ((exE_i _ _ _).mpr ⟨m, by omega, by omega⟩)]
set_option maxRecDepth 100000 in
set_option maxHeartbeats 4000000 in
theorem c_X12_control (G : vG) {n : Nat} {sh : vS} {I : vI} {L : vL} {R : vR} (p : Int32) (hw : WF n sh R) (h30 : 0 ≤ (I 27 30).toInt ∧ (I 27 30).toInt ≤ 8) : CT G yX12_control cX12_control 3 (some .int) 1 0 0 [.ref (ad G 27), .int p] n sh I L R (PI n sh L R (qi (sControl I p))) := by
  refine CT_of (own := RX12) (ini := false) (lo := [(0, .ref (ad G 27)), (1, .int p)]) mf_X12_control (Nat.le_of_ble_eq_true rfl) rfl (fun h => by first | rfl | cases h) rfl ?_
  refine V_aload_n (pc := 0) 0 dX12_control_0 rfl rfl ?_
  refine V_gI (pc := 1) (v := (I 27 24)) rfl fk_X12_95_12 dX12_control_1 (wN hw (by decide)) (wS1 hw (by decide) rfl) ?_
  refine V_if_ne (pc := 4) (tgt := 10) dX12_control_4 (by decide) (fun c_4_1 => ?_) (fun c_4_1 => ?_)
  · have c_4_1 : (I 27 24).toInt ≠ 0 := c_4_1
    refine V_iload_n (pc := 10) 1 dX12_control_10 rfl rfl ?_
    refine V_i2l (pc := 11) dX12_control_11 (fun x_11_2 e_11_2 => ?_)
    have t_11_2 : x_11_2.toInt = p.toInt := i2lT e_11_2 rfl
    have b_11_2 := fb_rng p
    refine V_lconst (pc := 12) (v := 1) dX12_control_12 rfl ?_
    refine V_aload_n (pc := 13) 0 dX12_control_13 rfl rfl ?_
    refine V_gI (pc := 14) (v := (I 27 25)) rfl fk_X12_193_12 dX12_control_14 (wN hw (by decide)) (wS1 hw (by decide) rfl) ?_
    refine V_i2l (pc := 17) dX12_control_17 (fun x_17_3 e_17_3 => ?_)
    have t_17_3 : x_17_3.toInt = (I 27 25).toInt := i2lT e_17_3 rfl
    have b_17_3 := fb_rng (I 27 25)
    refine V_callS (pc := 18) (As := [.long x_11_2, .long 1, .long x_17_3]) (st := []) (c_X12_in G x_11_2 1 x_17_3) mf_X12_in ml_X12_111 st_X12_in dX12_control_18 rfl rfl (by omega) (by omega) (by omega) (Nat.le_of_ble_eq_true rfl) (fun r_18_4 n_18_4 sh_18_4 I_18_4 L_18_4 R_18_4 hq_18_4 => ?_)
    obtain ⟨rfl, rfl, rfl, rfl, rfl, hq_18_4⟩ := hq_18_4
    rcases hq_18_4 with ⟨c_18_4, rfl⟩ | ⟨c_18_4, rfl⟩
    · have c_18_4 : 1 ≤ x_11_2.toInt ∧ x_11_2.toInt ≤ x_17_3.toInt := c_18_4
      refine V_if_ne_t (pc := 21) (tgt := 27) dX12_control_21 (by decide) (by decide) ?_
      refine V_iconst (pc := 27) (v := 0) dX12_control_27 rfl ?_
      refine V_istore_n (pc := 28) (lo' := [(0, .ref (ad G 27)), (1, .int p), (2, .int 0)]) dX12_control_28 rfl (by decide) rfl ?_
      exact l_X12_control G p hw h30 (by omega) (by omega) ((I 27 30).toInt.toNat + 1) 0 0 (by omega) rfl rfl (by omega)
    · have c_18_4 : ¬ (1 ≤ x_11_2.toInt ∧ x_11_2.toInt ≤ x_17_3.toInt) := c_18_4
      refine V_if_ne_f (pc := 21) (tgt := 27) dX12_control_21 (by decide) (by decide) ?_
      refine V_bipush (pc := 24) (v := (-2)) dX12_control_24 rfl ?_
      refine V_iret (pc := 26) rfl rfl dX12_control_26 (by omega) (by omega) ?_
      subst_vars
      refine ⟨rfl, rfl, rfl, rfl, _, ?_, rfl⟩
      unfold sControl
      (repeat' split) <;> first | rfl | (exfalso; omega)
  · have c_4_1 : (I 27 24).toInt = 0 := c_4_1
    refine V_bipush (pc := 7) (v := (-3)) dX12_control_7 rfl ?_
    refine V_iret (pc := 9) rfl rfl dX12_control_9 (by omega) (by omega) ?_
    subst_vars
    refine ⟨rfl, rfl, rfl, rfl, _, ?_, rfl⟩
    unfold sControl
    (repeat' split) <;> first | rfl | (exfalso; omega)
