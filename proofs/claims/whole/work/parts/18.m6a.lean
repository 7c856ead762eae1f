set_option maxRecDepth 100000 in
set_option maxHeartbeats 4000000 in
theorem l_X12_result_a (G : vG) {n : Nat} {sh : vS} {I : vI} {L : vL} {R : vR} (car w : Int32) (hw : WF n sh R) (hv : PV I) (hd : hasDueP I) (h35 : 0 ≤ (I 27 35).toInt ∧ (I 27 35).toInt ≤ 8) (h30 : 0 ≤ (I 27 30).toInt ∧ (I 27 30).toInt ≤ 8) (hcar : isCar I car) (hw1 : w.toInt = 1) : ∀ (f m : Nat) (k : Int32) (a : Int32) (hm : (m : Int) ≤ (I 27 35).toInt) (hk : k.toInt = (m : Int)) (ha : a.toInt = cnP (rkP I car.toInt) m) (hf : (I 27 35).toInt < (m : Int) + f), V G RX12 cX12_result (some .int) false 6 0 0 6 (PI n sh L R (fun I' o => I = I' ∧ ∃ v : Int32, o = some (.int v) ∧ v.toInt = sResult I car w)) 55 [(0, .ref (ad G 27)), (1, .int car), (2, .int w), (3, .int a), (4, .int k)] [] 0 0 n sh I L R := by
  intro f
  induction f with
  | zero => intro m k a hm hk ha hf; omega
  | succ f ih =>
    intro m k a hm hk ha hf
    have hcb := cnP_b (rkP I car.toInt) m
    unfold isCar at hcar
    refine V_iload (pc := 55) 4 dX12_result_55 rfl ?_
    refine V_aload_n (pc := 57) 0 dX12_result_57 rfl rfl ?_
    refine V_gI (pc := 58) (v := (I 27 35)) rfl fk_X12_238_12 dX12_result_58 (wN hw (by decide)) (wS1 hw (by decide) rfl) ?_
    refine V_icmp_ge (pc := 61) (tgt := 94) dX12_result_61 (by decide) (fun c_61_1 => ?_) (fun c_61_1 => ?_)
    · have c_61_1 : (I 27 35).toInt ≤ k.toInt := c_61_1
      refine V_iload_n (pc := 94) 3 dX12_result_94 rfl rfl ?_
      refine V_iconst (pc := 95) (v := 1) dX12_result_95 rfl ?_
      refine V_iadd (pc := 96) dX12_result_96 (fun x_96_2 e_96_2 => ?_)
      have t_96_2 : x_96_2.toInt = a.toInt + 1 := addT e_96_2 rfl rfl (by omega) (by omega)
      refine V_iret (pc := 97) rfl rfl dX12_result_97 (by omega) (by omega) ?_
      refine ⟨rfl, rfl, rfl, rfl, rfl, _, rfl, ?_⟩
      have e9 : (I 27 35).toInt.toNat = m := by omega
      unfold sResult
      rw [if_neg (by unfold isCar at *; omega), if_neg (by omega), pIf_pos hd, if_neg (by omega), if_pos hw1, e9]
      omega
    · have c_61_1 : k.toInt < (I 27 35).toInt := c_61_1
      refine V_iload_n (pc := 64) 3 dX12_result_64 rfl rfl ?_
      refine V_iload (pc := 65) 4 dX12_result_65 rfl ?_
      refine V_iload_n (pc := 67) 1 dX12_result_67 rfl rfl ?_
      refine V_icmp_eq (pc := 68) (tgt := 85) dX12_result_68 (by decide) (fun c_68_3 => ?_) (fun c_68_3 => ?_)
      · have c_68_3 : k.toInt = car.toInt := c_68_3
        refine V_iconst (pc := 85) (v := 0) dX12_result_85 rfl ?_
        refine V_iadd (pc := 86) dX12_result_86 (fun x_86_4 e_86_4 => ?_)
        have t_86_4 : x_86_4.toInt = a.toInt + 0 := addT e_86_4 rfl rfl (by omega) (by omega)
        refine V_istore_n (pc := 87) (lo' := [(0, .ref (ad G 27)), (1, .int car), (2, .int w), (3, .int x_86_4), (4, .int k)]) dX12_result_87 rfl (by decide) rfl ?_
        obtain ⟨x_88_5, e_88_5⟩ : ∃ y : Int32, y = k + (1) := ⟨_, rfl⟩
        have t_88_5 : x_88_5.toInt = k.toInt + 1 := addT e_88_5 rfl rfl (by omega) (by omega)
        refine V_iinc (pc := 88) (v := x_88_5) (lo' := [(0, .ref (ad G 27)), (1, .int car), (2, .int w), (3, .int x_86_4), (4, .int x_88_5)]) 4 dX12_result_88 rfl e_88_5.symm (by decide) rfl ?_
        refine V_goto (pc := 91) (tgt := 55) dX12_result_91 (by decide) ?_
        exact ih (m + 1) x_88_5 x_86_4 (by omega) (by omega) (by unfold cnP; first | (rw [pIf_pos (by unfold rkP; first | exact ⟨by omega, by assumption⟩ | exact ⟨by omega, Or.inl ⟨by omega, by omega⟩⟩ | exact ⟨by omega, Or.inr ⟨by omega, by omega, by assumption⟩⟩)]; omega) | (rw [pIf_neg (fun z => by unfold rkP at z; first | exact absurd z.2 (by assumption) | omega | (rcases z with ⟨z1, ⟨z2, z3⟩ | ⟨z2, z3, z4⟩⟩ <;> first | omega | exact absurd z4 (by assumption)))]; omega)) (by omega)
      · have c_68_3 : k.toInt ≠ car.toInt := c_68_3
        refine V_aload_n (pc := 71) 0 dX12_result_71 rfl rfl ?_
        refine V_iload (pc := 72) 4 dX12_result_72 rfl ?_
        refine V_iload_n (pc := 74) 1 dX12_result_74 rfl rfl ?_
        refine V_callV (pc := 75) (As := [.int k, .int car]) (st := [.int a]) (c_X12_isBetter G k car (m : Int) car.toInt hw (by assumption) (by omega) (by omega) (by omega) (by omega)) mf_X12_isBetter ml_X12_271 iv_X12_isBetter (wN hw (by decide)) (wS1 hw (by decide) rfl) (by decide) rfl dX12_result_75 rfl rfl (by omega) (by omega) (by omega) (Nat.le_of_ble_eq_true rfl) (fun r_75_6 n_75_6 sh_75_6 I_75_6 L_75_6 R_75_6 hq_75_6 => ?_)
        obtain ⟨rfl, rfl, rfl, rfl, rfl, hq_75_6⟩ := hq_75_6
        rcases hq_75_6 with ⟨c_75_6, rfl⟩ | ⟨c_75_6, rfl⟩
        · have c_75_6 : betP I (m : Int) car.toInt := c_75_6
          refine V_if_eq_f (pc := 78) (tgt := 85) dX12_result_78 (by decide) (by decide) ?_
          refine V_iconst (pc := 81) (v := 1) dX12_result_81 rfl ?_
          refine V_goto (pc := 82) (tgt := 86) dX12_result_82 (by decide) ?_
          refine V_iadd (pc := 86) dX12_result_86 (fun x_86_7 e_86_7 => ?_)
          have t_86_7 : x_86_7.toInt = a.toInt + 1 := addT e_86_7 rfl rfl (by omega) (by omega)
          refine V_istore_n (pc := 87) (lo' := [(0, .ref (ad G 27)), (1, .int car), (2, .int w), (3, .int x_86_7), (4, .int k)]) dX12_result_87 rfl (by decide) rfl ?_
          obtain ⟨x_88_8, e_88_8⟩ : ∃ y : Int32, y = k + (1) := ⟨_, rfl⟩
          have t_88_8 : x_88_8.toInt = k.toInt + 1 := addT e_88_8 rfl rfl (by omega) (by omega)
          refine V_iinc (pc := 88) (v := x_88_8) (lo' := [(0, .ref (ad G 27)), (1, .int car), (2, .int w), (3, .int x_86_7), (4, .int x_88_8)]) 4 dX12_result_88 rfl e_88_8.symm (by decide) rfl ?_
          refine V_goto (pc := 91) (tgt := 55) dX12_result_91 (by decide) ?_
          exact ih (m + 1) x_88_8 x_86_7 (by omega) (by omega) (by unfold cnP; first | (rw [pIf_pos (by unfold rkP; first | exact ⟨by omega, by assumption⟩ | exact ⟨by omega, Or.inl ⟨by omega, by omega⟩⟩ | exact ⟨by omega, Or.inr ⟨by omega, by omega, by assumption⟩⟩)]; omega) | (rw [pIf_neg (fun z => by unfold rkP at z; first | exact absurd z.2 (by assumption) | omega | (rcases z with ⟨z1, ⟨z2, z3⟩ | ⟨z2, z3, z4⟩⟩ <;> first | omega | exact absurd z4 (by assumption)))]; omega)) (by omega)
        · have c_75_6 : ¬ (betP I (m : Int) car.toInt) := c_75_6
          refine V_if_eq_t (pc := 78) (tgt := 85) dX12_result_78 (by decide) (by decide) ?_
          refine V_iconst (pc := 85) (v := 0) dX12_result_85 rfl ?_
          refine V_iadd (pc := 86) dX12_result_86 (fun x_86_9 e_86_9 => ?_)
          have t_86_9 : x_86_9.toInt = a.toInt + 0 := addT e_86_9 rfl rfl (by omega) (by omega)
          refine V_istore_n (pc := 87) (lo' := [(0, .ref (ad G 27)), (1, .int car), (2, .int w), (3, .int x_86_9), (4, .int k)]) dX12_result_87 rfl (by decide) rfl ?_
          obtain ⟨x_88_10, e_88_10⟩ : ∃ y : Int32, y = k + (1) := ⟨_, rfl⟩
          have t_88_10 : x_88_10.toInt = k.toInt + 1 := addT e_88_10 rfl rfl (by omega) (by omega)
          refine V_iinc (pc := 88) (v := x_88_10) (lo' := [(0, .ref (ad G 27)), (1, .int car), (2, .int w), (3, .int x_86_9), (4, .int x_88_10)]) 4 dX12_result_88 rfl e_88_10.symm (by decide) rfl ?_
          refine V_goto (pc := 91) (tgt := 55) dX12_result_91 (by decide) ?_
          exact ih (m + 1) x_88_10 x_86_9 (by omega) (by omega) (by unfold cnP; first | (rw [pIf_pos (by unfold rkP; first | exact ⟨by omega, by assumption⟩ | exact ⟨by omega, Or.inl ⟨by omega, by omega⟩⟩ | exact ⟨by omega, Or.inr ⟨by omega, by omega, by assumption⟩⟩)]; omega) | (rw [pIf_neg (fun z => by unfold rkP at z; first | exact absurd z.2 (by assumption) | omega | (rcases z with ⟨z1, ⟨z2, z3⟩ | ⟨z2, z3, z4⟩⟩ <;> first | omega | exact absurd z4 (by assumption)))]; omega)) (by omega)
set_option maxRecDepth 100000 in
set_option maxHeartbeats 4000000 in
theorem l_X12_result_b (G : vG) {n : Nat} {sh : vS} {I : vI} {L : vL} {R : vR} (car w : Int32) (hw : WF n sh R) (hv : PV I) (hd : hasDueP I) (h35 : 0 ≤ (I 27 35).toInt ∧ (I 27 35).toInt ≤ 8) (h30 : 0 ≤ (I 27 30).toInt ∧ (I 27 30).toInt ≤ 8) (hcar : isCar I car) (hw1 : w.toInt = 2 ∨ w.toInt = 3) : ∀ (f m : Nat) (k : Int32) (a : Int32) (hm : (m : Int) ≤ (I 27 30).toInt) (hk : k.toInt = (m : Int)) (ha : a.toInt = cnP (resP I car.toInt w.toInt) m) (hf : (I 27 30).toInt < (m : Int) + f), V G RX12 cX12_result (some .int) false 6 0 0 6 (PI n sh L R (fun I' o => I = I' ∧ ∃ v : Int32, o = some (.int v) ∧ v.toInt = sResult I car w)) 101 [(0, .ref (ad G 27)), (1, .int car), (2, .int w), (3, .int a), (4, .int k)] [] 0 0 n sh I L R := by
  intro f
  induction f with
  | zero => intro m k a hm hk ha hf; omega
  | succ f ih =>
    intro m k a hm hk ha hf
    have hcb := cnP_b (resP I car.toInt w.toInt) m
    unfold isCar at hcar
    refine V_iload (pc := 101) 4 dX12_result_101 rfl ?_
    refine V_aload_n (pc := 103) 0 dX12_result_103 rfl rfl ?_
    refine V_gI (pc := 104) (v := (I 27 30)) rfl fk_X12_199_12 dX12_result_104 (wN hw (by decide)) (wS1 hw (by decide) rfl) ?_
    refine V_icmp_ge (pc := 107) (tgt := 184) dX12_result_107 (by decide) (fun c_107_1 => ?_) (fun c_107_1 => ?_)
    · have c_107_1 : (I 27 30).toInt ≤ k.toInt := c_107_1
      refine V_iload_n (pc := 184) 3 dX12_result_184 rfl rfl ?_
      refine V_iret (pc := 185) rfl rfl dX12_result_185 (by omega) (by omega) ?_
      refine ⟨rfl, rfl, rfl, rfl, rfl, _, rfl, ?_⟩
      have e9 : (I 27 30).toInt.toNat = m := by omega
      unfold sResult
      rw [if_neg (by unfold isCar at *; omega), if_neg (by omega), pIf_pos hd, if_neg (by omega), if_neg (by omega), e9]
      omega
    · have c_107_1 : k.toInt < (I 27 30).toInt := c_107_1
      refine V_aload_n (pc := 110) 0 dX12_result_110 rfl rfl ?_
      refine V_getR (pc := 111) (j := 53) fk_X12_86_12 (wR hw (i := 27) (k := 39) (j := 53) rfl) dX12_result_111 (wN hw (by decide)) (wS1 hw (by decide) rfl) ?_
      refine V_bipush (pc := 114) (v := 8) dX12_result_114 rfl ?_
      refine V_iload_n (pc := 116) 1 dX12_result_116 rfl rfl ?_
      refine V_imul (pc := 117) dX12_result_117 (fun x_117_2 e_117_2 => ?_)
      have t_117_2 : x_117_2.toInt = 8 * car.toInt := mulT e_117_2 rfl rfl (by omega) (by omega)
      refine V_iload (pc := 118) 4 dX12_result_118 rfl ?_
      refine V_iadd (pc := 120) dX12_result_120 (fun x_120_3 e_120_3 => ?_)
      have t_120_3 : x_120_3.toInt = x_117_2.toInt + k.toInt := addT e_120_3 rfl rfl (by omega) (by omega)
      refine V_ia (pc := 121) (k := ((8 * car.toInt) + (m : Int)).toNat) (v := (I 53 ((8 * car.toInt) + (m : Int)).toNat)) rfl dX12_result_121 (wN hw (by decide)) (wS hw (by decide) rfl) (by omega) (by omega) ?_
      refine V_if_le (pc := 122) (tgt := 129) dX12_result_122 (by decide) (fun c_122_4 => ?_) (fun c_122_4 => ?_)
      · have c_122_4 : (I 53 ((8 * car.toInt) + (m : Int)).toNat).toInt ≤ 0 := c_122_4
        refine V_iconst (pc := 129) (v := 0) dX12_result_129 rfl ?_
        refine V_istore (pc := 130) (lo' := [(0, .ref (ad G 27)), (1, .int car), (2, .int w), (3, .int a), (4, .int k), (5, .int 0)]) dX12_result_130 (by decide) rfl ?_
        refine V_iload_n (pc := 132) 3 dX12_result_132 rfl rfl ?_
        refine V_aload_n (pc := 133) 0 dX12_result_133 rfl rfl ?_
        refine V_getR (pc := 134) (j := 48) fk_X12_71_12 (wR hw (i := 27) (k := 32) (j := 48) rfl) dX12_result_134 (wN hw (by decide)) (wS1 hw (by decide) rfl) ?_
        refine V_iload (pc := 137) 4 dX12_result_137 rfl ?_
        refine V_za (pc := 139) (k := m) (v := (I 48 m)) rfl dX12_result_139 (wN hw (by decide)) (wS hw (by decide) rfl) hk (by omega) ?_
        refine V_if_ne (pc := 140) (tgt := 175) dX12_result_140 (by decide) (fun c_140_5 => ?_) (fun c_140_5 => ?_)
        · have c_140_5 : (I 48 m).toInt ≠ 0 := c_140_5
          refine V_iconst (pc := 175) (v := 0) dX12_result_175 rfl ?_
          refine V_iadd (pc := 176) dX12_result_176 (fun x_176_6 e_176_6 => ?_)
          have t_176_6 : x_176_6.toInt = a.toInt + 0 := addT e_176_6 rfl rfl (by omega) (by omega)
          refine V_istore_n (pc := 177) (lo' := [(0, .ref (ad G 27)), (1, .int car), (2, .int w), (3, .int x_176_6), (4, .int k), (5, .int 0)]) dX12_result_177 rfl (by decide) rfl ?_
          obtain ⟨x_178_7, e_178_7⟩ : ∃ y : Int32, y = k + (1) := ⟨_, rfl⟩
          have t_178_7 : x_178_7.toInt = k.toInt + 1 := addT e_178_7 rfl rfl (by omega) (by omega)
          refine V_iinc (pc := 178) (v := x_178_7) (lo' := [(0, .ref (ad G 27)), (1, .int car), (2, .int w), (3, .int x_176_6), (4, .int x_178_7), (5, .int 0)]) 4 dX12_result_178 rfl e_178_7.symm (by decide) rfl ?_
          refine V_goto (pc := 181) (tgt := 101) dX12_result_181 (by decide) ?_
          refine V_lo (pc := 101) (lo' := [(0, .ref (ad G 27)), (1, .int car), (2, .int w), (3, .int x_176_6), (4, .int x_178_7)]) [0, 1, 2, 3, 4] rfl ?_
          exact ih (m + 1) x_178_7 x_176_6 (by omega) (by omega) (by unfold cnP; first | (rw [pIf_pos (by unfold resP; first | exact ⟨by omega, by assumption⟩ | exact ⟨by omega, Or.inl ⟨by omega, by omega⟩⟩ | exact ⟨by omega, Or.inr ⟨by omega, by omega, by assumption⟩⟩)]; omega) | (rw [pIf_neg (fun z => by unfold resP at z; first | exact absurd z.2 (by assumption) | omega | (rcases z with ⟨z1, ⟨z2, z3⟩ | ⟨z2, z3, z4⟩⟩ <;> first | omega | exact absurd z4 (by assumption)))]; omega)) (by omega)
        · have c_140_5 : (I 48 m).toInt = 0 := c_140_5
          refine V_iload_n (pc := 143) 2 dX12_result_143 rfl rfl ?_
          refine V_iconst (pc := 144) (v := 2) dX12_result_144 rfl ?_
          refine V_icmp_ne (pc := 145) (tgt := 156) dX12_result_145 (by decide) (fun c_145_8 => ?_) (fun c_145_8 => ?_)
          · have c_145_8 : w.toInt ≠ 2 := c_145_8
            refine V_iload (pc := 156) 5 dX12_result_156 rfl ?_
            refine V_if_eq_t (pc := 158) (tgt := 175) dX12_result_158 (by decide) (by decide) ?_
            refine V_iconst (pc := 175) (v := 0) dX12_result_175 rfl ?_
            refine V_iadd (pc := 176) dX12_result_176 (fun x_176_9 e_176_9 => ?_)
            have t_176_9 : x_176_9.toInt = a.toInt + 0 := addT e_176_9 rfl rfl (by omega) (by omega)
            refine V_istore_n (pc := 177) (lo' := [(0, .ref (ad G 27)), (1, .int car), (2, .int w), (3, .int x_176_9), (4, .int k), (5, .int 0)]) dX12_result_177 rfl (by decide) rfl ?_
            obtain ⟨x_178_10, e_178_10⟩ : ∃ y : Int32, y = k + (1) := ⟨_, rfl⟩
            have t_178_10 : x_178_10.toInt = k.toInt + 1 := addT e_178_10 rfl rfl (by omega) (by omega)
            refine V_iinc (pc := 178) (v := x_178_10) (lo' := [(0, .ref (ad G 27)), (1, .int car), (2, .int w), (3, .int x_176_9), (4, .int x_178_10), (5, .int 0)]) 4 dX12_result_178 rfl e_178_10.symm (by decide) rfl ?_
            refine V_goto (pc := 181) (tgt := 101) dX12_result_181 (by decide) ?_
            refine V_lo (pc := 101) (lo' := [(0, .ref (ad G 27)), (1, .int car), (2, .int w), (3, .int x_176_9), (4, .int x_178_10)]) [0, 1, 2, 3, 4] rfl ?_
            exact ih (m + 1) x_178_10 x_176_9 (by omega) (by omega) (by unfold cnP; first | (rw [pIf_pos (by unfold resP; first | exact ⟨by omega, by assumption⟩ | exact ⟨by omega, Or.inl ⟨by omega, by omega⟩⟩ | exact ⟨by omega, Or.inr ⟨by omega, by omega, by assumption⟩⟩)]; omega) | (rw [pIf_neg (fun z => by unfold resP at z; first | exact absurd z.2 (by assumption) | omega | (rcases z with ⟨z1, ⟨z2, z3⟩ | ⟨z2, z3, z4⟩⟩ <;> first | omega | exact absurd z4 (by assumption)))]; omega)) (by omega)
          · have c_145_8 : w.toInt = 2 := c_145_8
            refine V_iload (pc := 148) 5 dX12_result_148 rfl ?_
            refine V_if_ne_f (pc := 150) (tgt := 175) dX12_result_150 (by decide) (by decide) ?_
            refine V_goto (pc := 153) (tgt := 171) dX12_result_153 (by decide) ?_
            refine V_iconst (pc := 171) (v := 1) dX12_result_171 rfl ?_
            refine V_goto (pc := 172) (tgt := 176) dX12_result_172 (by decide) ?_
            refine V_iadd (pc := 176) dX12_result_176 (fun x_176_11 e_176_11 => ?_)
            have t_176_11 : x_176_11.toInt = a.toInt + 1 := addT e_176_11 rfl rfl (by omega) (by omega)
            refine V_istore_n (pc := 177) (lo' := [(0, .ref (ad G 27)), (1, .int car), (2, .int w), (3, .int x_176_11), (4, .int k), (5, .int 0)]) dX12_result_177 rfl (by decide) rfl ?_
            obtain ⟨x_178_12, e_178_12⟩ : ∃ y : Int32, y = k + (1) := ⟨_, rfl⟩
            have t_178_12 : x_178_12.toInt = k.toInt + 1 := addT e_178_12 rfl rfl (by omega) (by omega)
            refine V_iinc (pc := 178) (v := x_178_12) (lo' := [(0, .ref (ad G 27)), (1, .int car), (2, .int w), (3, .int x_176_11), (4, .int x_178_12), (5, .int 0)]) 4 dX12_result_178 rfl e_178_12.symm (by decide) rfl ?_
            refine V_goto (pc := 181) (tgt := 101) dX12_result_181 (by decide) ?_
            refine V_lo (pc := 101) (lo' := [(0, .ref (ad G 27)), (1, .int car), (2, .int w), (3, .int x_176_11), (4, .int x_178_12)]) [0, 1, 2, 3, 4] rfl ?_
            exact ih (m + 1) x_178_12 x_176_11 (by omega) (by omega) (by unfold cnP; first | (rw [pIf_pos (by unfold resP; first | exact ⟨by omega, by assumption⟩ | exact ⟨by omega, Or.inl ⟨by omega, by omega⟩⟩ | exact ⟨by omega, Or.inr ⟨by omega, by omega, by assumption⟩⟩)]; omega) | (rw [pIf_neg (fun z => by unfold resP at z; first | exact absurd z.2 (by assumption) | omega | (rcases z with ⟨z1, ⟨z2, z3⟩ | ⟨z2, z3, z4⟩⟩ <;> first | omega | exact absurd z4 (by assumption)))]; omega)) (by omega)
      · have c_122_4 : 0 < (I 53 ((8 * car.toInt) + (m : Int)).toNat).toInt := c_122_4
        refine V_iconst (pc := 125) (v := 1) dX12_result_125 rfl ?_
        refine V_goto (pc := 126) (tgt := 130) dX12_result_126 (by decide) ?_
        refine V_istore (pc := 130) (lo' := [(0, .ref (ad G 27)), (1, .int car), (2, .int w), (3, .int a), (4, .int k), (5, .int 1)]) dX12_result_130 (by decide) rfl ?_
        refine V_iload_n (pc := 132) 3 dX12_result_132 rfl rfl ?_
        refine V_aload_n (pc := 133) 0 dX12_result_133 rfl rfl ?_
        refine V_getR (pc := 134) (j := 48) fk_X12_71_12 (wR hw (i := 27) (k := 32) (j := 48) rfl) dX12_result_134 (wN hw (by decide)) (wS1 hw (by decide) rfl) ?_
        refine V_iload (pc := 137) 4 dX12_result_137 rfl ?_
        refine V_za (pc := 139) (k := m) (v := (I 48 m)) rfl dX12_result_139 (wN hw (by decide)) (wS hw (by decide) rfl) hk (by omega) ?_
        refine V_if_ne (pc := 140) (tgt := 175) dX12_result_140 (by decide) (fun c_140_13 => ?_) (fun c_140_13 => ?_)
        · have c_140_13 : (I 48 m).toInt ≠ 0 := c_140_13
          refine V_iconst (pc := 175) (v := 0) dX12_result_175 rfl ?_
          refine V_iadd (pc := 176) dX12_result_176 (fun x_176_14 e_176_14 => ?_)
          have t_176_14 : x_176_14.toInt = a.toInt + 0 := addT e_176_14 rfl rfl (by omega) (by omega)
          refine V_istore_n (pc := 177) (lo' := [(0, .ref (ad G 27)), (1, .int car), (2, .int w), (3, .int x_176_14), (4, .int k), (5, .int 1)]) dX12_result_177 rfl (by decide) rfl ?_
          obtain ⟨x_178_15, e_178_15⟩ : ∃ y : Int32, y = k + (1) := ⟨_, rfl⟩
          have t_178_15 : x_178_15.toInt = k.toInt + 1 := addT e_178_15 rfl rfl (by omega) (by omega)
          refine V_iinc (pc := 178) (v := x_178_15) (lo' := [(0, .ref (ad G 27)), (1, .int car), (2, .int w), (3, .int x_176_14), (4, .int x_178_15), (5, .int 1)]) 4 dX12_result_178 rfl e_178_15.symm (by decide) rfl ?_
          refine V_goto (pc := 181) (tgt := 101) dX12_result_181 (by decide) ?_
          refine V_lo (pc := 101) (lo' := [(0, .ref (ad G 27)), (1, .int car), (2, .int w), (3, .int x_176_14), (4, .int x_178_15)]) [0, 1, 2, 3, 4] rfl ?_
          exact ih (m + 1) x_178_15 x_176_14 (by omega) (by omega) (by unfold cnP; first | (rw [pIf_pos (by unfold resP; first | exact ⟨by omega, by assumption⟩ | exact ⟨by omega, Or.inl ⟨by omega, by omega⟩⟩ | exact ⟨by omega, Or.inr ⟨by omega, by omega, by assumption⟩⟩)]; omega) | (rw [pIf_neg (fun z => by unfold resP at z; first | exact absurd z.2 (by assumption) | omega | (rcases z with ⟨z1, ⟨z2, z3⟩ | ⟨z2, z3, z4⟩⟩ <;> first | omega | exact absurd z4 (by assumption)))]; omega)) (by omega)
        · have c_140_13 : (I 48 m).toInt = 0 := c_140_13
          refine V_iload_n (pc := 143) 2 dX12_result_143 rfl rfl ?_
          refine V_iconst (pc := 144) (v := 2) dX12_result_144 rfl ?_
          refine V_icmp_ne (pc := 145) (tgt := 156) dX12_result_145 (by decide) (fun c_145_16 => ?_) (fun c_145_16 => ?_)
          · have c_145_16 : w.toInt ≠ 2 := c_145_16
            refine V_iload (pc := 156) 5 dX12_result_156 rfl ?_
            refine V_if_eq_f (pc := 158) (tgt := 175) dX12_result_158 (by decide) (by decide) ?_
            refine V_aload_n (pc := 161) 0 dX12_result_161 rfl rfl ?_
            refine V_iload_n (pc := 162) 1 dX12_result_162 rfl rfl ?_
            refine V_iload (pc := 163) 4 dX12_result_163 rfl ?_
            refine V_callV (pc := 165) (As := [.int car, .int k]) (st := [.int a]) (c_X12_isOutOfOrder' G car k car.toInt (m : Int) hw (by omega) (by omega) (by first | assumption | omega) (by omega) (by omega)) mf_X12_isOutOfOrder ml_X12_255 iv_X12_isOutOfOrder (wN hw (by decide)) (wS1 hw (by decide) rfl) (by decide) rfl dX12_result_165 rfl rfl (by omega) (by omega) (by omega) (Nat.le_of_ble_eq_true rfl) (fun r_165_17 n_165_17 sh_165_17 I_165_17 L_165_17 R_165_17 hq_165_17 => ?_)
            obtain ⟨rfl, rfl, rfl, rfl, rfl, hq_165_17⟩ := hq_165_17
            rcases hq_165_17 with ⟨c_165_17, rfl⟩ | ⟨c_165_17, rfl⟩
            · have c_165_17 : ooo I car.toInt (m : Int) := c_165_17
              refine V_if_eq_f (pc := 168) (tgt := 175) dX12_result_168 (by decide) (by decide) ?_
              refine V_iconst (pc := 171) (v := 1) dX12_result_171 rfl ?_
              refine V_goto (pc := 172) (tgt := 176) dX12_result_172 (by decide) ?_
              refine V_iadd (pc := 176) dX12_result_176 (fun x_176_18 e_176_18 => ?_)
              have t_176_18 : x_176_18.toInt = a.toInt + 1 := addT e_176_18 rfl rfl (by omega) (by omega)
              refine V_istore_n (pc := 177) (lo' := [(0, .ref (ad G 27)), (1, .int car), (2, .int w), (3, .int x_176_18), (4, .int k), (5, .int 1)]) dX12_result_177 rfl (by decide) rfl ?_
              obtain ⟨x_178_19, e_178_19⟩ : ∃ y : Int32, y = k + (1) := ⟨_, rfl⟩
              have t_178_19 : x_178_19.toInt = k.toInt + 1 := addT e_178_19 rfl rfl (by omega) (by omega)
              refine V_iinc (pc := 178) (v := x_178_19) (lo' := [(0, .ref (ad G 27)), (1, .int car), (2, .int w), (3, .int x_176_18), (4, .int x_178_19), (5, .int 1)]) 4 dX12_result_178 rfl e_178_19.symm (by decide) rfl ?_
              refine V_goto (pc := 181) (tgt := 101) dX12_result_181 (by decide) ?_
              refine V_lo (pc := 101) (lo' := [(0, .ref (ad G 27)), (1, .int car), (2, .int w), (3, .int x_176_18), (4, .int x_178_19)]) [0, 1, 2, 3, 4] rfl ?_
              exact ih (m + 1) x_178_19 x_176_18 (by omega) (by omega) (by unfold cnP; first | (rw [pIf_pos (by unfold resP; first | exact ⟨by omega, by assumption⟩ | exact ⟨by omega, Or.inl ⟨by omega, by omega⟩⟩ | exact ⟨by omega, Or.inr ⟨by omega, by omega, by assumption⟩⟩)]; omega) | (rw [pIf_neg (fun z => by unfold resP at z; first | exact absurd z.2 (by assumption) | omega | (rcases z with ⟨z1, ⟨z2, z3⟩ | ⟨z2, z3, z4⟩⟩ <;> first | omega | exact absurd z4 (by assumption)))]; omega)) (by omega)
            · have c_165_17 : ¬ (ooo I car.toInt (m : Int)) := c_165_17
              refine V_if_eq_t (pc := 168) (tgt := 175) dX12_result_168 (by decide) (by decide) ?_
              refine V_iconst (pc := 175) (v := 0) dX12_result_175 rfl ?_
              refine V_iadd (pc := 176) dX12_result_176 (fun x_176_20 e_176_20 => ?_)
              have t_176_20 : x_176_20.toInt = a.toInt + 0 := addT e_176_20 rfl rfl (by omega) (by omega)
              refine V_istore_n (pc := 177) (lo' := [(0, .ref (ad G 27)), (1, .int car), (2, .int w), (3, .int x_176_20), (4, .int k), (5, .int 1)]) dX12_result_177 rfl (by decide) rfl ?_
              obtain ⟨x_178_21, e_178_21⟩ : ∃ y : Int32, y = k + (1) := ⟨_, rfl⟩
              have t_178_21 : x_178_21.toInt = k.toInt + 1 := addT e_178_21 rfl rfl (by omega) (by omega)
              refine V_iinc (pc := 178) (v := x_178_21) (lo' := [(0, .ref (ad G 27)), (1, .int car), (2, .int w), (3, .int x_176_20), (4, .int x_178_21), (5, .int 1)]) 4 dX12_result_178 rfl e_178_21.symm (by decide) rfl ?_
              refine V_goto (pc := 181) (tgt := 101) dX12_result_181 (by decide) ?_
              refine V_lo (pc := 101) (lo' := [(0, .ref (ad G 27)), (1, .int car), (2, .int w), (3, .int x_176_20), (4, .int x_178_21)]) [0, 1, 2, 3, 4] rfl ?_
              exact ih (m + 1) x_178_21 x_176_20 (by omega) (by omega) (by unfold cnP; first | (rw [pIf_pos (by unfold resP; first | exact ⟨by omega, by assumption⟩ | exact ⟨by omega, Or.inl ⟨by omega, by omega⟩⟩ | exact ⟨by omega, Or.inr ⟨by omega, by omega, by assumption⟩⟩)]; omega) | (rw [pIf_neg (fun z => by unfold resP at z; first | exact absurd z.2 (by assumption) | omega | (rcases z with ⟨z1, ⟨z2, z3⟩ | ⟨z2, z3, z4⟩⟩ <;> first | omega | exact absurd z4 (by assumption)))]; omega)) (by omega)
          · have c_145_16 : w.toInt = 2 := c_145_16
            refine V_iload (pc := 148) 5 dX12_result_148 rfl ?_
            refine V_if_ne_t (pc := 150) (tgt := 175) dX12_result_150 (by decide) (by decide) ?_
            refine V_iconst (pc := 175) (v := 0) dX12_result_175 rfl ?_
            refine V_iadd (pc := 176) dX12_result_176 (fun x_176_22 e_176_22 => ?_)
            have t_176_22 : x_176_22.toInt = a.toInt + 0 := addT e_176_22 rfl rfl (by omega) (by omega)
            refine V_istore_n (pc := 177) (lo' := [(0, .ref (ad G 27)), (1, .int car), (2, .int w), (3, .int x_176_22), (4, .int k), (5, .int 1)]) dX12_result_177 rfl (by decide) rfl ?_
            obtain ⟨x_178_23, e_178_23⟩ : ∃ y : Int32, y = k + (1) := ⟨_, rfl⟩
            have t_178_23 : x_178_23.toInt = k.toInt + 1 := addT e_178_23 rfl rfl (by omega) (by omega)
            refine V_iinc (pc := 178) (v := x_178_23) (lo' := [(0, .ref (ad G 27)), (1, .int car), (2, .int w), (3, .int x_176_22), (4, .int x_178_23), (5, .int 1)]) 4 dX12_result_178 rfl e_178_23.symm (by decide) rfl ?_
            refine V_goto (pc := 181) (tgt := 101) dX12_result_181 (by decide) ?_
            refine V_lo (pc := 101) (lo' := [(0, .ref (ad G 27)), (1, .int car), (2, .int w), (3, .int x_176_22), (4, .int x_178_23)]) [0, 1, 2, 3, 4] rfl ?_
            exact ih (m + 1) x_178_23 x_176_22 (by omega) (by omega) (by unfold cnP; first | (rw [pIf_pos (by unfold resP; first | exact ⟨by omega, by assumption⟩ | exact ⟨by omega, Or.inl ⟨by omega, by omega⟩⟩ | exact ⟨by omega, Or.inr ⟨by omega, by omega, by assumption⟩⟩)]; omega) | (rw [pIf_neg (fun z => by unfold resP at z; first | exact absurd z.2 (by assumption) | omega | (rcases z with ⟨z1, ⟨z2, z3⟩ | ⟨z2, z3, z4⟩⟩ <;> first | omega | exact absurd z4 (by assumption)))]; omega)) (by omega)
set_option maxRecDepth 100000 in
set_option maxHeartbeats 4000000 in
theorem c_X12_result (G : vG) {n : Nat} {sh : vS} {I : vI} {L : vL} {R : vR} (car w : Int32) (hw : WF n sh R) (h27 : 0 ≤ (I 27 27).toInt ∧ (I 27 27).toInt ≤ 8) (h30 : 0 ≤ (I 27 30).toInt ∧ (I 27 30).toInt ≤ 8) (h35 : 0 ≤ (I 27 35).toInt ∧ (I 27 35).toInt ≤ 8) (hpv : hasDueP I → PV I) : CT G yX12_result cX12_result 6 (some .int) 6 0 0 [.ref (ad G 27), .int car, .int w] n sh I L R (PI n sh L R (fun I' o => I = I' ∧ ∃ v : Int32, o = some (.int v) ∧ v.toInt = sResult I car w)) := by
  refine CT_of (own := RX12) (ini := false) (lo := [(0, .ref (ad G 27)), (1, .int car), (2, .int w)]) mf_X12_result (Nat.le_of_ble_eq_true rfl) rfl (fun h => by first | rfl | cases h) rfl ?_
  refine V_aload_n (pc := 0) 0 dX12_result_0 rfl rfl ?_
  refine V_iload_n (pc := 1) 1 dX12_result_1 rfl rfl ?_
  refine V_callV (pc := 2) (As := [.int car]) (st := []) (c_X12_noCar G car hw h35.1) mf_X12_noCar ml_X12_243 iv_X12_noCar (wN hw (by decide)) (wS1 hw (by decide) rfl) (by decide) rfl dX12_result_2 rfl rfl (by omega) (by omega) (by omega) (Nat.le_of_ble_eq_true rfl) (fun r_2_1 n_2_1 sh_2_1 I_2_1 L_2_1 R_2_1 hq_2_1 => ?_)
  obtain ⟨rfl, rfl, rfl, rfl, rfl, hq_2_1⟩ := hq_2_1
  rcases hq_2_1 with ⟨c_2_1, rfl⟩ | ⟨c_2_1, rfl⟩
  · have c_2_1 : ¬ (0 ≤ car.toInt ∧ car.toInt < (I 27 35).toInt) := c_2_1
    refine V_if_eq_f (pc := 5) (tgt := 10) dX12_result_5 (by decide) (by decide) ?_
    refine V_iconst (pc := 8) (v := (-1)) dX12_result_8 rfl ?_
    refine V_iret (pc := 9) rfl rfl dX12_result_9 (by omega) (by omega) ?_
    refine ⟨rfl, rfl, rfl, rfl, rfl, _, rfl, ?_⟩
    unfold sResult
    rw [if_pos (by unfold isCar; omega)]
    rfl
  · have c_2_1 : ¬ (¬ (0 ≤ car.toInt ∧ car.toInt < (I 27 35).toInt)) := c_2_1
    refine V_if_eq_t (pc := 5) (tgt := 10) dX12_result_5 (by decide) (by decide) ?_
    refine V_iload_n (pc := 10) 2 dX12_result_10 rfl rfl ?_
    refine V_i2l (pc := 11) dX12_result_11 (fun x_11_2 e_11_2 => ?_)
    have t_11_2 : x_11_2.toInt = w.toInt := i2lT e_11_2 rfl
    have b_11_2 := fb_rng w
    refine V_lconst (pc := 12) (v := 0) dX12_result_12 rfl ?_
    refine V_ldc2 (pc := 13) dX12_result_13 kk_X12_135 ?_
    refine V_callS (pc := 16) (As := [.long x_11_2, .long 0, .long 3]) (st := []) (c_X12_in G x_11_2 0 3) mf_X12_in ml_X12_111 st_X12_in dX12_result_16 rfl rfl (by omega) (by omega) (by omega) (Nat.le_of_ble_eq_true rfl) (fun r_16_3 n_16_3 sh_16_3 I_16_3 L_16_3 R_16_3 hq_16_3 => ?_)
    obtain ⟨rfl, rfl, rfl, rfl, rfl, hq_16_3⟩ := hq_16_3
    rcases hq_16_3 with ⟨c_16_3, rfl⟩ | ⟨c_16_3, rfl⟩
    · have c_16_3 : 0 ≤ x_11_2.toInt ∧ x_11_2.toInt ≤ 3 := c_16_3
      refine V_if_ne_t (pc := 19) (tgt := 25) dX12_result_19 (by decide) (by decide) ?_
      refine V_aload_n (pc := 25) 0 dX12_result_25 rfl rfl ?_
      refine V_callV (pc := 26) (As := []) (st := []) (c_X12_hasDue G hw (by assumption)) mf_X12_hasDue ml_X12_220 iv_X12_hasDue (wN hw (by decide)) (wS1 hw (by decide) rfl) (by decide) rfl dX12_result_26 rfl rfl (by omega) (by omega) (by omega) (Nat.le_of_ble_eq_true rfl) (fun r_26_4 n_26_4 sh_26_4 I_26_4 L_26_4 R_26_4 hq_26_4 => ?_)
      obtain ⟨rfl, rfl, rfl, rfl, rfl, hq_26_4⟩ := hq_26_4
      rcases hq_26_4 with ⟨c_26_4, rfl⟩ | ⟨c_26_4, rfl⟩
      · have c_26_4 := c_26_4
        refine V_if_ne_t (pc := 29) (tgt := 35) dX12_result_29 (by decide) (by decide) ?_
        refine V_iload_n (pc := 35) 2 dX12_result_35 rfl rfl ?_
        refine V_if_ne (pc := 36) (tgt := 45) dX12_result_36 (by decide) (fun c_36_5 => ?_) (fun c_36_5 => ?_)
        · have c_36_5 : w.toInt ≠ 0 := c_36_5
          refine V_iconst (pc := 45) (v := 0) dX12_result_45 rfl ?_
          refine V_istore_n (pc := 46) (lo' := [(0, .ref (ad G 27)), (1, .int car), (2, .int w), (3, .int 0)]) dX12_result_46 rfl (by decide) rfl ?_
          refine V_iload_n (pc := 47) 2 dX12_result_47 rfl rfl ?_
          refine V_iconst (pc := 48) (v := 1) dX12_result_48 rfl ?_
          refine V_icmp_ne (pc := 49) (tgt := 98) dX12_result_49 (by decide) (fun c_49_6 => ?_) (fun c_49_6 => ?_)
          · have c_49_6 : w.toInt ≠ 1 := c_49_6
            refine V_iconst (pc := 98) (v := 0) dX12_result_98 rfl ?_
            refine V_istore (pc := 99) (lo' := [(0, .ref (ad G 27)), (1, .int car), (2, .int w), (3, .int 0), (4, .int 0)]) dX12_result_99 (by decide) rfl ?_
            exact l_X12_result_b G car w hw (hpv (by assumption)) (by assumption) h35 h30 (by unfold isCar; omega) (by omega) ((I 27 30).toInt.toNat + 1) 0 0 0 (by omega) rfl rfl (by omega)
          · have c_49_6 : w.toInt = 1 := c_49_6
            refine V_iconst (pc := 52) (v := 0) dX12_result_52 rfl ?_
            refine V_istore (pc := 53) (lo' := [(0, .ref (ad G 27)), (1, .int car), (2, .int w), (3, .int 0), (4, .int 0)]) dX12_result_53 (by decide) rfl ?_
            exact l_X12_result_a G car w hw (hpv (by assumption)) (by assumption) h35 h30 (by unfold isCar; omega) (by omega) ((I 27 35).toInt.toNat + 1) 0 0 0 (by omega) rfl rfl (by omega)
        · have c_36_5 : w.toInt = 0 := c_36_5
          refine V_aload_n (pc := 39) 0 dX12_result_39 rfl rfl ?_
          refine V_iload_n (pc := 40) 1 dX12_result_40 rfl rfl ?_
          refine V_callV (pc := 41) (As := [.int car]) (st := []) (c_X12_totalOf G car car.toInt hw (hpv (by assumption)) (by omega) (by omega)) mf_X12_totalOf ml_X12_268 iv_X12_totalOf (wN hw (by decide)) (wS1 hw (by decide) rfl) (by decide) rfl dX12_result_41 rfl rfl (by omega) (by omega) (by omega) (Nat.le_of_ble_eq_true rfl) (fun r_41_7 n_41_7 sh_41_7 I_41_7 L_41_7 R_41_7 hq_41_7 => ?_)
          obtain ⟨rfl, rfl, rfl, rfl, rfl, v_41_7, rfl, hv_41_7⟩ := hq_41_7
          refine V_iret (pc := 44) rfl rfl dX12_result_44 (by omega) (by omega) ?_
          refine ⟨rfl, rfl, rfl, rfl, rfl, _, rfl, ?_⟩
          unfold sResult
          rw [if_neg (by unfold isCar; omega), if_neg (by omega), pIf_pos (by assumption), if_pos (by omega)]
          omega
      · have c_26_4 := c_26_4
        refine V_if_ne_f (pc := 29) (tgt := 35) dX12_result_29 (by decide) (by decide) ?_
        refine V_bipush (pc := 32) (v := (-3)) dX12_result_32 rfl ?_
        refine V_iret (pc := 34) rfl rfl dX12_result_34 (by omega) (by omega) ?_
        refine ⟨rfl, rfl, rfl, rfl, rfl, _, rfl, ?_⟩
        unfold sResult
        rw [if_neg (by unfold isCar; omega), if_neg (by omega), pIf_neg (by assumption)]
        rfl
    · have c_16_3 : ¬ (0 ≤ x_11_2.toInt ∧ x_11_2.toInt ≤ 3) := c_16_3
      refine V_if_ne_f (pc := 19) (tgt := 25) dX12_result_19 (by decide) (by decide) ?_
      refine V_bipush (pc := 22) (v := (-2)) dX12_result_22 rfl ?_
      refine V_iret (pc := 24) rfl rfl dX12_result_24 (by omega) (by omega) ?_
      refine ⟨rfl, rfl, rfl, rfl, rfl, _, rfl, ?_⟩
      unfold sResult
      rw [if_neg (by unfold isCar; omega), if_pos (by omega)]
      rfl
