set_option maxRecDepth 100000 in
set_option maxHeartbeats 4000000 in
theorem l_X12_copy_b (G : vG) {n : Nat} {sh : vS} {I : vI} {L : vL} {R : vR} (k i o j m0 : Int32) (hw : WF n sh R) (hk0 : 0 ≤ k.toInt ∧ k.toInt ≤ 3) (ho0 : 0 ≤ o.toInt ∧ o.toInt ≤ 3) (hz1 : 0 ≤ (I 34 k.toInt.toNat).toInt) (hz2 : 0 ≤ (I 34 o.toInt.toNat).toInt) (hll : (I 35 k.toInt.toNat).toInt = (I 35 o.toInt.toNat).toInt) (hm0 : 0 ≤ m0.toInt) (hi : 0 ≤ i.toInt ∧ i.toInt + m0.toInt ≤ (I 34 k.toInt.toNat).toInt) (hj : 0 ≤ j.toInt ∧ j.toInt + m0.toInt ≤ (I 34 o.toInt.toNat).toInt) (hr1 : (I 34 k.toInt.toNat).toInt ≤ 32) (hr2 : (I 34 o.toInt.toNat).toInt ≤ 32) : ∀ (f m : Nat) (x : Int32) (J : vI) (hm : (m : Int) ≤ m0.toInt) (hx : x.toInt = (m : Int)) (hJ : J = cp2F I (cp1F I k i m0.toInt.toNat) o j m) (hf : m0.toInt < (m : Int) + f), V G RX12 cX12_copy (some .int) false 2 0 0 7 (PI n sh L R (qi (sCopy I k i o j m0))) 142 [(0, .ref (ad G 27)), (1, .int k), (2, .int i), (3, .int o), (4, .int j), (5, .int m0), (6, .int x)] [] 0 0 n sh J L R := by
  intro f
  induction f with
  | zero => intro m x J hm hx hJ hf; omega
  | succ f ih =>
    intro m x J hm hx hJ hf
    refine V_iload (pc := 142) 6 dX12_copy_142 rfl ?_
    refine V_iload (pc := 144) 5 dX12_copy_144 rfl ?_
    refine V_icmp_ge (pc := 146) (tgt := 177) dX12_copy_146 (by decide) (fun c_146_1 => ?_) (fun c_146_1 => ?_)
    · have c_146_1 : m0.toInt ≤ x.toInt := c_146_1
      refine V_aload_n (pc := 177) 0 dX12_copy_177 rfl rfl ?_
      refine V_iload (pc := 178) 5 dX12_copy_178 rfl ?_
      refine V_callV (pc := 180) (As := [.int m0]) (st := []) (c_X12_refused G m0 hw) mf_X12_refused ml_X12_128 iv_X12_refused (wN hw (by decide)) (wS1 hw (by decide) rfl) (by decide) rfl dX12_copy_180 rfl rfl (by omega) (by omega) (by omega) (Nat.le_of_ble_eq_true rfl) (fun r_180_2 n_180_2 sh_180_2 I_180_2 L_180_2 R_180_2 hq_180_2 => ?_)
      obtain ⟨rfl, rfl, rfl, rfl, rfl, rfl⟩ := hq_180_2
      refine V_iret (pc := 183) rfl rfl dX12_copy_183 (by omega) (by omega) ?_
      have e1 : m0.toInt.toNat = m := by omega
      refine ⟨rfl, rfl, rfl, rfl, _, ?_, rfl⟩
      unfold sCopy
      rw [if_neg (by unfold isSheet; omega), if_neg (by omega), if_neg (by omega), if_neg (by omega)]
      rw [← e1] at hJ
      rw [← hJ]
    · have c_146_1 : x.toInt < m0.toInt := c_146_1
      refine V_aload_n (pc := 149) 0 dX12_copy_149 rfl rfl ?_
      refine V_getR (pc := 150) (j := 36) fk_X12_35_12 (wR hw (i := 27) (k := 10) (j := 36) rfl) dX12_copy_150 (wN hw (by decide)) (wS1 hw (by decide) rfl) ?_
      refine V_bipush (pc := 153) (v := 32) dX12_copy_153 rfl ?_
      refine V_iload_n (pc := 155) 3 dX12_copy_155 rfl rfl ?_
      refine V_imul (pc := 156) dX12_copy_156 (fun x_156_3 e_156_3 => ?_)
      have t_156_3 : x_156_3.toInt = 32 * o.toInt := mulT e_156_3 rfl rfl (by omega) (by omega)
      refine V_iload (pc := 157) 4 dX12_copy_157 rfl ?_
      refine V_iadd (pc := 159) dX12_copy_159 (fun x_159_4 e_159_4 => ?_)
      have t_159_4 : x_159_4.toInt = x_156_3.toInt + j.toInt := addT e_159_4 rfl rfl (by omega) (by omega)
      refine V_iload (pc := 160) 6 dX12_copy_160 rfl ?_
      refine V_iadd (pc := 162) dX12_copy_162 (fun x_162_5 e_162_5 => ?_)
      have t_162_5 : x_162_5.toInt = x_159_4.toInt + x.toInt := addT e_162_5 rfl rfl (by omega) (by omega)
      refine V_aload_n (pc := 163) 0 dX12_copy_163 rfl rfl ?_
      refine V_getR (pc := 164) (j := 37) fk_X12_38_12 (wR hw (i := 27) (k := 11) (j := 37) rfl) dX12_copy_164 (wN hw (by decide)) (wS1 hw (by decide) rfl) ?_
      refine V_iload (pc := 167) 6 dX12_copy_167 rfl ?_
      refine V_ia (pc := 169) (k := m) (v := (J 37 m)) rfl dX12_copy_169 (wN hw (by decide)) (wS hw (by decide) rfl) hx (by omega) ?_
      refine V_iask (pc := 170) (k := (((32 * o.toInt) + j.toInt) + (m : Int)).toNat) dX12_copy_170 (wN hw (by decide)) (wS hw (by decide) rfl) (by omega) (by omega) ?_
      obtain ⟨x_171_6, e_171_6⟩ : ∃ y : Int32, y = x + (1) := ⟨_, rfl⟩
      have t_171_6 : x_171_6.toInt = x.toInt + 1 := addT e_171_6 rfl rfl (by omega) (by omega)
      refine V_iinc (pc := 171) (v := x_171_6) (lo' := [(0, .ref (ad G 27)), (1, .int k), (2, .int i), (3, .int o), (4, .int j), (5, .int m0), (6, .int x_171_6)]) 6 dX12_copy_171 rfl e_171_6.symm (by decide) rfl ?_
      refine V_goto (pc := 174) (tgt := 142) dX12_copy_174 (by decide) ?_
      exact ih (m + 1) x_171_6 _ (by omega) (by omega) (by subst hJ; show _ = up2 (cpF _ _ _ _ m) 36 _ _; unfold cp2F; rw [cpF_o (a := 37) (by decide)]) (by omega)
set_option maxRecDepth 100000 in
set_option maxHeartbeats 4000000 in
theorem l_X12_copy_a (G : vG) {n : Nat} {sh : vS} {I : vI} {L : vL} {R : vR} (k i o j m0 : Int32) (hw : WF n sh R) (hk0 : 0 ≤ k.toInt ∧ k.toInt ≤ 3) (ho0 : 0 ≤ o.toInt ∧ o.toInt ≤ 3) (hz1 : 0 ≤ (I 34 k.toInt.toNat).toInt) (hz2 : 0 ≤ (I 34 o.toInt.toNat).toInt) (hll : (I 35 k.toInt.toNat).toInt = (I 35 o.toInt.toNat).toInt) (hm0 : 0 ≤ m0.toInt) (hi : 0 ≤ i.toInt ∧ i.toInt + m0.toInt ≤ (I 34 k.toInt.toNat).toInt) (hj : 0 ≤ j.toInt ∧ j.toInt + m0.toInt ≤ (I 34 o.toInt.toNat).toInt) (hr1 : (I 34 k.toInt.toNat).toInt ≤ 32) (hr2 : (I 34 o.toInt.toNat).toInt ≤ 32) : ∀ (f m : Nat) (x : Int32) (J : vI) (hm : (m : Int) ≤ m0.toInt) (hx : x.toInt = (m : Int)) (hJ : J = cp1F I k i m) (hf : m0.toInt < (m : Int) + f), V G RX12 cX12_copy (some .int) false 2 0 0 7 (PI n sh L R (qi (sCopy I k i o j m0))) 105 [(0, .ref (ad G 27)), (1, .int k), (2, .int i), (3, .int o), (4, .int j), (5, .int m0), (6, .int x)] [] 0 0 n sh J L R := by
  intro f
  induction f with
  | zero => intro m x J hm hx hJ hf; omega
  | succ f ih =>
    intro m x J hm hx hJ hf
    refine V_iload (pc := 105) 6 dX12_copy_105 rfl ?_
    refine V_iload (pc := 107) 5 dX12_copy_107 rfl ?_
    refine V_icmp_ge (pc := 109) (tgt := 139) dX12_copy_109 (by decide) (fun c_109_1 => ?_) (fun c_109_1 => ?_)
    · have c_109_1 : m0.toInt ≤ x.toInt := c_109_1
      refine V_iconst (pc := 139) (v := 0) dX12_copy_139 rfl ?_
      refine V_istore (pc := 140) (lo' := [(0, .ref (ad G 27)), (1, .int k), (2, .int i), (3, .int o), (4, .int j), (5, .int m0), (6, .int 0)]) dX12_copy_140 (by decide) rfl ?_
      have e1 : m0.toInt.toNat = m := by omega
      rw [← e1] at hJ
      exact l_X12_copy_b G k i o j m0 hw hk0 ho0 hz1 hz2 hll hm0 hi hj hr1 hr2 (m0.toInt.toNat + 1) 0 0 _ (by omega) rfl (by rw [hJ]; rfl) (by omega)
    · have c_109_1 : x.toInt < m0.toInt := c_109_1
      refine V_aload_n (pc := 112) 0 dX12_copy_112 rfl rfl ?_
      refine V_getR (pc := 113) (j := 37) fk_X12_38_12 (wR hw (i := 27) (k := 11) (j := 37) rfl) dX12_copy_113 (wN hw (by decide)) (wS1 hw (by decide) rfl) ?_
      refine V_iload (pc := 116) 6 dX12_copy_116 rfl ?_
      refine V_aload_n (pc := 118) 0 dX12_copy_118 rfl rfl ?_
      refine V_getR (pc := 119) (j := 36) fk_X12_35_12 (wR hw (i := 27) (k := 10) (j := 36) rfl) dX12_copy_119 (wN hw (by decide)) (wS1 hw (by decide) rfl) ?_
      refine V_bipush (pc := 122) (v := 32) dX12_copy_122 rfl ?_
      refine V_iload_n (pc := 124) 1 dX12_copy_124 rfl rfl ?_
      refine V_imul (pc := 125) dX12_copy_125 (fun x_125_2 e_125_2 => ?_)
      have t_125_2 : x_125_2.toInt = 32 * k.toInt := mulT e_125_2 rfl rfl (by omega) (by omega)
      refine V_iload_n (pc := 126) 2 dX12_copy_126 rfl rfl ?_
      refine V_iadd (pc := 127) dX12_copy_127 (fun x_127_3 e_127_3 => ?_)
      have t_127_3 : x_127_3.toInt = x_125_2.toInt + i.toInt := addT e_127_3 rfl rfl (by omega) (by omega)
      refine V_iload (pc := 128) 6 dX12_copy_128 rfl ?_
      refine V_iadd (pc := 130) dX12_copy_130 (fun x_130_4 e_130_4 => ?_)
      have t_130_4 : x_130_4.toInt = x_127_3.toInt + x.toInt := addT e_130_4 rfl rfl (by omega) (by omega)
      refine V_ia (pc := 131) (k := (((32 * k.toInt) + i.toInt) + (m : Int)).toNat) (v := (J 36 (((32 * k.toInt) + i.toInt) + (m : Int)).toNat)) rfl dX12_copy_131 (wN hw (by decide)) (wS hw (by decide) rfl) (by omega) (by omega) ?_
      refine V_iask (pc := 132) (k := m) dX12_copy_132 (wN hw (by decide)) (wS hw (by decide) rfl) hx (by omega) ?_
      obtain ⟨x_133_5, e_133_5⟩ : ∃ y : Int32, y = x + (1) := ⟨_, rfl⟩
      have t_133_5 : x_133_5.toInt = x.toInt + 1 := addT e_133_5 rfl rfl (by omega) (by omega)
      refine V_iinc (pc := 133) (v := x_133_5) (lo' := [(0, .ref (ad G 27)), (1, .int k), (2, .int i), (3, .int o), (4, .int j), (5, .int m0), (6, .int x_133_5)]) 6 dX12_copy_133 rfl e_133_5.symm (by decide) rfl ?_
      refine V_goto (pc := 136) (tgt := 105) dX12_copy_136 (by decide) ?_
      exact ih (m + 1) x_133_5 _ (by omega) (by omega) (by subst hJ; show _ = up2 (cpF _ _ _ _ m) 37 _ _; unfold cp1F; rw [cpF_o (a := 36) (by decide)]; simp [up2]) (by omega)
set_option maxRecDepth 100000 in
set_option maxHeartbeats 4000000 in
theorem c_X12_copy (G : vG) {n : Nat} {sh : vS} {I : vI} {L : vL} {R : vR} (k i o j m0 : Int32) (hw : WF n sh R) (hs : ∀ k, k < 4 → -1 ≤ (I 34 k).toInt ∧ (I 34 k).toInt ≤ 32) : CT G yX12_copy cX12_copy 7 (some .int) 2 0 0 [.ref (ad G 27), .int k, .int i, .int o, .int j, .int m0] n sh I L R (PI n sh L R (qi (sCopy I k i o j m0))) := by
  refine CT_of (own := RX12) (ini := false) (lo := [(0, .ref (ad G 27)), (1, .int k), (2, .int i), (3, .int o), (4, .int j), (5, .int m0)]) mf_X12_copy (Nat.le_of_ble_eq_true rfl) rfl (fun h => by first | rfl | cases h) rfl ?_
  have hz : ∀ z : Int32, 0 ≤ z.toInt → z.toInt ≤ 3 → -1 ≤ (I 34 z.toInt.toNat).toInt ∧ (I 34 z.toInt.toNat).toInt ≤ 32 := fun z _ _ => hs _ (by omega)
  have hzk := hz k
  have hzo := hz o
  refine V_iload_n (pc := 0) 1 dX12_copy_0 rfl rfl ?_
  refine V_callS (pc := 1) (As := [.int k]) (st := []) (c_X12_noSheet G k) mf_X12_noSheet ml_X12_137 st_X12_noSheet dX12_copy_1 rfl rfl (by omega) (by omega) (by omega) (Nat.le_of_ble_eq_true rfl) (fun r_1_1 n_1_1 sh_1_1 I_1_1 L_1_1 R_1_1 hq_1_1 => ?_)
  obtain ⟨rfl, rfl, rfl, rfl, rfl, hq_1_1⟩ := hq_1_1
  rcases hq_1_1 with ⟨c_1_1, rfl⟩ | ⟨c_1_1, rfl⟩
  · have c_1_1 : ¬ (0 ≤ k.toInt ∧ k.toInt ≤ 3) := c_1_1
    refine V_if_ne_t (pc := 4) (tgt := 14) dX12_copy_4 (by decide) (by decide) ?_
    refine V_aload_n (pc := 14) 0 dX12_copy_14 rfl rfl ?_
    refine V_iconst (pc := 15) (v := (-1)) dX12_copy_15 rfl ?_
    refine V_callV (pc := 16) (As := [.int (-1)]) (st := []) (c_X12_refused G (-1) hw) mf_X12_refused ml_X12_128 iv_X12_refused (wN hw (by decide)) (wS1 hw (by decide) rfl) (by decide) rfl dX12_copy_16 rfl rfl (by omega) (by omega) (by omega) (Nat.le_of_ble_eq_true rfl) (fun r_16_2 n_16_2 sh_16_2 I_16_2 L_16_2 R_16_2 hq_16_2 => ?_)
    obtain ⟨rfl, rfl, rfl, rfl, rfl, rfl⟩ := hq_16_2
    refine V_iret (pc := 19) rfl rfl dX12_copy_19 (by omega) (by omega) ?_
    subst_vars
    refine ⟨rfl, rfl, rfl, rfl, _, ?_, rfl⟩
    unfold sCopy isSheet
    (repeat' split) <;> first | rfl | (exfalso; omega)
  · have c_1_1 : ¬ (¬ (0 ≤ k.toInt ∧ k.toInt ≤ 3)) := c_1_1
    refine V_if_ne_f (pc := 4) (tgt := 14) dX12_copy_4 (by decide) (by decide) ?_
    refine V_iload_n (pc := 7) 3 dX12_copy_7 rfl rfl ?_
    refine V_callS (pc := 8) (As := [.int o]) (st := []) (c_X12_noSheet G o) mf_X12_noSheet ml_X12_137 st_X12_noSheet dX12_copy_8 rfl rfl (by omega) (by omega) (by omega) (Nat.le_of_ble_eq_true rfl) (fun r_8_3 n_8_3 sh_8_3 I_8_3 L_8_3 R_8_3 hq_8_3 => ?_)
    obtain ⟨rfl, rfl, rfl, rfl, rfl, hq_8_3⟩ := hq_8_3
    rcases hq_8_3 with ⟨c_8_3, rfl⟩ | ⟨c_8_3, rfl⟩
    · have c_8_3 : ¬ (0 ≤ o.toInt ∧ o.toInt ≤ 3) := c_8_3
      refine V_if_eq_f (pc := 11) (tgt := 20) dX12_copy_11 (by decide) (by decide) ?_
      refine V_aload_n (pc := 14) 0 dX12_copy_14 rfl rfl ?_
      refine V_iconst (pc := 15) (v := (-1)) dX12_copy_15 rfl ?_
      refine V_callV (pc := 16) (As := [.int (-1)]) (st := []) (c_X12_refused G (-1) hw) mf_X12_refused ml_X12_128 iv_X12_refused (wN hw (by decide)) (wS1 hw (by decide) rfl) (by decide) rfl dX12_copy_16 rfl rfl (by omega) (by omega) (by omega) (Nat.le_of_ble_eq_true rfl) (fun r_16_4 n_16_4 sh_16_4 I_16_4 L_16_4 R_16_4 hq_16_4 => ?_)
      obtain ⟨rfl, rfl, rfl, rfl, rfl, rfl⟩ := hq_16_4
      refine V_iret (pc := 19) rfl rfl dX12_copy_19 (by omega) (by omega) ?_
      subst_vars
      refine ⟨rfl, rfl, rfl, rfl, _, ?_, rfl⟩
      unfold sCopy isSheet
      (repeat' split) <;> first | rfl | (exfalso; omega)
    · have c_8_3 : ¬ (¬ (0 ≤ o.toInt ∧ o.toInt ≤ 3)) := c_8_3
      refine V_if_eq_t (pc := 11) (tgt := 20) dX12_copy_11 (by decide) (by decide) ?_
      refine V_aload_n (pc := 20) 0 dX12_copy_20 rfl rfl ?_
      refine V_getR (pc := 21) (j := 34) fk_X12_29_12 (wR hw (i := 27) (k := 8) (j := 34) rfl) dX12_copy_21 (wN hw (by decide)) (wS1 hw (by decide) rfl) ?_
      refine V_iload_n (pc := 24) 1 dX12_copy_24 rfl rfl ?_
      refine V_ia (pc := 25) (k := k.toInt.toNat) (v := (I 34 k.toInt.toNat)) rfl dX12_copy_25 (wN hw (by decide)) (wS hw (by decide) rfl) (by omega) (by omega) ?_
      refine V_if_lt (pc := 26) (tgt := 38) dX12_copy_26 (by decide) (fun c_26_5 => ?_) (fun c_26_5 => ?_)
      · have c_26_5 : (I 34 k.toInt.toNat).toInt < 0 := c_26_5
        refine V_aload_n (pc := 38) 0 dX12_copy_38 rfl rfl ?_
        refine V_iconst (pc := 39) (v := 1) dX12_copy_39 rfl ?_
        refine V_callV (pc := 40) (As := [.int 1]) (st := []) (c_X12_failed G 1 hw) mf_X12_failed ml_X12_132 iv_X12_failed (wN hw (by decide)) (wS1 hw (by decide) rfl) (by decide) rfl dX12_copy_40 rfl rfl (by omega) (by omega) (by omega) (Nat.le_of_ble_eq_true rfl) (fun r_40_6 n_40_6 sh_40_6 I_40_6 L_40_6 R_40_6 hq_40_6 => ?_)
        obtain ⟨rfl, rfl, rfl, rfl, rfl, rfl⟩ := hq_40_6
        refine V_iret (pc := 43) rfl rfl dX12_copy_43 (by omega) (by omega) ?_
        subst_vars
        refine ⟨rfl, rfl, rfl, rfl, _, ?_, rfl⟩
        unfold sCopy isSheet
        (repeat' split) <;> first | rfl | (exfalso; omega)
      · have c_26_5 : 0 ≤ (I 34 k.toInt.toNat).toInt := c_26_5
        refine V_aload_n (pc := 29) 0 dX12_copy_29 rfl rfl ?_
        refine V_getR (pc := 30) (j := 34) fk_X12_29_12 (wR hw (i := 27) (k := 8) (j := 34) rfl) dX12_copy_30 (wN hw (by decide)) (wS1 hw (by decide) rfl) ?_
        refine V_iload_n (pc := 33) 3 dX12_copy_33 rfl rfl ?_
        refine V_ia (pc := 34) (k := o.toInt.toNat) (v := (I 34 o.toInt.toNat)) rfl dX12_copy_34 (wN hw (by decide)) (wS hw (by decide) rfl) (by omega) (by omega) ?_
        refine V_if_ge (pc := 35) (tgt := 44) dX12_copy_35 (by decide) (fun c_35_7 => ?_) (fun c_35_7 => ?_)
        · have c_35_7 : 0 ≤ (I 34 o.toInt.toNat).toInt := c_35_7
          refine V_aload_n (pc := 44) 0 dX12_copy_44 rfl rfl ?_
          refine V_getR (pc := 45) (j := 35) fk_X12_32_12 (wR hw (i := 27) (k := 9) (j := 35) rfl) dX12_copy_45 (wN hw (by decide)) (wS1 hw (by decide) rfl) ?_
          refine V_iload_n (pc := 48) 1 dX12_copy_48 rfl rfl ?_
          refine V_ia (pc := 49) (k := k.toInt.toNat) (v := (I 35 k.toInt.toNat)) rfl dX12_copy_49 (wN hw (by decide)) (wS hw (by decide) rfl) (by omega) (by omega) ?_
          refine V_aload_n (pc := 50) 0 dX12_copy_50 rfl rfl ?_
          refine V_getR (pc := 51) (j := 35) fk_X12_32_12 (wR hw (i := 27) (k := 9) (j := 35) rfl) dX12_copy_51 (wN hw (by decide)) (wS1 hw (by decide) rfl) ?_
          refine V_iload_n (pc := 54) 3 dX12_copy_54 rfl rfl ?_
          refine V_ia (pc := 55) (k := o.toInt.toNat) (v := (I 35 o.toInt.toNat)) rfl dX12_copy_55 (wN hw (by decide)) (wS hw (by decide) rfl) (by omega) (by omega) ?_
          refine V_icmp_eq (pc := 56) (tgt := 65) dX12_copy_56 (by decide) (fun c_56_8 => ?_) (fun c_56_8 => ?_)
          · have c_56_8 : (I 35 k.toInt.toNat).toInt = (I 35 o.toInt.toNat).toInt := c_56_8
            refine V_iload_n (pc := 65) 2 dX12_copy_65 rfl rfl ?_
            refine V_iload (pc := 66) 5 dX12_copy_66 rfl ?_
            refine V_aload_n (pc := 68) 0 dX12_copy_68 rfl rfl ?_
            refine V_getR (pc := 69) (j := 34) fk_X12_29_12 (wR hw (i := 27) (k := 8) (j := 34) rfl) dX12_copy_69 (wN hw (by decide)) (wS1 hw (by decide) rfl) ?_
            refine V_iload_n (pc := 72) 1 dX12_copy_72 rfl rfl ?_
            refine V_ia (pc := 73) (k := k.toInt.toNat) (v := (I 34 k.toInt.toNat)) rfl dX12_copy_73 (wN hw (by decide)) (wS hw (by decide) rfl) (by omega) (by omega) ?_
            refine V_callS (pc := 74) (As := [.int i, .int m0, .int (I 34 k.toInt.toNat)]) (st := []) (c_X12_isBeyond G i m0 (I 34 k.toInt.toNat)) mf_X12_isBeyond ml_X12_148 st_X12_isBeyond dX12_copy_74 rfl rfl (by omega) (by omega) (by omega) (Nat.le_of_ble_eq_true rfl) (fun r_74_9 n_74_9 sh_74_9 I_74_9 L_74_9 R_74_9 hq_74_9 => ?_)
            obtain ⟨rfl, rfl, rfl, rfl, rfl, hq_74_9⟩ := hq_74_9
            rcases hq_74_9 with ⟨c_74_9, rfl⟩ | ⟨c_74_9, rfl⟩
            · have c_74_9 : i.toInt < 0 ∨ m0.toInt < 0 ∨ (I 34 k.toInt.toNat).toInt < i.toInt + m0.toInt := c_74_9
              refine V_if_ne_t (pc := 77) (tgt := 96) dX12_copy_77 (by decide) (by decide) ?_
              refine V_aload_n (pc := 96) 0 dX12_copy_96 rfl rfl ?_
              refine V_iconst (pc := 97) (v := 3) dX12_copy_97 rfl ?_
              refine V_callV (pc := 98) (As := [.int 3]) (st := []) (c_X12_failed G 3 hw) mf_X12_failed ml_X12_132 iv_X12_failed (wN hw (by decide)) (wS1 hw (by decide) rfl) (by decide) rfl dX12_copy_98 rfl rfl (by omega) (by omega) (by omega) (Nat.le_of_ble_eq_true rfl) (fun r_98_10 n_98_10 sh_98_10 I_98_10 L_98_10 R_98_10 hq_98_10 => ?_)
              obtain ⟨rfl, rfl, rfl, rfl, rfl, rfl⟩ := hq_98_10
              refine V_iret (pc := 101) rfl rfl dX12_copy_101 (by omega) (by omega) ?_
              subst_vars
              refine ⟨rfl, rfl, rfl, rfl, _, ?_, rfl⟩
              unfold sCopy isSheet
              (repeat' split) <;> first | rfl | (exfalso; omega)
            · have c_74_9 : ¬ (i.toInt < 0 ∨ m0.toInt < 0 ∨ (I 34 k.toInt.toNat).toInt < i.toInt + m0.toInt) := c_74_9
              refine V_if_ne_f (pc := 77) (tgt := 96) dX12_copy_77 (by decide) (by decide) ?_
              refine V_iload (pc := 80) 4 dX12_copy_80 rfl ?_
              refine V_iload (pc := 82) 5 dX12_copy_82 rfl ?_
              refine V_aload_n (pc := 84) 0 dX12_copy_84 rfl rfl ?_
              refine V_getR (pc := 85) (j := 34) fk_X12_29_12 (wR hw (i := 27) (k := 8) (j := 34) rfl) dX12_copy_85 (wN hw (by decide)) (wS1 hw (by decide) rfl) ?_
              refine V_iload_n (pc := 88) 3 dX12_copy_88 rfl rfl ?_
              refine V_ia (pc := 89) (k := o.toInt.toNat) (v := (I 34 o.toInt.toNat)) rfl dX12_copy_89 (wN hw (by decide)) (wS hw (by decide) rfl) (by omega) (by omega) ?_
              refine V_callS (pc := 90) (As := [.int j, .int m0, .int (I 34 o.toInt.toNat)]) (st := []) (c_X12_isBeyond G j m0 (I 34 o.toInt.toNat)) mf_X12_isBeyond ml_X12_148 st_X12_isBeyond dX12_copy_90 rfl rfl (by omega) (by omega) (by omega) (Nat.le_of_ble_eq_true rfl) (fun r_90_11 n_90_11 sh_90_11 I_90_11 L_90_11 R_90_11 hq_90_11 => ?_)
              obtain ⟨rfl, rfl, rfl, rfl, rfl, hq_90_11⟩ := hq_90_11
              rcases hq_90_11 with ⟨c_90_11, rfl⟩ | ⟨c_90_11, rfl⟩
              · have c_90_11 : j.toInt < 0 ∨ m0.toInt < 0 ∨ (I 34 o.toInt.toNat).toInt < j.toInt + m0.toInt := c_90_11
                refine V_if_eq_f (pc := 93) (tgt := 102) dX12_copy_93 (by decide) (by decide) ?_
                refine V_aload_n (pc := 96) 0 dX12_copy_96 rfl rfl ?_
                refine V_iconst (pc := 97) (v := 3) dX12_copy_97 rfl ?_
                refine V_callV (pc := 98) (As := [.int 3]) (st := []) (c_X12_failed G 3 hw) mf_X12_failed ml_X12_132 iv_X12_failed (wN hw (by decide)) (wS1 hw (by decide) rfl) (by decide) rfl dX12_copy_98 rfl rfl (by omega) (by omega) (by omega) (Nat.le_of_ble_eq_true rfl) (fun r_98_12 n_98_12 sh_98_12 I_98_12 L_98_12 R_98_12 hq_98_12 => ?_)
                obtain ⟨rfl, rfl, rfl, rfl, rfl, rfl⟩ := hq_98_12
                refine V_iret (pc := 101) rfl rfl dX12_copy_101 (by omega) (by omega) ?_
                subst_vars
                refine ⟨rfl, rfl, rfl, rfl, _, ?_, rfl⟩
                unfold sCopy isSheet
                (repeat' split) <;> first | rfl | (exfalso; omega)
              · have c_90_11 : ¬ (j.toInt < 0 ∨ m0.toInt < 0 ∨ (I 34 o.toInt.toNat).toInt < j.toInt + m0.toInt) := c_90_11
                refine V_if_eq_t (pc := 93) (tgt := 102) dX12_copy_93 (by decide) (by decide) ?_
                refine V_iconst (pc := 102) (v := 0) dX12_copy_102 rfl ?_
                refine V_istore (pc := 103) (lo' := [(0, .ref (ad G 27)), (1, .int k), (2, .int i), (3, .int o), (4, .int j), (5, .int m0), (6, .int 0)]) dX12_copy_103 (by decide) rfl ?_
                exact l_X12_copy_a G k i o j m0 hw (by omega) (by omega) (by omega) (by omega) (by omega) (by omega) (by omega) (by omega) (by omega) (by omega) (m0.toInt.toNat + 1) 0 0 _ (by omega) rfl rfl (by omega)
          · have c_56_8 : (I 35 k.toInt.toNat).toInt ≠ (I 35 o.toInt.toNat).toInt := c_56_8
            refine V_aload_n (pc := 59) 0 dX12_copy_59 rfl rfl ?_
            refine V_iconst (pc := 60) (v := 2) dX12_copy_60 rfl ?_
            refine V_callV (pc := 61) (As := [.int 2]) (st := []) (c_X12_failed G 2 hw) mf_X12_failed ml_X12_132 iv_X12_failed (wN hw (by decide)) (wS1 hw (by decide) rfl) (by decide) rfl dX12_copy_61 rfl rfl (by omega) (by omega) (by omega) (Nat.le_of_ble_eq_true rfl) (fun r_61_13 n_61_13 sh_61_13 I_61_13 L_61_13 R_61_13 hq_61_13 => ?_)
            obtain ⟨rfl, rfl, rfl, rfl, rfl, rfl⟩ := hq_61_13
            refine V_iret (pc := 64) rfl rfl dX12_copy_64 (by omega) (by omega) ?_
            subst_vars
            refine ⟨rfl, rfl, rfl, rfl, _, ?_, rfl⟩
            unfold sCopy isSheet
            (repeat' split) <;> first | rfl | (exfalso; omega)
        · have c_35_7 : (I 34 o.toInt.toNat).toInt < 0 := c_35_7
          refine V_aload_n (pc := 38) 0 dX12_copy_38 rfl rfl ?_
          refine V_iconst (pc := 39) (v := 1) dX12_copy_39 rfl ?_
          refine V_callV (pc := 40) (As := [.int 1]) (st := []) (c_X12_failed G 1 hw) mf_X12_failed ml_X12_132 iv_X12_failed (wN hw (by decide)) (wS1 hw (by decide) rfl) (by decide) rfl dX12_copy_40 rfl rfl (by omega) (by omega) (by omega) (Nat.le_of_ble_eq_true rfl) (fun r_40_14 n_40_14 sh_40_14 I_40_14 L_40_14 R_40_14 hq_40_14 => ?_)
          obtain ⟨rfl, rfl, rfl, rfl, rfl, rfl⟩ := hq_40_14
          refine V_iret (pc := 43) rfl rfl dX12_copy_43 (by omega) (by omega) ?_
          subst_vars
          refine ⟨rfl, rfl, rfl, rfl, _, ?_, rfl⟩
          unfold sCopy isSheet
          (repeat' split) <;> first | rfl | (exfalso; omega)
theorem c_X12_wasAhead' (G : vG) {n : Nat} {sh : vS} {I : vI} {L : vL} {R : vR} (k0 i x : Int32) (m : Nat) (hm : x.toInt = (m : Int)) (hw : WF n sh R) (h0 : 0 ≤ k0.toInt ∧ k0.toInt ≤ 3) (hi : 0 ≤ i.toInt) (hx : 0 ≤ x.toInt ∧ i.toInt + x.toInt < 32) : CT G yX12_wasAhead cX12_wasAhead 6 (some .boolean) 0 0 0 [.ref (ad G 27), .int k0, .int i, .int x] n sh I L R (PI n sh L R (fun I' o => I = I' ∧ rb o (∃ y, y < m ∧ aheadP I ((32 * k0.toInt) + i.toInt) (m : Int) y))) := by
  have h := c_X12_wasAhead (n := n) (sh := sh) (I := I) (L := L) (R := R) G k0 i x hw h0 hi hx
  rw [hm] at h
  exact h
set_option maxRecDepth 100000 in
set_option maxHeartbeats 4000000 in
theorem l_X12_proved (G : vG) {n : Nat} {sh : vS} {I : vI} {L : vL} {R : vR} (k i m0 : Int32) (hw : WF n sh R) (h1 : 0 ≤ (I 27 1).toInt ∧ (I 27 1).toInt ≤ 16) (h12 : 1 ≤ (I 27 12).toInt ∧ (I 27 12).toInt ≤ 8) (hlen : ∀ r, r < 16 → 0 ≤ (I 30 r).toInt ∧ (I 30 r).toInt ≤ 20000) (hk0 : 0 ≤ k.toInt ∧ k.toInt ≤ 3) (hi : 0 ≤ i.toInt) (hm0 : 0 ≤ m0.toInt ∧ i.toInt + m0.toInt ≤ 32) : ∀ (f m : Nat) (x : Int32) (s : Int32) (c : Int32) (a : Int64) (hm : (m : Int) ≤ m0.toInt) (hx : x.toInt = (m : Int)) (hpv : pvF I ((32 * k.toInt) + i.toInt) m0.toInt.toNat m0.toInt.toNat 0 (I 38 0).toInt 1 0 = pvF I ((32 * k.toInt) + i.toInt) m0.toInt.toNat (m0.toInt.toNat - m) m s.toInt c.toInt a.toInt) (hc : 1 ≤ c.toInt ∧ c.toInt ≤ (I 27 12).toInt) (ha : 0 ≤ a.toInt ∧ a.toInt ≤ 20000 * (m : Int)) (hf : m0.toInt < (m : Int) + f), V G RX12 cX12_proved (some .long) false 2 0 0 11 (PI n sh L R (fun I' o2 => I = I' ∧ ∃ v : Int64, o2 = some (.long v) ∧ v.toInt = pvF I ((32 * k.toInt) + i.toInt) m0.toInt.toNat m0.toInt.toNat 0 (I 38 0).toInt 1 0)) 17 [(0, .ref (ad G 27)), (1, .int k), (2, .int i), (3, .int m0), (4, .int s), (5, .int c), (6, .long a), (8, .int x)] [] 0 0 n sh I L R := by
  intro f
  induction f with
  | zero => intro m x s c a hm hx hpv hc ha hf; omega
  | succ f ih =>
    intro m x s c a hm hx hpv hc ha hf
    have hlr := hlen (I 36 (((32 * k.toInt) + i.toInt) + (m : Int)).toNat).toInt.toNat
    refine V_iload (pc := 17) 7 dX12_proved_17 rfl ?_
    refine V_iload_n (pc := 19) 3 dX12_proved_19 rfl rfl ?_
    refine V_icmp_ge (pc := 20) (tgt := 140) dX12_proved_20 (by decide) (fun c_20_1 => ?_) (fun c_20_1 => ?_)
    · have c_20_1 : m0.toInt ≤ x.toInt := c_20_1
      refine V_iload_n (pc := 140) 3 dX12_proved_140 rfl rfl ?_
      refine V_if_eq (pc := 141) (tgt := 175) dX12_proved_141 (by decide) (fun c_141_2 => ?_) (fun c_141_2 => ?_)
      · have c_141_2 : m0.toInt = 0 := c_141_2
        refine V_ldc2 (pc := 175) dX12_proved_175 kk_X12_210 ?_
        refine V_goto (pc := 178) (tgt := 183) dX12_proved_178 (by decide) ?_
        refine V_lret (pc := 183) rfl dX12_proved_183 (by omega) (by omega) ?_
        refine ⟨rfl, rfl, rfl, rfl, rfl, ?_⟩
        refine ⟨_, rfl, ?_⟩
        rw [hpv]
        have e1 : m0.toInt.toNat - m = 0 := by omega
        rw [e1]
        show _ = (if _ then _ else _)
        rw [if_pos (by omega)]
        rfl
      · have c_141_2 : m0.toInt ≠ 0 := c_141_2
        refine V_iload_n (pc := 144) 3 dX12_proved_144 rfl rfl ?_
        refine V_bipush (pc := 145) (v := 10) dX12_proved_145 rfl ?_
        refine V_icmp_gt (pc := 147) (tgt := 175) dX12_proved_147 (by decide) (fun c_147_3 => ?_) (fun c_147_3 => ?_)
        · have c_147_3 : 10 < m0.toInt := c_147_3
          refine V_ldc2 (pc := 175) dX12_proved_175 kk_X12_210 ?_
          refine V_goto (pc := 178) (tgt := 183) dX12_proved_178 (by decide) ?_
          refine V_lret (pc := 183) rfl dX12_proved_183 (by omega) (by omega) ?_
          refine ⟨rfl, rfl, rfl, rfl, rfl, ?_⟩
          refine ⟨_, rfl, ?_⟩
          rw [hpv]
          have e1 : m0.toInt.toNat - m = 0 := by omega
          rw [e1]
          show _ = (if _ then _ else _)
          rw [if_pos (by omega)]
          rfl
        · have c_147_3 : m0.toInt ≤ 10 := c_147_3
          refine V_iload (pc := 150) 5 dX12_proved_150 rfl ?_
          refine V_aload_n (pc := 152) 0 dX12_proved_152 rfl rfl ?_
          refine V_gI (pc := 153) (v := (I 27 12)) rfl fk_X12_161_12 dX12_proved_153 (wN hw (by decide)) (wS1 hw (by decide) rfl) ?_
          refine V_icmp_lt (pc := 156) (tgt := 175) dX12_proved_156 (by decide) (fun c_156_4 => ?_) (fun c_156_4 => ?_)
          · have c_156_4 : c.toInt < (I 27 12).toInt := c_156_4
            refine V_ldc2 (pc := 175) dX12_proved_175 kk_X12_210 ?_
            refine V_goto (pc := 178) (tgt := 183) dX12_proved_178 (by decide) ?_
            refine V_lret (pc := 183) rfl dX12_proved_183 (by omega) (by omega) ?_
            refine ⟨rfl, rfl, rfl, rfl, rfl, ?_⟩
            refine ⟨_, rfl, ?_⟩
            rw [hpv]
            have e1 : m0.toInt.toNat - m = 0 := by omega
            rw [e1]
            show _ = (if _ then _ else _)
            rw [if_pos (by omega)]
            rfl
          · have c_156_4 : (I 27 12).toInt ≤ c.toInt := c_156_4
            refine V_iload (pc := 159) 4 dX12_proved_159 rfl ?_
            refine V_aload_n (pc := 161) 0 dX12_proved_161 rfl rfl ?_
            refine V_getR (pc := 162) (j := 38) fk_X12_41_12 (wR hw (i := 27) (k := 13) (j := 38) rfl) dX12_proved_162 (wN hw (by decide)) (wS1 hw (by decide) rfl) ?_
            refine V_aload_n (pc := 165) 0 dX12_proved_165 rfl rfl ?_
            refine V_gI (pc := 166) (v := (I 27 12)) rfl fk_X12_161_12 dX12_proved_166 (wN hw (by decide)) (wS1 hw (by decide) rfl) ?_
            refine V_iconst (pc := 169) (v := 1) dX12_proved_169 rfl ?_
            refine V_isub (pc := 170) dX12_proved_170 (fun x_170_5 e_170_5 => ?_)
            have t_170_5 : x_170_5.toInt = (I 27 12).toInt - 1 := subT e_170_5 rfl rfl (by omega) (by omega)
            refine V_ia (pc := 171) (k := ((I 27 12).toInt - 1).toNat) (v := (I 38 ((I 27 12).toInt - 1).toNat)) rfl dX12_proved_171 (wN hw (by decide)) (wS hw (by decide) rfl) (by omega) (by omega) ?_
            refine V_icmp_eq (pc := 172) (tgt := 181) dX12_proved_172 (by decide) (fun c_172_6 => ?_) (fun c_172_6 => ?_)
            · have c_172_6 : s.toInt = (I 38 ((I 27 12).toInt - 1).toNat).toInt := c_172_6
              refine V_lload (pc := 181) 6 dX12_proved_181 rfl ?_
              refine V_lret (pc := 183) rfl dX12_proved_183 (by omega) (by omega) ?_
              refine ⟨rfl, rfl, rfl, rfl, rfl, ?_⟩
              refine ⟨_, rfl, ?_⟩
              rw [hpv]
              have e1 : m0.toInt.toNat - m = 0 := by omega
              rw [e1]
              show _ = (if _ then _ else _)
              rw [if_neg (by omega)]
            · have c_172_6 : s.toInt ≠ (I 38 ((I 27 12).toInt - 1).toNat).toInt := c_172_6
              refine V_ldc2 (pc := 175) dX12_proved_175 kk_X12_210 ?_
              refine V_goto (pc := 178) (tgt := 183) dX12_proved_178 (by decide) ?_
              refine V_lret (pc := 183) rfl dX12_proved_183 (by omega) (by omega) ?_
              refine ⟨rfl, rfl, rfl, rfl, rfl, ?_⟩
              refine ⟨_, rfl, ?_⟩
              rw [hpv]
              have e1 : m0.toInt.toNat - m = 0 := by omega
              rw [e1]
              show _ = (if _ then _ else _)
              rw [if_pos (by omega)]
              rfl
    · have c_20_1 : x.toInt < m0.toInt := c_20_1
      refine V_aload_n (pc := 23) 0 dX12_proved_23 rfl rfl ?_
      refine V_getR (pc := 24) (j := 36) fk_X12_35_12 (wR hw (i := 27) (k := 10) (j := 36) rfl) dX12_proved_24 (wN hw (by decide)) (wS1 hw (by decide) rfl) ?_
      refine V_bipush (pc := 27) (v := 32) dX12_proved_27 rfl ?_
      refine V_iload_n (pc := 29) 1 dX12_proved_29 rfl rfl ?_
      refine V_imul (pc := 30) dX12_proved_30 (fun x_30_7 e_30_7 => ?_)
      have t_30_7 : x_30_7.toInt = 32 * k.toInt := mulT e_30_7 rfl rfl (by omega) (by omega)
      refine V_iload_n (pc := 31) 2 dX12_proved_31 rfl rfl ?_
      refine V_iadd (pc := 32) dX12_proved_32 (fun x_32_8 e_32_8 => ?_)
      have t_32_8 : x_32_8.toInt = x_30_7.toInt + i.toInt := addT e_32_8 rfl rfl (by omega) (by omega)
      refine V_iload (pc := 33) 7 dX12_proved_33 rfl ?_
      refine V_iadd (pc := 35) dX12_proved_35 (fun x_35_9 e_35_9 => ?_)
      have t_35_9 : x_35_9.toInt = x_32_8.toInt + x.toInt := addT e_35_9 rfl rfl (by omega) (by omega)
      refine V_ia (pc := 36) (k := (((32 * k.toInt) + i.toInt) + (m : Int)).toNat) (v := (I 36 (((32 * k.toInt) + i.toInt) + (m : Int)).toNat)) rfl dX12_proved_36 (wN hw (by decide)) (wS hw (by decide) rfl) (by omega) (by omega) ?_
      refine V_istore (pc := 37) (lo' := [(0, .ref (ad G 27)), (1, .int k), (2, .int i), (3, .int m0), (4, .int s), (5, .int c), (6, .long a), (8, .int x), (9, .int (I 36 (((32 * k.toInt) + i.toInt) + (m : Int)).toNat))]) dX12_proved_37 (by decide) rfl ?_
      refine V_aload_n (pc := 39) 0 dX12_proved_39 rfl rfl ?_
      refine V_iload (pc := 40) 8 dX12_proved_40 rfl ?_
      refine V_callV (pc := 42) (As := [.int (I 36 (((32 * k.toInt) + i.toInt) + (m : Int)).toNat)]) (st := []) (c_X12_noRoad G (I 36 (((32 * k.toInt) + i.toInt) + (m : Int)).toNat) hw h1.1) mf_X12_noRoad ml_X12_125 iv_X12_noRoad (wN hw (by decide)) (wS1 hw (by decide) rfl) (by decide) rfl dX12_proved_42 rfl rfl (by omega) (by omega) (by omega) (Nat.le_of_ble_eq_true rfl) (fun r_42_10 n_42_10 sh_42_10 I_42_10 L_42_10 R_42_10 hq_42_10 => ?_)
      obtain ⟨rfl, rfl, rfl, rfl, rfl, hq_42_10⟩ := hq_42_10
      rcases hq_42_10 with ⟨c_42_10, rfl⟩ | ⟨c_42_10, rfl⟩
      · have c_42_10 : ¬ (0 ≤ (I 36 (((32 * k.toInt) + i.toInt) + (m : Int)).toNat).toInt ∧ (I 36 (((32 * k.toInt) + i.toInt) + (m : Int)).toNat).toInt < (I 27 1).toInt) := c_42_10
        refine V_if_ne_t (pc := 45) (tgt := 59) dX12_proved_45 (by decide) (by decide) ?_
        refine V_iconst (pc := 59) (v := (-1)) dX12_proved_59 rfl ?_
        refine V_goto (pc := 60) (tgt := 71) dX12_proved_60 (by decide) ?_
        refine V_istore (pc := 71) (lo' := [(0, .ref (ad G 27)), (1, .int k), (2, .int i), (3, .int m0), (4, .int s), (5, .int c), (6, .long a), (8, .int x), (9, .int (I 36 (((32 * k.toInt) + i.toInt) + (m : Int)).toNat)), (10, .int (-1))]) dX12_proved_71 (by decide) rfl ?_
        refine V_iload (pc := 73) 9 dX12_proved_73 rfl ?_
        refine V_if_ge_f (pc := 75) (tgt := 86) dX12_proved_75 (by decide) (by decide) ?_
        refine V_ldc2 (pc := 78) dX12_proved_78 kk_X12_208 ?_
        refine V_iload (pc := 81) 7 dX12_proved_81 rfl ?_
        refine V_i2l (pc := 83) dX12_proved_83 (fun x_83_11 e_83_11 => ?_)
        have t_83_11 : x_83_11.toInt = x.toInt := i2lT e_83_11 rfl
        have b_83_11 := fb_rng x
        refine V_lsub (pc := 84) dX12_proved_84 (fun x_84_12 e_84_12 => ?_)
        have t_84_12 : x_84_12.toInt = (-1) - x_83_11.toInt := lsubT e_84_12 rfl rfl (by omega) (by omega)
        refine V_lret (pc := 85) rfl dX12_proved_85 (by omega) (by omega) ?_
        refine ⟨rfl, rfl, rfl, rfl, rfl, ?_⟩
        refine ⟨_, rfl, ?_⟩
        rw [hpv]
        have e1 : m0.toInt.toNat - m = (m0.toInt.toNat - (m + 1)) + 1 := by omega
        rw [e1, pvF_s, pIf_pos (by first | exact Or.inl (by omega) | exact Or.inr (Or.inl (by assumption)) | exact Or.inr (Or.inr (by omega)))]
        omega
      · have c_42_10 : ¬ (¬ (0 ≤ (I 36 (((32 * k.toInt) + i.toInt) + (m : Int)).toNat).toInt ∧ (I 36 (((32 * k.toInt) + i.toInt) + (m : Int)).toNat).toInt < (I 27 1).toInt)) := c_42_10
        refine V_if_ne_f (pc := 45) (tgt := 59) dX12_proved_45 (by decide) (by decide) ?_
        refine V_aload_n (pc := 48) 0 dX12_proved_48 rfl rfl ?_
        refine V_iload_n (pc := 49) 1 dX12_proved_49 rfl rfl ?_
        refine V_iload_n (pc := 50) 2 dX12_proved_50 rfl rfl ?_
        refine V_iload (pc := 51) 7 dX12_proved_51 rfl ?_
        refine V_callV (pc := 53) (As := [.int k, .int i, .int x]) (st := []) (c_X12_wasAhead' G k i x m hx hw (by omega) (by omega) (by omega)) mf_X12_wasAhead ml_X12_205 iv_X12_wasAhead (wN hw (by decide)) (wS1 hw (by decide) rfl) (by decide) rfl dX12_proved_53 rfl rfl (by omega) (by omega) (by omega) (Nat.le_of_ble_eq_true rfl) (fun r_53_13 n_53_13 sh_53_13 I_53_13 L_53_13 R_53_13 hq_53_13 => ?_)
        obtain ⟨rfl, rfl, rfl, rfl, rfl, hq_53_13⟩ := hq_53_13
        rcases hq_53_13 with ⟨c_53_13, rfl⟩ | ⟨c_53_13, rfl⟩
        · have c_53_13 := c_53_13
          refine V_if_eq_f (pc := 56) (tgt := 63) dX12_proved_56 (by decide) (by decide) ?_
          refine V_iconst (pc := 59) (v := (-1)) dX12_proved_59 rfl ?_
          refine V_goto (pc := 60) (tgt := 71) dX12_proved_60 (by decide) ?_
          refine V_istore (pc := 71) (lo' := [(0, .ref (ad G 27)), (1, .int k), (2, .int i), (3, .int m0), (4, .int s), (5, .int c), (6, .long a), (8, .int x), (9, .int (I 36 (((32 * k.toInt) + i.toInt) + (m : Int)).toNat)), (10, .int (-1))]) dX12_proved_71 (by decide) rfl ?_
          refine V_iload (pc := 73) 9 dX12_proved_73 rfl ?_
          refine V_if_ge_f (pc := 75) (tgt := 86) dX12_proved_75 (by decide) (by decide) ?_
          refine V_ldc2 (pc := 78) dX12_proved_78 kk_X12_208 ?_
          refine V_iload (pc := 81) 7 dX12_proved_81 rfl ?_
          refine V_i2l (pc := 83) dX12_proved_83 (fun x_83_14 e_83_14 => ?_)
          have t_83_14 : x_83_14.toInt = x.toInt := i2lT e_83_14 rfl
          have b_83_14 := fb_rng x
          refine V_lsub (pc := 84) dX12_proved_84 (fun x_84_15 e_84_15 => ?_)
          have t_84_15 : x_84_15.toInt = (-1) - x_83_14.toInt := lsubT e_84_15 rfl rfl (by omega) (by omega)
          refine V_lret (pc := 85) rfl dX12_proved_85 (by omega) (by omega) ?_
          refine ⟨rfl, rfl, rfl, rfl, rfl, ?_⟩
          refine ⟨_, rfl, ?_⟩
          rw [hpv]
          have e1 : m0.toInt.toNat - m = (m0.toInt.toNat - (m + 1)) + 1 := by omega
          rw [e1, pvF_s, pIf_pos (by first | exact Or.inl (by omega) | exact Or.inr (Or.inl (by assumption)) | exact Or.inr (Or.inr (by omega)))]
          omega
        · have c_53_13 := c_53_13
          refine V_if_eq_t (pc := 56) (tgt := 63) dX12_proved_56 (by decide) (by decide) ?_
          refine V_aload_n (pc := 63) 0 dX12_proved_63 rfl rfl ?_
          refine V_iload (pc := 64) 8 dX12_proved_64 rfl ?_
          refine V_iload (pc := 66) 4 dX12_proved_66 rfl ?_
          refine V_callV (pc := 68) (As := [.int (I 36 (((32 * k.toInt) + i.toInt) + (m : Int)).toNat), .int s]) (st := []) (c_X12_leads G (I 36 (((32 * k.toInt) + i.toInt) + (m : Int)).toNat) s hw (by omega)) mf_X12_leads ml_X12_182 iv_X12_leads (wN hw (by decide)) (wS1 hw (by decide) rfl) (by decide) rfl dX12_proved_68 rfl rfl (by omega) (by omega) (by omega) (Nat.le_of_ble_eq_true rfl) (fun r_68_16 n_68_16 sh_68_16 I_68_16 L_68_16 R_68_16 hq_68_16 => ?_)
          obtain ⟨rfl, rfl, rfl, rfl, rfl, v_68_16, rfl, hv_68_16⟩ := hq_68_16
          refine V_istore (pc := 71) (lo' := [(0, .ref (ad G 27)), (1, .int k), (2, .int i), (3, .int m0), (4, .int s), (5, .int c), (6, .long a), (8, .int x), (9, .int (I 36 (((32 * k.toInt) + i.toInt) + (m : Int)).toNat)), (10, .int v_68_16)]) dX12_proved_71 (by decide) rfl ?_
          refine V_iload (pc := 73) 9 dX12_proved_73 rfl ?_
          refine V_if_ge (pc := 75) (tgt := 86) dX12_proved_75 (by decide) (fun c_75_17 => ?_) (fun c_75_17 => ?_)
          · have c_75_17 : 0 ≤ v_68_16.toInt := c_75_17
            refine V_iload (pc := 86) 9 dX12_proved_86 rfl ?_
            refine V_istore (pc := 88) (lo' := [(0, .ref (ad G 27)), (1, .int k), (2, .int i), (3, .int m0), (4, .int v_68_16), (5, .int c), (6, .long a), (8, .int x), (9, .int (I 36 (((32 * k.toInt) + i.toInt) + (m : Int)).toNat)), (10, .int v_68_16)]) dX12_proved_88 (by decide) rfl ?_
            refine V_iload (pc := 90) 5 dX12_proved_90 rfl ?_
            refine V_iload (pc := 92) 5 dX12_proved_92 rfl ?_
            refine V_aload_n (pc := 94) 0 dX12_proved_94 rfl rfl ?_
            refine V_gI (pc := 95) (v := (I 27 12)) rfl fk_X12_161_12 dX12_proved_95 (wN hw (by decide)) (wS1 hw (by decide) rfl) ?_
            refine V_icmp_ge (pc := 98) (tgt := 117) dX12_proved_98 (by decide) (fun c_98_18 => ?_) (fun c_98_18 => ?_)
            · have c_98_18 : (I 27 12).toInt ≤ c.toInt := c_98_18
              refine V_iconst (pc := 117) (v := 0) dX12_proved_117 rfl ?_
              refine V_iadd (pc := 118) dX12_proved_118 (fun x_118_19 e_118_19 => ?_)
              have t_118_19 : x_118_19.toInt = c.toInt + 0 := addT e_118_19 rfl rfl (by omega) (by omega)
              refine V_istore (pc := 119) (lo' := [(0, .ref (ad G 27)), (1, .int k), (2, .int i), (3, .int m0), (4, .int v_68_16), (5, .int x_118_19), (6, .long a), (8, .int x), (9, .int (I 36 (((32 * k.toInt) + i.toInt) + (m : Int)).toNat)), (10, .int v_68_16)]) dX12_proved_119 (by decide) rfl ?_
              refine V_lload (pc := 121) 6 dX12_proved_121 rfl ?_
              refine V_aload_n (pc := 123) 0 dX12_proved_123 rfl rfl ?_
              refine V_getR (pc := 124) (j := 30) fk_X12_16_12 (wR hw (i := 27) (k := 4) (j := 30) rfl) dX12_proved_124 (wN hw (by decide)) (wS1 hw (by decide) rfl) ?_
              refine V_iload (pc := 127) 8 dX12_proved_127 rfl ?_
              refine V_ia (pc := 129) (k := (I 36 (((32 * k.toInt) + i.toInt) + (m : Int)).toNat).toInt.toNat) (v := (I 30 (I 36 (((32 * k.toInt) + i.toInt) + (m : Int)).toNat).toInt.toNat)) rfl dX12_proved_129 (wN hw (by decide)) (wS hw (by decide) rfl) (by omega) (by omega) ?_
              refine V_i2l (pc := 130) dX12_proved_130 (fun x_130_20 e_130_20 => ?_)
              have t_130_20 : x_130_20.toInt = (I 30 (I 36 (((32 * k.toInt) + i.toInt) + (m : Int)).toNat).toInt.toNat).toInt := i2lT e_130_20 rfl
              have b_130_20 := fb_rng (I 30 (I 36 (((32 * k.toInt) + i.toInt) + (m : Int)).toNat).toInt.toNat)
              refine V_ladd (pc := 131) dX12_proved_131 (fun x_131_21 e_131_21 => ?_)
              have t_131_21 : x_131_21.toInt = a.toInt + x_130_20.toInt := laddT e_131_21 rfl rfl (by omega) (by omega)
              refine V_lstore (pc := 132) (lo' := [(0, .ref (ad G 27)), (1, .int k), (2, .int i), (3, .int m0), (4, .int v_68_16), (5, .int x_118_19), (6, .long x_131_21), (8, .int x), (9, .int (I 36 (((32 * k.toInt) + i.toInt) + (m : Int)).toNat)), (10, .int v_68_16)]) dX12_proved_132 (by decide) rfl ?_
              obtain ⟨x_134_22, e_134_22⟩ : ∃ y : Int32, y = x + (1) := ⟨_, rfl⟩
              have t_134_22 : x_134_22.toInt = x.toInt + 1 := addT e_134_22 rfl rfl (by omega) (by omega)
              refine V_iinc (pc := 134) (v := x_134_22) (lo' := [(0, .ref (ad G 27)), (1, .int k), (2, .int i), (3, .int m0), (4, .int v_68_16), (5, .int x_118_19), (6, .long x_131_21), (8, .int x_134_22), (9, .int (I 36 (((32 * k.toInt) + i.toInt) + (m : Int)).toNat)), (10, .int v_68_16)]) 7 dX12_proved_134 rfl e_134_22.symm (by decide) rfl ?_
              refine V_goto (pc := 137) (tgt := 17) dX12_proved_137 (by decide) ?_
              refine V_lo (pc := 17) (lo' := [(0, .ref (ad G 27)), (1, .int k), (2, .int i), (3, .int m0), (4, .int v_68_16), (5, .int x_118_19), (6, .long x_131_21), (8, .int x_134_22)]) [0, 1, 2, 3, 4, 5, 6, 7] rfl ?_
              have e1 : m0.toInt.toNat - m = (m0.toInt.toNat - (m + 1)) + 1 := by omega
              rw [e1, pvF_s, pIf_neg (by rintro (z | z | z) <;> first | (exact absurd z (by assumption)) | omega), ← hv_68_16] at hpv
              have q2 : x_118_19.toInt = c.toInt + (if c.toInt < (I 27 12).toInt ∧ (I 38 c.toInt.toNat).toInt = v_68_16.toInt then 1 else 0) := by split <;> omega
              have q3 : x_131_21.toInt = a.toInt + (I 30 (I 36 (((32 * k.toInt) + i.toInt) + (m : Int)).toNat).toInt.toNat).toInt := by omega
              rw [← q2, ← q3] at hpv
              exact ih (m + 1) x_134_22 v_68_16 x_118_19 x_131_21 (by omega) (by omega) hpv (by split at q2 <;> omega) (by omega) (by omega)
            · have c_98_18 : c.toInt < (I 27 12).toInt := c_98_18
              refine V_aload_n (pc := 101) 0 dX12_proved_101 rfl rfl ?_
              refine V_getR (pc := 102) (j := 38) fk_X12_41_12 (wR hw (i := 27) (k := 13) (j := 38) rfl) dX12_proved_102 (wN hw (by decide)) (wS1 hw (by decide) rfl) ?_
              refine V_iload (pc := 105) 5 dX12_proved_105 rfl ?_
              refine V_ia (pc := 107) (k := c.toInt.toNat) (v := (I 38 c.toInt.toNat)) rfl dX12_proved_107 (wN hw (by decide)) (wS hw (by decide) rfl) (by omega) (by omega) ?_
              refine V_iload (pc := 108) 4 dX12_proved_108 rfl ?_
              refine V_icmp_ne (pc := 110) (tgt := 117) dX12_proved_110 (by decide) (fun c_110_23 => ?_) (fun c_110_23 => ?_)
              · have c_110_23 : (I 38 c.toInt.toNat).toInt ≠ v_68_16.toInt := c_110_23
                refine V_iconst (pc := 117) (v := 0) dX12_proved_117 rfl ?_
                refine V_iadd (pc := 118) dX12_proved_118 (fun x_118_24 e_118_24 => ?_)
                have t_118_24 : x_118_24.toInt = c.toInt + 0 := addT e_118_24 rfl rfl (by omega) (by omega)
                refine V_istore (pc := 119) (lo' := [(0, .ref (ad G 27)), (1, .int k), (2, .int i), (3, .int m0), (4, .int v_68_16), (5, .int x_118_24), (6, .long a), (8, .int x), (9, .int (I 36 (((32 * k.toInt) + i.toInt) + (m : Int)).toNat)), (10, .int v_68_16)]) dX12_proved_119 (by decide) rfl ?_
                refine V_lload (pc := 121) 6 dX12_proved_121 rfl ?_
                refine V_aload_n (pc := 123) 0 dX12_proved_123 rfl rfl ?_
                refine V_getR (pc := 124) (j := 30) fk_X12_16_12 (wR hw (i := 27) (k := 4) (j := 30) rfl) dX12_proved_124 (wN hw (by decide)) (wS1 hw (by decide) rfl) ?_
                refine V_iload (pc := 127) 8 dX12_proved_127 rfl ?_
                refine V_ia (pc := 129) (k := (I 36 (((32 * k.toInt) + i.toInt) + (m : Int)).toNat).toInt.toNat) (v := (I 30 (I 36 (((32 * k.toInt) + i.toInt) + (m : Int)).toNat).toInt.toNat)) rfl dX12_proved_129 (wN hw (by decide)) (wS hw (by decide) rfl) (by omega) (by omega) ?_
                refine V_i2l (pc := 130) dX12_proved_130 (fun x_130_25 e_130_25 => ?_)
                have t_130_25 : x_130_25.toInt = (I 30 (I 36 (((32 * k.toInt) + i.toInt) + (m : Int)).toNat).toInt.toNat).toInt := i2lT e_130_25 rfl
                have b_130_25 := fb_rng (I 30 (I 36 (((32 * k.toInt) + i.toInt) + (m : Int)).toNat).toInt.toNat)
                refine V_ladd (pc := 131) dX12_proved_131 (fun x_131_26 e_131_26 => ?_)
                have t_131_26 : x_131_26.toInt = a.toInt + x_130_25.toInt := laddT e_131_26 rfl rfl (by omega) (by omega)
                refine V_lstore (pc := 132) (lo' := [(0, .ref (ad G 27)), (1, .int k), (2, .int i), (3, .int m0), (4, .int v_68_16), (5, .int x_118_24), (6, .long x_131_26), (8, .int x), (9, .int (I 36 (((32 * k.toInt) + i.toInt) + (m : Int)).toNat)), (10, .int v_68_16)]) dX12_proved_132 (by decide) rfl ?_
                obtain ⟨x_134_27, e_134_27⟩ : ∃ y : Int32, y = x + (1) := ⟨_, rfl⟩
                have t_134_27 : x_134_27.toInt = x.toInt + 1 := addT e_134_27 rfl rfl (by omega) (by omega)
                refine V_iinc (pc := 134) (v := x_134_27) (lo' := [(0, .ref (ad G 27)), (1, .int k), (2, .int i), (3, .int m0), (4, .int v_68_16), (5, .int x_118_24), (6, .long x_131_26), (8, .int x_134_27), (9, .int (I 36 (((32 * k.toInt) + i.toInt) + (m : Int)).toNat)), (10, .int v_68_16)]) 7 dX12_proved_134 rfl e_134_27.symm (by decide) rfl ?_
                refine V_goto (pc := 137) (tgt := 17) dX12_proved_137 (by decide) ?_
                refine V_lo (pc := 17) (lo' := [(0, .ref (ad G 27)), (1, .int k), (2, .int i), (3, .int m0), (4, .int v_68_16), (5, .int x_118_24), (6, .long x_131_26), (8, .int x_134_27)]) [0, 1, 2, 3, 4, 5, 6, 7] rfl ?_
                have e1 : m0.toInt.toNat - m = (m0.toInt.toNat - (m + 1)) + 1 := by omega
                rw [e1, pvF_s, pIf_neg (by rintro (z | z | z) <;> first | (exact absurd z (by assumption)) | omega), ← hv_68_16] at hpv
                have q2 : x_118_24.toInt = c.toInt + (if c.toInt < (I 27 12).toInt ∧ (I 38 c.toInt.toNat).toInt = v_68_16.toInt then 1 else 0) := by split <;> omega
                have q3 : x_131_26.toInt = a.toInt + (I 30 (I 36 (((32 * k.toInt) + i.toInt) + (m : Int)).toNat).toInt.toNat).toInt := by omega
                rw [← q2, ← q3] at hpv
                exact ih (m + 1) x_134_27 v_68_16 x_118_24 x_131_26 (by omega) (by omega) hpv (by split at q2 <;> omega) (by omega) (by omega)
              · have c_110_23 : (I 38 c.toInt.toNat).toInt = v_68_16.toInt := c_110_23
                refine V_iconst (pc := 113) (v := 1) dX12_proved_113 rfl ?_
                refine V_goto (pc := 114) (tgt := 118) dX12_proved_114 (by decide) ?_
                refine V_iadd (pc := 118) dX12_proved_118 (fun x_118_28 e_118_28 => ?_)
                have t_118_28 : x_118_28.toInt = c.toInt + 1 := addT e_118_28 rfl rfl (by omega) (by omega)
                refine V_istore (pc := 119) (lo' := [(0, .ref (ad G 27)), (1, .int k), (2, .int i), (3, .int m0), (4, .int v_68_16), (5, .int x_118_28), (6, .long a), (8, .int x), (9, .int (I 36 (((32 * k.toInt) + i.toInt) + (m : Int)).toNat)), (10, .int v_68_16)]) dX12_proved_119 (by decide) rfl ?_
                refine V_lload (pc := 121) 6 dX12_proved_121 rfl ?_
                refine V_aload_n (pc := 123) 0 dX12_proved_123 rfl rfl ?_
                refine V_getR (pc := 124) (j := 30) fk_X12_16_12 (wR hw (i := 27) (k := 4) (j := 30) rfl) dX12_proved_124 (wN hw (by decide)) (wS1 hw (by decide) rfl) ?_
                refine V_iload (pc := 127) 8 dX12_proved_127 rfl ?_
                refine V_ia (pc := 129) (k := (I 36 (((32 * k.toInt) + i.toInt) + (m : Int)).toNat).toInt.toNat) (v := (I 30 (I 36 (((32 * k.toInt) + i.toInt) + (m : Int)).toNat).toInt.toNat)) rfl dX12_proved_129 (wN hw (by decide)) (wS hw (by decide) rfl) (by omega) (by omega) ?_
                refine V_i2l (pc := 130) dX12_proved_130 (fun x_130_29 e_130_29 => ?_)
                have t_130_29 : x_130_29.toInt = (I 30 (I 36 (((32 * k.toInt) + i.toInt) + (m : Int)).toNat).toInt.toNat).toInt := i2lT e_130_29 rfl
                have b_130_29 := fb_rng (I 30 (I 36 (((32 * k.toInt) + i.toInt) + (m : Int)).toNat).toInt.toNat)
                refine V_ladd (pc := 131) dX12_proved_131 (fun x_131_30 e_131_30 => ?_)
                have t_131_30 : x_131_30.toInt = a.toInt + x_130_29.toInt := laddT e_131_30 rfl rfl (by omega) (by omega)
                refine V_lstore (pc := 132) (lo' := [(0, .ref (ad G 27)), (1, .int k), (2, .int i), (3, .int m0), (4, .int v_68_16), (5, .int x_118_28), (6, .long x_131_30), (8, .int x), (9, .int (I 36 (((32 * k.toInt) + i.toInt) + (m : Int)).toNat)), (10, .int v_68_16)]) dX12_proved_132 (by decide) rfl ?_
                obtain ⟨x_134_31, e_134_31⟩ : ∃ y : Int32, y = x + (1) := ⟨_, rfl⟩
                have t_134_31 : x_134_31.toInt = x.toInt + 1 := addT e_134_31 rfl rfl (by omega) (by omega)
                refine V_iinc (pc := 134) (v := x_134_31) (lo' := [(0, .ref (ad G 27)), (1, .int k), (2, .int i), (3, .int m0), (4, .int v_68_16), (5, .int x_118_28), (6, .long x_131_30), (8, .int x_134_31), (9, .int (I 36 (((32 * k.toInt) + i.toInt) + (m : Int)).toNat)), (10, .int v_68_16)]) 7 dX12_proved_134 rfl e_134_31.symm (by decide) rfl ?_
                refine V_goto (pc := 137) (tgt := 17) dX12_proved_137 (by decide) ?_
                refine V_lo (pc := 17) (lo' := [(0, .ref (ad G 27)), (1, .int k), (2, .int i), (3, .int m0), (4, .int v_68_16), (5, .int x_118_28), (6, .long x_131_30), (8, .int x_134_31)]) [0, 1, 2, 3, 4, 5, 6, 7] rfl ?_
                have e1 : m0.toInt.toNat - m = (m0.toInt.toNat - (m + 1)) + 1 := by omega
                rw [e1, pvF_s, pIf_neg (by rintro (z | z | z) <;> first | (exact absurd z (by assumption)) | omega), ← hv_68_16] at hpv
                have q2 : x_118_28.toInt = c.toInt + (if c.toInt < (I 27 12).toInt ∧ (I 38 c.toInt.toNat).toInt = v_68_16.toInt then 1 else 0) := by split <;> omega
                have q3 : x_131_30.toInt = a.toInt + (I 30 (I 36 (((32 * k.toInt) + i.toInt) + (m : Int)).toNat).toInt.toNat).toInt := by omega
                rw [← q2, ← q3] at hpv
                exact ih (m + 1) x_134_31 v_68_16 x_118_28 x_131_30 (by omega) (by omega) hpv (by split at q2 <;> omega) (by omega) (by omega)
          · have c_75_17 : v_68_16.toInt < 0 := c_75_17
            refine V_ldc2 (pc := 78) dX12_proved_78 kk_X12_208 ?_
            refine V_iload (pc := 81) 7 dX12_proved_81 rfl ?_
            refine V_i2l (pc := 83) dX12_proved_83 (fun x_83_32 e_83_32 => ?_)
            have t_83_32 : x_83_32.toInt = x.toInt := i2lT e_83_32 rfl
            have b_83_32 := fb_rng x
            refine V_lsub (pc := 84) dX12_proved_84 (fun x_84_33 e_84_33 => ?_)
            have t_84_33 : x_84_33.toInt = (-1) - x_83_32.toInt := lsubT e_84_33 rfl rfl (by omega) (by omega)
            refine V_lret (pc := 85) rfl dX12_proved_85 (by omega) (by omega) ?_
            refine ⟨rfl, rfl, rfl, rfl, rfl, ?_⟩
            refine ⟨_, rfl, ?_⟩
            rw [hpv]
            have e1 : m0.toInt.toNat - m = (m0.toInt.toNat - (m + 1)) + 1 := by omega
            rw [e1, pvF_s, pIf_pos (by first | exact Or.inl (by omega) | exact Or.inr (Or.inl (by assumption)) | exact Or.inr (Or.inr (by omega)))]
            omega
set_option maxRecDepth 100000 in
set_option maxHeartbeats 4000000 in
theorem c_X12_proved (G : vG) {n : Nat} {sh : vS} {I : vI} {L : vL} {R : vR} (k i m0 : Int32) (hw : WF n sh R) (h1 : 0 ≤ (I 27 1).toInt ∧ (I 27 1).toInt ≤ 16) (h12 : 1 ≤ (I 27 12).toInt ∧ (I 27 12).toInt ≤ 8) (hlen : ∀ r, r < 16 → 0 ≤ (I 30 r).toInt ∧ (I 30 r).toInt ≤ 20000) (hk0 : 0 ≤ k.toInt ∧ k.toInt ≤ 3) (hi : 0 ≤ i.toInt) (hm0 : 0 ≤ m0.toInt ∧ i.toInt + m0.toInt ≤ 32) : CT G yX12_proved cX12_proved 11 (some .long) 2 0 0 [.ref (ad G 27), .int k, .int i, .int m0] n sh I L R (PI n sh L R (fun I' o2 => I = I' ∧ ∃ v : Int64, o2 = some (.long v) ∧ v.toInt = pvF I ((32 * k.toInt) + i.toInt) m0.toInt.toNat m0.toInt.toNat 0 (I 38 0).toInt 1 0)) := by
  refine CT_of (own := RX12) (ini := false) (lo := [(0, .ref (ad G 27)), (1, .int k), (2, .int i), (3, .int m0)]) mf_X12_proved (Nat.le_of_ble_eq_true rfl) rfl (fun h => by first | rfl | cases h) rfl ?_
  refine V_aload_n (pc := 0) 0 dX12_proved_0 rfl rfl ?_
  refine V_getR (pc := 1) (j := 38) fk_X12_41_12 (wR hw (i := 27) (k := 13) (j := 38) rfl) dX12_proved_1 (wN hw (by decide)) (wS1 hw (by decide) rfl) ?_
  refine V_iconst (pc := 4) (v := 0) dX12_proved_4 rfl ?_
  refine V_ia (pc := 5) (k := 0) (v := (I 38 0)) rfl dX12_proved_5 (wN hw (by decide)) (wS hw (by decide) rfl) rfl (by omega) ?_
  refine V_istore (pc := 6) (lo' := [(0, .ref (ad G 27)), (1, .int k), (2, .int i), (3, .int m0), (4, .int (I 38 0))]) dX12_proved_6 (by decide) rfl ?_
  refine V_iconst (pc := 8) (v := 1) dX12_proved_8 rfl ?_
  refine V_istore (pc := 9) (lo' := [(0, .ref (ad G 27)), (1, .int k), (2, .int i), (3, .int m0), (4, .int (I 38 0)), (5, .int 1)]) dX12_proved_9 (by decide) rfl ?_
  refine V_lconst (pc := 11) (v := 0) dX12_proved_11 rfl ?_
  refine V_lstore (pc := 12) (lo' := [(0, .ref (ad G 27)), (1, .int k), (2, .int i), (3, .int m0), (4, .int (I 38 0)), (5, .int 1), (6, .long 0)]) dX12_proved_12 (by decide) rfl ?_
  refine V_iconst (pc := 14) (v := 0) dX12_proved_14 rfl ?_
  refine V_istore (pc := 15) (lo' := [(0, .ref (ad G 27)), (1, .int k), (2, .int i), (3, .int m0), (4, .int (I 38 0)), (5, .int 1), (6, .long 0), (8, .int 0)]) dX12_proved_15 (by decide) rfl ?_
  exact l_X12_proved G k i m0 hw h1 h12 hlen hk0 hi hm0 (m0.toInt.toNat + 1) 0 0 (I 38 0) 1 0 (by omega) rfl rfl ⟨by decide, h12.1⟩ ⟨by decide, by decide⟩ (by omega)
set_option maxRecDepth 100000 in
set_option maxHeartbeats 4000000 in
theorem c_X12_proof (G : vG) {n : Nat} {sh : vS} {I : vI} {L : vL} {R : vR} (k l i m0 : Int32) (hw : WF n sh R) (hs : ∀ k, k < 4 → -1 ≤ (I 34 k).toInt ∧ (I 34 k).toInt ≤ 32) (h1 : 0 ≤ (I 27 1).toInt ∧ (I 27 1).toInt ≤ 16) (h12 : 0 ≤ (I 27 12).toInt ∧ (I 27 12).toInt ≤ 8) (hlen : ∀ r, r < 16 → 0 ≤ (I 30 r).toInt ∧ (I 30 r).toInt ≤ 20000) : CT G yX12_proof cX12_proof 6 (some .long) 3 0 0 [.ref (ad G 27), .int k, .int l, .int i, .int m0] n sh I L R (PI n sh L R (qz (sProof I k l i m0))) := by
  refine CT_of (own := RX12) (ini := false) (lo := [(0, .ref (ad G 27)), (1, .int k), (2, .int l), (3, .int i), (4, .int m0)]) mf_X12_proof (Nat.le_of_ble_eq_true rfl) rfl (fun h => by first | rfl | cases h) rfl ?_
  have hft := fault_5 I k l i m0
  have hz : 0 ≤ k.toInt → k.toInt ≤ 3 → -1 ≤ (I 34 k.toInt.toNat).toInt ∧ (I 34 k.toInt.toNat).toInt ≤ 32 := fun _ _ => hs _ (by omega)
  refine V_aload_n (pc := 0) 0 dX12_proof_0 rfl rfl ?_
  refine V_iconst (pc := 1) (v := 0) dX12_proof_1 rfl ?_
  refine V_putI (pc := 2) fw_X12_101_12 rfl rfl dX12_proof_2 (wN hw (by decide)) (wS1 hw (by decide) rfl) ?_
  refine V_iload_n (pc := 5) 1 dX12_proof_5 rfl rfl ?_
  refine V_callS (pc := 6) (As := [.int k]) (st := []) (c_X12_noSheet G k) mf_X12_noSheet ml_X12_137 st_X12_noSheet dX12_proof_6 rfl rfl (by omega) (by omega) (by omega) (Nat.le_of_ble_eq_true rfl) (fun r_6_1 n_6_1 sh_6_1 I_6_1 L_6_1 R_6_1 hq_6_1 => ?_)
  obtain ⟨rfl, rfl, rfl, rfl, rfl, hq_6_1⟩ := hq_6_1
  rcases hq_6_1 with ⟨c_6_1, rfl⟩ | ⟨c_6_1, rfl⟩
  · have c_6_1 : ¬ (0 ≤ k.toInt ∧ k.toInt ≤ 3) := c_6_1
    refine V_if_ne_t (pc := 9) (tgt := 31) dX12_proof_9 (by decide) (by decide) ?_
    refine V_callS (pc := 31) (As := []) (st := []) (c_X12_lost G) mf_X12_lost ml_X12_104 st_X12_lost dX12_proof_31 rfl rfl (by omega) (by omega) (by omega) (Nat.le_of_ble_eq_true rfl) (fun r_31_2 n_31_2 sh_31_2 I_31_2 L_31_2 R_31_2 hq_31_2 => ?_)
    obtain ⟨rfl, rfl, rfl, rfl, rfl, rfl⟩ := hq_31_2
    refine V_lret (pc := 34) rfl dX12_proof_34 (by omega) (by omega) ?_
    refine ⟨rfl, rfl, rfl, rfl, _, ?_, rfl⟩
    unfold sProof isSheet isLane
    rw [if_pos (by omega)]
    rfl
  · have c_6_1 : ¬ (¬ (0 ≤ k.toInt ∧ k.toInt ≤ 3)) := c_6_1
    refine V_if_ne_f (pc := 9) (tgt := 31) dX12_proof_9 (by decide) (by decide) ?_
    refine V_iload_n (pc := 12) 2 dX12_proof_12 rfl rfl ?_
    refine V_i2l (pc := 13) dX12_proof_13 (fun x_13_3 e_13_3 => ?_)
    have t_13_3 : x_13_3.toInt = l.toInt := i2lT e_13_3 rfl
    have b_13_3 := fb_rng l
    refine V_lconst (pc := 14) (v := 0) dX12_proof_14 rfl ?_
    refine V_ldc2 (pc := 15) dX12_proof_15 kk_X12_123 ?_
    refine V_callS (pc := 18) (As := [.long x_13_3, .long 0, .long 2]) (st := []) (c_X12_in G x_13_3 0 2) mf_X12_in ml_X12_111 st_X12_in dX12_proof_18 rfl rfl (by omega) (by omega) (by omega) (Nat.le_of_ble_eq_true rfl) (fun r_18_4 n_18_4 sh_18_4 I_18_4 L_18_4 R_18_4 hq_18_4 => ?_)
    obtain ⟨rfl, rfl, rfl, rfl, rfl, hq_18_4⟩ := hq_18_4
    rcases hq_18_4 with ⟨c_18_4, rfl⟩ | ⟨c_18_4, rfl⟩
    · have c_18_4 : 0 ≤ x_13_3.toInt ∧ x_13_3.toInt ≤ 2 := c_18_4
      refine V_if_eq_f (pc := 21) (tgt := 31) dX12_proof_21 (by decide) (by decide) ?_
      refine V_aload_n (pc := 24) 0 dX12_proof_24 rfl rfl ?_
      refine V_gI (pc := 25) (v := (I 27 12)) rfl fk_X12_161_12 dX12_proof_25 (wN hw (by decide)) (wS1 hw (by decide) rfl) ?_
      refine V_if_ne (pc := 28) (tgt := 35) dX12_proof_28 (by decide) (fun c_28_5 => ?_) (fun c_28_5 => ?_)
      · have c_28_5 : (I 27 12).toInt ≠ 0 := c_28_5
        refine V_aload_n (pc := 35) 0 dX12_proof_35 rfl rfl ?_
        refine V_iload_n (pc := 36) 1 dX12_proof_36 rfl rfl ?_
        refine V_iload_n (pc := 37) 2 dX12_proof_37 rfl rfl ?_
        refine V_iload_n (pc := 38) 3 dX12_proof_38 rfl rfl ?_
        refine V_iload (pc := 39) 4 dX12_proof_39 rfl ?_
        refine V_callV (pc := 41) (As := [.int k, .int l, .int i, .int m0]) (st := []) (c_X12_faultOf G I k l i m0 hw (fun _ => rfl) (fun _ => rfl) (by omega)) mf_X12_faultOf ml_X12_154 iv_X12_faultOf (wN hw (by decide)) (wS1 hw (by decide) rfl) (by decide) rfl dX12_proof_41 rfl rfl (by omega) (by omega) (by omega) (Nat.le_of_ble_eq_true rfl) (fun r_41_6 n_41_6 sh_41_6 I_41_6 L_41_6 R_41_6 hq_41_6 => ?_)
        obtain ⟨rfl, rfl, rfl, rfl, rfl, rfl⟩ := hq_41_6
        refine V_istore (pc := 44) (lo' := [(0, .ref (ad G 27)), (1, .int k), (2, .int l), (3, .int i), (4, .int m0), (5, .int (faultF I k l i m0))]) dX12_proof_44 (by decide) rfl ?_
        refine V_iload (pc := 46) 5 dX12_proof_46 rfl ?_
        refine V_if_le (pc := 48) (tgt := 60) dX12_proof_48 (by decide) (fun c_48_7 => ?_) (fun c_48_7 => ?_)
        · have c_48_7 : (faultF I k l i m0).toInt ≤ 0 := c_48_7
          refine V_aload_n (pc := 60) 0 dX12_proof_60 rfl rfl ?_
          refine V_iload_n (pc := 61) 1 dX12_proof_61 rfl rfl ?_
          refine V_iload_n (pc := 62) 3 dX12_proof_62 rfl rfl ?_
          refine V_iload (pc := 63) 4 dX12_proof_63 rfl ?_
          refine V_callV (pc := 65) (As := [.int k, .int i, .int m0]) (st := []) (c_X12_proved G k i m0 hw h1 (show 1 ≤ (I 27 12).toInt ∧ (I 27 12).toInt ≤ 8 by omega) hlen (by omega) (by omega) (by omega)) mf_X12_proved ml_X12_212 iv_X12_proved (wN hw (by decide)) (wS1 hw (by decide) rfl) (by decide) rfl dX12_proof_65 rfl rfl (by omega) (by omega) (by omega) (Nat.le_of_ble_eq_true rfl) (fun r_65_8 n_65_8 sh_65_8 I_65_8 L_65_8 R_65_8 hq_65_8 => ?_)
          obtain ⟨rfl, rfl, rfl, rfl, rfl, v_65_8, rfl, hv_65_8⟩ := hq_65_8
          refine V_lret (pc := 68) rfl dX12_proof_68 (by omega) (by omega) ?_
          refine ⟨rfl, rfl, rfl, rfl, _, ?_, rfl⟩
          unfold sProof isSheet isLane
          rw [if_neg (by omega), if_neg (by omega)]
          have e1 := hv_65_8
          rw [pvF_0] at e1
          rw [e1]
          rfl
        · have c_48_7 : 0 < (faultF I k l i m0).toInt := c_48_7
          refine V_aload_n (pc := 51) 0 dX12_proof_51 rfl rfl ?_
          refine V_iload (pc := 52) 5 dX12_proof_52 rfl ?_
          refine V_callV (pc := 54) (As := [.int (faultF I k l i m0)]) (st := []) (c_X12_failedLong G (faultF I k l i m0) hw) mf_X12_failedLong ml_X12_144 iv_X12_failedLong (wN hw (by decide)) (wS1 hw (by decide) rfl) (by decide) rfl dX12_proof_54 rfl rfl (by omega) (by omega) (by omega) (Nat.le_of_ble_eq_true rfl) (fun r_54_9 n_54_9 sh_54_9 I_54_9 L_54_9 R_54_9 hq_54_9 => ?_)
          obtain ⟨rfl, rfl, rfl, rfl, rfl, rfl⟩ := hq_54_9
          refine V_goto (pc := 57) (tgt := 68) dX12_proof_57 (by decide) ?_
          refine V_lret (pc := 68) rfl dX12_proof_68 (by omega) (by omega) ?_
          refine ⟨rfl, rfl, rfl, rfl, _, ?_, rfl⟩
          unfold sProof isSheet isLane
          rw [if_neg (by omega), if_pos (by omega)]
          rfl
      · have c_28_5 : (I 27 12).toInt = 0 := c_28_5
        refine V_callS (pc := 31) (As := []) (st := []) (c_X12_lost G) mf_X12_lost ml_X12_104 st_X12_lost dX12_proof_31 rfl rfl (by omega) (by omega) (by omega) (Nat.le_of_ble_eq_true rfl) (fun r_31_10 n_31_10 sh_31_10 I_31_10 L_31_10 R_31_10 hq_31_10 => ?_)
        obtain ⟨rfl, rfl, rfl, rfl, rfl, rfl⟩ := hq_31_10
        refine V_lret (pc := 34) rfl dX12_proof_34 (by omega) (by omega) ?_
        refine ⟨rfl, rfl, rfl, rfl, _, ?_, rfl⟩
        unfold sProof isSheet isLane
        rw [if_pos (by omega)]
        rfl
    · have c_18_4 : ¬ (0 ≤ x_13_3.toInt ∧ x_13_3.toInt ≤ 2) := c_18_4
      refine V_if_eq_t (pc := 21) (tgt := 31) dX12_proof_21 (by decide) (by decide) ?_
      refine V_callS (pc := 31) (As := []) (st := []) (c_X12_lost G) mf_X12_lost ml_X12_104 st_X12_lost dX12_proof_31 rfl rfl (by omega) (by omega) (by omega) (Nat.le_of_ble_eq_true rfl) (fun r_31_11 n_31_11 sh_31_11 I_31_11 L_31_11 R_31_11 hq_31_11 => ?_)
      obtain ⟨rfl, rfl, rfl, rfl, rfl, rfl⟩ := hq_31_11
      refine V_lret (pc := 34) rfl dX12_proof_34 (by omega) (by omega) ?_
      refine ⟨rfl, rfl, rfl, rfl, _, ?_, rfl⟩
      unfold sProof isSheet isLane
      rw [if_pos (by omega)]
      rfl
