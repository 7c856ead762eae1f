set_option maxRecDepth 100000 in
set_option maxHeartbeats 4000000 in
theorem l_X12_isIn (G : vG) {n : Nat} {sh : vS} {I : vI} {L : vL} {R : vR} (r : Int32) (hw : WF n sh R) (h19 : 0 ≤ (I 27 19).toInt ∧ (I 27 19).toInt ≤ 10) : ∀ (f m : Nat) (k : Int32) (a : Int32) (hm : (m : Int) ≤ (I 27 19).toInt) (hk : k.toInt = (m : Int)) (hac : ac a (inP I r.toInt) m) (hf : (I 27 19).toInt < (m : Int) + f), V G RX12 cX12_isIn (some .boolean) false 0 0 0 4 (PI n sh L R (fun I' o => I = I' ∧ rb o (∃ k, k < (I 27 19).toInt.toNat ∧ inP I r.toInt k))) 4 [(0, .ref (ad G 27)), (1, .int r), (2, .int a), (3, .int k)] [] 0 0 n sh I L R := by
  intro f
  induction f with
  | zero => intro m k a hm hk hac hf; omega
  | succ f ih =>
    intro m k a hm hk hac hf
    refine V_iload_n (pc := 4) 3 dX12_isIn_4 rfl rfl ?_
    refine V_aload_n (pc := 5) 0 dX12_isIn_5 rfl rfl ?_
    refine V_gI (pc := 6) (v := (I 27 19)) rfl fk_X12_164_12 dX12_isIn_6 (wN hw (by decide)) (wS1 hw (by decide) rfl) ?_
    refine V_icmp_ge (pc := 9) (tgt := 38) dX12_isIn_9 (by decide) (fun c_9_1 => ?_) (fun c_9_1 => ?_)
    · have c_9_1 : (I 27 19).toInt ≤ k.toInt := c_9_1
      refine V_iload_n (pc := 38) 2 dX12_isIn_38 rfl rfl ?_
      refine V_iret (pc := 39) rfl (nbool (ac_b hac)) dX12_isIn_39 (by omega) (by omega) ?_
      refine ⟨rfl, rfl, rfl, rfl, rfl, ?_⟩
      have e9 : (I 27 19).toInt.toNat = m := by omega
      rw [e9]
      exact ac_e hac
    · have c_9_1 : k.toInt < (I 27 19).toInt := c_9_1
      refine V_iload_n (pc := 12) 2 dX12_isIn_12 rfl rfl ?_
      refine V_if_ne (pc := 13) (tgt := 26) dX12_isIn_13 (by decide) (fun c_13_2 => ?_) (fun c_13_2 => ?_)
      · have c_13_2 : a.toInt ≠ 0 := c_13_2
        refine V_iconst (pc := 26) (v := 1) dX12_isIn_26 rfl ?_
        refine V_goto (pc := 27) (tgt := 31) dX12_isIn_27 (by decide) ?_
        refine V_istore_n (pc := 31) (lo' := [(0, .ref (ad G 27)), (1, .int r), (2, .int 1), (3, .int k)]) dX12_isIn_31 rfl (by decide) rfl ?_
        obtain ⟨x_32_3, e_32_3⟩ : ∃ y : Int32, y = k + (1) := ⟨_, rfl⟩
        have t_32_3 : x_32_3.toInt = k.toInt + 1 := addT e_32_3 rfl rfl (by omega) (by omega)
        refine V_iinc (pc := 32) (v := x_32_3) (lo' := [(0, .ref (ad G 27)), (1, .int r), (2, .int 1), (3, .int x_32_3)]) 3 dX12_isIn_32 rfl e_32_3.symm (by decide) rfl ?_
        refine V_goto (pc := 35) (tgt := 4) dX12_isIn_35 (by decide) ?_
        exact ih (m + 1) x_32_3 1 (by omega) (by omega) (by first | exact ac_t hac (by omega) | exact ac_y (by unfold inP; omega) | exact ac_n hac (by omega) (by unfold inP; omega)) (by omega)
      · have c_13_2 : a.toInt = 0 := c_13_2
        refine V_aload_n (pc := 16) 0 dX12_isIn_16 rfl rfl ?_
        refine V_getR (pc := 17) (j := 40) fk_X12_47_12 (wR hw (i := 27) (k := 20) (j := 40) rfl) dX12_isIn_17 (wN hw (by decide)) (wS1 hw (by decide) rfl) ?_
        refine V_iload_n (pc := 20) 3 dX12_isIn_20 rfl rfl ?_
        refine V_ia (pc := 21) (k := m) (v := (I 40 m)) rfl dX12_isIn_21 (wN hw (by decide)) (wS hw (by decide) rfl) hk (by omega) ?_
        refine V_iload_n (pc := 22) 1 dX12_isIn_22 rfl rfl ?_
        refine V_icmp_ne (pc := 23) (tgt := 30) dX12_isIn_23 (by decide) (fun c_23_4 => ?_) (fun c_23_4 => ?_)
        · have c_23_4 : (I 40 m).toInt ≠ r.toInt := c_23_4
          refine V_iconst (pc := 30) (v := 0) dX12_isIn_30 rfl ?_
          refine V_istore_n (pc := 31) (lo' := [(0, .ref (ad G 27)), (1, .int r), (2, .int 0), (3, .int k)]) dX12_isIn_31 rfl (by decide) rfl ?_
          obtain ⟨x_32_5, e_32_5⟩ : ∃ y : Int32, y = k + (1) := ⟨_, rfl⟩
          have t_32_5 : x_32_5.toInt = k.toInt + 1 := addT e_32_5 rfl rfl (by omega) (by omega)
          refine V_iinc (pc := 32) (v := x_32_5) (lo' := [(0, .ref (ad G 27)), (1, .int r), (2, .int 0), (3, .int x_32_5)]) 3 dX12_isIn_32 rfl e_32_5.symm (by decide) rfl ?_
          refine V_goto (pc := 35) (tgt := 4) dX12_isIn_35 (by decide) ?_
          exact ih (m + 1) x_32_5 0 (by omega) (by omega) (by first | exact ac_t hac (by omega) | exact ac_y (by unfold inP; omega) | exact ac_n hac (by omega) (by unfold inP; omega)) (by omega)
        · have c_23_4 : (I 40 m).toInt = r.toInt := c_23_4
          refine V_iconst (pc := 26) (v := 1) dX12_isIn_26 rfl ?_
          refine V_goto (pc := 27) (tgt := 31) dX12_isIn_27 (by decide) ?_
          refine V_istore_n (pc := 31) (lo' := [(0, .ref (ad G 27)), (1, .int r), (2, .int 1), (3, .int k)]) dX12_isIn_31 rfl (by decide) rfl ?_
          obtain ⟨x_32_6, e_32_6⟩ : ∃ y : Int32, y = k + (1) := ⟨_, rfl⟩
          have t_32_6 : x_32_6.toInt = k.toInt + 1 := addT e_32_6 rfl rfl (by omega) (by omega)
          refine V_iinc (pc := 32) (v := x_32_6) (lo' := [(0, .ref (ad G 27)), (1, .int r), (2, .int 1), (3, .int x_32_6)]) 3 dX12_isIn_32 rfl e_32_6.symm (by decide) rfl ?_
          refine V_goto (pc := 35) (tgt := 4) dX12_isIn_35 (by decide) ?_
          exact ih (m + 1) x_32_6 1 (by omega) (by omega) (by first | exact ac_t hac (by omega) | exact ac_y (by unfold inP; omega) | exact ac_n hac (by omega) (by unfold inP; omega)) (by omega)
set_option maxRecDepth 100000 in
set_option maxHeartbeats 4000000 in
theorem c_X12_isIn (G : vG) {n : Nat} {sh : vS} {I : vI} {L : vL} {R : vR} (r : Int32) (hw : WF n sh R) (h19 : 0 ≤ (I 27 19).toInt ∧ (I 27 19).toInt ≤ 10) : CT G yX12_isIn cX12_isIn 4 (some .boolean) 0 0 0 [.ref (ad G 27), .int r] n sh I L R (PI n sh L R (fun I' o => I = I' ∧ rb o (∃ k, k < (I 27 19).toInt.toNat ∧ inP I r.toInt k))) := by
  refine CT_of (own := RX12) (ini := false) (lo := [(0, .ref (ad G 27)), (1, .int r)]) mf_X12_isIn (Nat.le_of_ble_eq_true rfl) rfl (fun h => by first | rfl | cases h) rfl ?_
  refine V_iconst (pc := 0) (v := 0) dX12_isIn_0 rfl ?_
  refine V_istore_n (pc := 1) (lo' := [(0, .ref (ad G 27)), (1, .int r), (2, .int 0)]) dX12_isIn_1 rfl (by decide) rfl ?_
  refine V_iconst (pc := 2) (v := 0) dX12_isIn_2 rfl ?_
  refine V_istore_n (pc := 3) (lo' := [(0, .ref (ad G 27)), (1, .int r), (2, .int 0), (3, .int 0)]) dX12_isIn_3 rfl (by decide) rfl ?_
  exact l_X12_isIn G r hw h19 ((I 27 19).toInt.toNat + 1) 0 0 0 (by omega) rfl ac_0 (by omega)
set_option maxRecDepth 100000 in
set_option maxHeartbeats 4000000 in
theorem l_X12_hasDue (G : vG) {n : Nat} {sh : vS} {I : vI} {L : vL} {R : vR}  (hw : WF n sh R) (h27 : 0 ≤ (I 27 27).toInt ∧ (I 27 27).toInt ≤ 8) : ∀ (f m : Nat) (k : Int32) (a : Int32) (hm : (m : Int) ≤ (I 27 27).toInt) (hk : k.toInt = (m : Int)) (hac : ac a (due0P I) m) (hf : (I 27 27).toInt < (m : Int) + f), V G RX12 cX12_hasDue (some .boolean) false 0 0 0 3 (PI n sh L R (fun I' o => I = I' ∧ rb o (hasDueP I))) 4 [(0, .ref (ad G 27)), (1, .int a), (2, .int k)] [] 0 0 n sh I L R := by
  intro f
  induction f with
  | zero => intro m k a hm hk hac hf; omega
  | succ f ih =>
    intro m k a hm hk hac hf
    refine V_iload_n (pc := 4) 2 dX12_hasDue_4 rfl rfl ?_
    refine V_aload_n (pc := 5) 0 dX12_hasDue_5 rfl rfl ?_
    refine V_gI (pc := 6) (v := (I 27 27)) rfl fk_X12_196_12 dX12_hasDue_6 (wN hw (by decide)) (wS1 hw (by decide) rfl) ?_
    refine V_icmp_ge (pc := 9) (tgt := 37) dX12_hasDue_9 (by decide) (fun c_9_1 => ?_) (fun c_9_1 => ?_)
    · have c_9_1 : (I 27 27).toInt ≤ k.toInt := c_9_1
      refine V_iload_n (pc := 37) 1 dX12_hasDue_37 rfl rfl ?_
      refine V_if_eq (pc := 38) (tgt := 52) dX12_hasDue_38 (by decide) (fun c_38_2 => ?_) (fun c_38_2 => ?_)
      · have c_38_2 : a.toInt = 0 := c_38_2
        refine V_iconst (pc := 52) (v := 0) dX12_hasDue_52 rfl ?_
        refine V_iret (pc := 53) rfl rfl dX12_hasDue_53 (by omega) (by omega) ?_
        refine ⟨rfl, rfl, rfl, rfl, rfl, ?_⟩
        have e9 : (I 27 27).toInt.toNat = m := by omega
        unfold hasDueP
        rw [e9]
        rcases hac with ⟨g1, g2⟩ | ⟨g1, g2⟩
        · exact Or.inr ⟨fun z => by omega, rfl⟩
        · exact Or.inr ⟨fun ⟨⟨z, q1, q2⟩, _⟩ => g2 z q1 q2, rfl⟩
      · have c_38_2 : a.toInt ≠ 0 := c_38_2
        refine V_aload_n (pc := 41) 0 dX12_hasDue_41 rfl rfl ?_
        refine V_gI (pc := 42) (v := (I 27 24)) rfl fk_X12_95_12 dX12_hasDue_42 (wN hw (by decide)) (wS1 hw (by decide) rfl) ?_
        refine V_if_le (pc := 45) (tgt := 52) dX12_hasDue_45 (by decide) (fun c_45_3 => ?_) (fun c_45_3 => ?_)
        · have c_45_3 : (I 27 24).toInt ≤ 0 := c_45_3
          refine V_iconst (pc := 52) (v := 0) dX12_hasDue_52 rfl ?_
          refine V_iret (pc := 53) rfl rfl dX12_hasDue_53 (by omega) (by omega) ?_
          refine ⟨rfl, rfl, rfl, rfl, rfl, ?_⟩
          have e9 : (I 27 27).toInt.toNat = m := by omega
          unfold hasDueP
          rw [e9]
          rcases hac with ⟨g1, g2⟩ | ⟨g1, g2⟩
          · exact Or.inr ⟨fun z => by omega, rfl⟩
          · exact Or.inr ⟨fun ⟨⟨z, q1, q2⟩, _⟩ => g2 z q1 q2, rfl⟩
        · have c_45_3 : 0 < (I 27 24).toInt := c_45_3
          refine V_iconst (pc := 48) (v := 1) dX12_hasDue_48 rfl ?_
          refine V_goto (pc := 49) (tgt := 53) dX12_hasDue_49 (by decide) ?_
          refine V_iret (pc := 53) rfl rfl dX12_hasDue_53 (by omega) (by omega) ?_
          refine ⟨rfl, rfl, rfl, rfl, rfl, ?_⟩
          have e9 : (I 27 27).toInt.toNat = m := by omega
          unfold hasDueP
          rw [e9]
          rcases hac with ⟨g1, g2⟩ | ⟨g1, g2⟩
          · exact Or.inl ⟨⟨g2, by omega⟩, rfl⟩
          · exfalso; omega
    · have c_9_1 : k.toInt < (I 27 27).toInt := c_9_1
      refine V_iload_n (pc := 12) 1 dX12_hasDue_12 rfl rfl ?_
      refine V_if_ne (pc := 13) (tgt := 25) dX12_hasDue_13 (by decide) (fun c_13_4 => ?_) (fun c_13_4 => ?_)
      · have c_13_4 : a.toInt ≠ 0 := c_13_4
        refine V_iconst (pc := 25) (v := 1) dX12_hasDue_25 rfl ?_
        refine V_goto (pc := 26) (tgt := 30) dX12_hasDue_26 (by decide) ?_
        refine V_istore_n (pc := 30) (lo' := [(0, .ref (ad G 27)), (1, .int 1), (2, .int k)]) dX12_hasDue_30 rfl (by decide) rfl ?_
        obtain ⟨x_31_5, e_31_5⟩ : ∃ y : Int32, y = k + (1) := ⟨_, rfl⟩
        have t_31_5 : x_31_5.toInt = k.toInt + 1 := addT e_31_5 rfl rfl (by omega) (by omega)
        refine V_iinc (pc := 31) (v := x_31_5) (lo' := [(0, .ref (ad G 27)), (1, .int 1), (2, .int x_31_5)]) 2 dX12_hasDue_31 rfl e_31_5.symm (by decide) rfl ?_
        refine V_goto (pc := 34) (tgt := 4) dX12_hasDue_34 (by decide) ?_
        exact ih (m + 1) x_31_5 1 (by omega) (by omega) (by first | exact ac_t hac (by omega) | exact ac_y (by unfold due0P; omega) | exact ac_n hac (by omega) (by unfold due0P; omega)) (by omega)
      · have c_13_4 : a.toInt = 0 := c_13_4
        refine V_aload_n (pc := 16) 0 dX12_hasDue_16 rfl rfl ?_
        refine V_getR (pc := 17) (j := 45) fk_X12_62_12 (wR hw (i := 27) (k := 28) (j := 45) rfl) dX12_hasDue_17 (wN hw (by decide)) (wS1 hw (by decide) rfl) ?_
        refine V_iload_n (pc := 20) 2 dX12_hasDue_20 rfl rfl ?_
        refine V_ia (pc := 21) (k := m) (v := (I 45 m)) rfl dX12_hasDue_21 (wN hw (by decide)) (wS hw (by decide) rfl) hk (by omega) ?_
        refine V_if_ne (pc := 22) (tgt := 29) dX12_hasDue_22 (by decide) (fun c_22_6 => ?_) (fun c_22_6 => ?_)
        · have c_22_6 : (I 45 m).toInt ≠ 0 := c_22_6
          refine V_iconst (pc := 29) (v := 0) dX12_hasDue_29 rfl ?_
          refine V_istore_n (pc := 30) (lo' := [(0, .ref (ad G 27)), (1, .int 0), (2, .int k)]) dX12_hasDue_30 rfl (by decide) rfl ?_
          obtain ⟨x_31_7, e_31_7⟩ : ∃ y : Int32, y = k + (1) := ⟨_, rfl⟩
          have t_31_7 : x_31_7.toInt = k.toInt + 1 := addT e_31_7 rfl rfl (by omega) (by omega)
          refine V_iinc (pc := 31) (v := x_31_7) (lo' := [(0, .ref (ad G 27)), (1, .int 0), (2, .int x_31_7)]) 2 dX12_hasDue_31 rfl e_31_7.symm (by decide) rfl ?_
          refine V_goto (pc := 34) (tgt := 4) dX12_hasDue_34 (by decide) ?_
          exact ih (m + 1) x_31_7 0 (by omega) (by omega) (by first | exact ac_t hac (by omega) | exact ac_y (by unfold due0P; omega) | exact ac_n hac (by omega) (by unfold due0P; omega)) (by omega)
        · have c_22_6 : (I 45 m).toInt = 0 := c_22_6
          refine V_iconst (pc := 25) (v := 1) dX12_hasDue_25 rfl ?_
          refine V_goto (pc := 26) (tgt := 30) dX12_hasDue_26 (by decide) ?_
          refine V_istore_n (pc := 30) (lo' := [(0, .ref (ad G 27)), (1, .int 1), (2, .int k)]) dX12_hasDue_30 rfl (by decide) rfl ?_
          obtain ⟨x_31_8, e_31_8⟩ : ∃ y : Int32, y = k + (1) := ⟨_, rfl⟩
          have t_31_8 : x_31_8.toInt = k.toInt + 1 := addT e_31_8 rfl rfl (by omega) (by omega)
          refine V_iinc (pc := 31) (v := x_31_8) (lo' := [(0, .ref (ad G 27)), (1, .int 1), (2, .int x_31_8)]) 2 dX12_hasDue_31 rfl e_31_8.symm (by decide) rfl ?_
          refine V_goto (pc := 34) (tgt := 4) dX12_hasDue_34 (by decide) ?_
          exact ih (m + 1) x_31_8 1 (by omega) (by omega) (by first | exact ac_t hac (by omega) | exact ac_y (by unfold due0P; omega) | exact ac_n hac (by omega) (by unfold due0P; omega)) (by omega)
set_option maxRecDepth 100000 in
set_option maxHeartbeats 4000000 in
theorem c_X12_hasDue (G : vG) {n : Nat} {sh : vS} {I : vI} {L : vL} {R : vR}  (hw : WF n sh R) (h27 : 0 ≤ (I 27 27).toInt ∧ (I 27 27).toInt ≤ 8) : CT G yX12_hasDue cX12_hasDue 3 (some .boolean) 0 0 0 [.ref (ad G 27)] n sh I L R (PI n sh L R (fun I' o => I = I' ∧ rb o (hasDueP I))) := by
  refine CT_of (own := RX12) (ini := false) (lo := [(0, .ref (ad G 27))]) mf_X12_hasDue (Nat.le_of_ble_eq_true rfl) rfl (fun h => by first | rfl | cases h) rfl ?_
  refine V_iconst (pc := 0) (v := 0) dX12_hasDue_0 rfl ?_
  refine V_istore_n (pc := 1) (lo' := [(0, .ref (ad G 27)), (1, .int 0)]) dX12_hasDue_1 rfl (by decide) rfl ?_
  refine V_iconst (pc := 2) (v := 0) dX12_hasDue_2 rfl ?_
  refine V_istore_n (pc := 3) (lo' := [(0, .ref (ad G 27)), (1, .int 0), (2, .int 0)]) dX12_hasDue_3 rfl (by decide) rfl ?_
  exact l_X12_hasDue G hw h27 ((I 27 27).toInt.toNat + 1) 0 0 0 (by omega) rfl ac_0 (by omega)
set_option maxRecDepth 100000 in
set_option maxHeartbeats 4000000 in
theorem l_X12_wasAhead (G : vG) {n : Nat} {sh : vS} {I : vI} {L : vL} {R : vR} (k0 i x : Int32) (hw : WF n sh R) (h0 : 0 ≤ k0.toInt ∧ k0.toInt ≤ 3) (hi : 0 ≤ i.toInt) (hx : 0 ≤ x.toInt ∧ i.toInt + x.toInt < 32) : ∀ (f m : Nat) (k : Int32) (a : Int32) (hm : (m : Int) ≤ x.toInt) (hk : k.toInt = (m : Int)) (hac : ac a (aheadP I ((32 * k0.toInt) + i.toInt) x.toInt) m) (hf : x.toInt < (m : Int) + f), V G RX12 cX12_wasAhead (some .boolean) false 0 0 0 6 (PI n sh L R (fun I' o => I = I' ∧ rb o (∃ y, y < x.toInt.toNat ∧ aheadP I ((32 * k0.toInt) + i.toInt) x.toInt y))) 6 [(0, .ref (ad G 27)), (1, .int k0), (2, .int i), (3, .int x), (4, .int a), (5, .int k)] [] 0 0 n sh I L R := by
  intro f
  induction f with
  | zero => intro m k a hm hk hac hf; omega
  | succ f ih =>
    intro m k a hm hk hac hf
    refine V_iload (pc := 6) 5 dX12_wasAhead_6 rfl ?_
    refine V_iload_n (pc := 8) 3 dX12_wasAhead_8 rfl rfl ?_
    refine V_icmp_ge (pc := 9) (tgt := 60) dX12_wasAhead_9 (by decide) (fun c_9_1 => ?_) (fun c_9_1 => ?_)
    · have c_9_1 : x.toInt ≤ k.toInt := c_9_1
      refine V_iload (pc := 60) 4 dX12_wasAhead_60 rfl ?_
      refine V_iret (pc := 62) rfl (nbool (ac_b hac)) dX12_wasAhead_62 (by omega) (by omega) ?_
      refine ⟨rfl, rfl, rfl, rfl, rfl, ?_⟩
      have e9 : x.toInt.toNat = m := by omega
      rw [e9]
      exact ac_e hac
    · have c_9_1 : k.toInt < x.toInt := c_9_1
      refine V_iload (pc := 12) 4 dX12_wasAhead_12 rfl ?_
      refine V_if_ne (pc := 14) (tgt := 47) dX12_wasAhead_14 (by decide) (fun c_14_2 => ?_) (fun c_14_2 => ?_)
      · have c_14_2 : a.toInt ≠ 0 := c_14_2
        refine V_iconst (pc := 47) (v := 1) dX12_wasAhead_47 rfl ?_
        refine V_goto (pc := 48) (tgt := 52) dX12_wasAhead_48 (by decide) ?_
        refine V_istore (pc := 52) (lo' := [(0, .ref (ad G 27)), (1, .int k0), (2, .int i), (3, .int x), (4, .int 1), (5, .int k)]) dX12_wasAhead_52 (by decide) rfl ?_
        obtain ⟨x_54_3, e_54_3⟩ : ∃ y : Int32, y = k + (1) := ⟨_, rfl⟩
        have t_54_3 : x_54_3.toInt = k.toInt + 1 := addT e_54_3 rfl rfl (by omega) (by omega)
        refine V_iinc (pc := 54) (v := x_54_3) (lo' := [(0, .ref (ad G 27)), (1, .int k0), (2, .int i), (3, .int x), (4, .int 1), (5, .int x_54_3)]) 5 dX12_wasAhead_54 rfl e_54_3.symm (by decide) rfl ?_
        refine V_goto (pc := 57) (tgt := 6) dX12_wasAhead_57 (by decide) ?_
        exact ih (m + 1) x_54_3 1 (by omega) (by omega) (by first | exact ac_t hac (by omega) | exact ac_y (by unfold aheadP; omega) | exact ac_n hac (by omega) (by unfold aheadP; omega)) (by omega)
      · have c_14_2 : a.toInt = 0 := c_14_2
        refine V_aload_n (pc := 17) 0 dX12_wasAhead_17 rfl rfl ?_
        refine V_getR (pc := 18) (j := 36) fk_X12_35_12 (wR hw (i := 27) (k := 10) (j := 36) rfl) dX12_wasAhead_18 (wN hw (by decide)) (wS1 hw (by decide) rfl) ?_
        refine V_bipush (pc := 21) (v := 32) dX12_wasAhead_21 rfl ?_
        refine V_iload_n (pc := 23) 1 dX12_wasAhead_23 rfl rfl ?_
        refine V_imul (pc := 24) dX12_wasAhead_24 (fun x_24_4 e_24_4 => ?_)
        have t_24_4 : x_24_4.toInt = 32 * k0.toInt := mulT e_24_4 rfl rfl (by omega) (by omega)
        refine V_iload_n (pc := 25) 2 dX12_wasAhead_25 rfl rfl ?_
        refine V_iadd (pc := 26) dX12_wasAhead_26 (fun x_26_5 e_26_5 => ?_)
        have t_26_5 : x_26_5.toInt = x_24_4.toInt + i.toInt := addT e_26_5 rfl rfl (by omega) (by omega)
        refine V_iload (pc := 27) 5 dX12_wasAhead_27 rfl ?_
        refine V_iadd (pc := 29) dX12_wasAhead_29 (fun x_29_6 e_29_6 => ?_)
        have t_29_6 : x_29_6.toInt = x_26_5.toInt + k.toInt := addT e_29_6 rfl rfl (by omega) (by omega)
        refine V_ia (pc := 30) (k := (((32 * k0.toInt) + i.toInt) + (m : Int)).toNat) (v := (I 36 (((32 * k0.toInt) + i.toInt) + (m : Int)).toNat)) rfl dX12_wasAhead_30 (wN hw (by decide)) (wS hw (by decide) rfl) (by omega) (by omega) ?_
        refine V_aload_n (pc := 31) 0 dX12_wasAhead_31 rfl rfl ?_
        refine V_getR (pc := 32) (j := 36) fk_X12_35_12 (wR hw (i := 27) (k := 10) (j := 36) rfl) dX12_wasAhead_32 (wN hw (by decide)) (wS1 hw (by decide) rfl) ?_
        refine V_bipush (pc := 35) (v := 32) dX12_wasAhead_35 rfl ?_
        refine V_iload_n (pc := 37) 1 dX12_wasAhead_37 rfl rfl ?_
        refine V_imul (pc := 38) dX12_wasAhead_38 (fun x_38_7 e_38_7 => ?_)
        have t_38_7 : x_38_7.toInt = 32 * k0.toInt := mulT e_38_7 rfl rfl (by omega) (by omega)
        refine V_iload_n (pc := 39) 2 dX12_wasAhead_39 rfl rfl ?_
        refine V_iadd (pc := 40) dX12_wasAhead_40 (fun x_40_8 e_40_8 => ?_)
        have t_40_8 : x_40_8.toInt = x_38_7.toInt + i.toInt := addT e_40_8 rfl rfl (by omega) (by omega)
        refine V_iload_n (pc := 41) 3 dX12_wasAhead_41 rfl rfl ?_
        refine V_iadd (pc := 42) dX12_wasAhead_42 (fun x_42_9 e_42_9 => ?_)
        have t_42_9 : x_42_9.toInt = x_40_8.toInt + x.toInt := addT e_42_9 rfl rfl (by omega) (by omega)
        refine V_ia (pc := 43) (k := (((32 * k0.toInt) + i.toInt) + x.toInt).toNat) (v := (I 36 (((32 * k0.toInt) + i.toInt) + x.toInt).toNat)) rfl dX12_wasAhead_43 (wN hw (by decide)) (wS hw (by decide) rfl) (by omega) (by omega) ?_
        refine V_icmp_ne (pc := 44) (tgt := 51) dX12_wasAhead_44 (by decide) (fun c_44_10 => ?_) (fun c_44_10 => ?_)
        · have c_44_10 : (I 36 (((32 * k0.toInt) + i.toInt) + (m : Int)).toNat).toInt ≠ (I 36 (((32 * k0.toInt) + i.toInt) + x.toInt).toNat).toInt := c_44_10
          refine V_iconst (pc := 51) (v := 0) dX12_wasAhead_51 rfl ?_
          refine V_istore (pc := 52) (lo' := [(0, .ref (ad G 27)), (1, .int k0), (2, .int i), (3, .int x), (4, .int 0), (5, .int k)]) dX12_wasAhead_52 (by decide) rfl ?_
          obtain ⟨x_54_11, e_54_11⟩ : ∃ y : Int32, y = k + (1) := ⟨_, rfl⟩
          have t_54_11 : x_54_11.toInt = k.toInt + 1 := addT e_54_11 rfl rfl (by omega) (by omega)
          refine V_iinc (pc := 54) (v := x_54_11) (lo' := [(0, .ref (ad G 27)), (1, .int k0), (2, .int i), (3, .int x), (4, .int 0), (5, .int x_54_11)]) 5 dX12_wasAhead_54 rfl e_54_11.symm (by decide) rfl ?_
          refine V_goto (pc := 57) (tgt := 6) dX12_wasAhead_57 (by decide) ?_
          exact ih (m + 1) x_54_11 0 (by omega) (by omega) (by first | exact ac_t hac (by omega) | exact ac_y (by unfold aheadP; omega) | exact ac_n hac (by omega) (by unfold aheadP; omega)) (by omega)
        · have c_44_10 : (I 36 (((32 * k0.toInt) + i.toInt) + (m : Int)).toNat).toInt = (I 36 (((32 * k0.toInt) + i.toInt) + x.toInt).toNat).toInt := c_44_10
          refine V_iconst (pc := 47) (v := 1) dX12_wasAhead_47 rfl ?_
          refine V_goto (pc := 48) (tgt := 52) dX12_wasAhead_48 (by decide) ?_
          refine V_istore (pc := 52) (lo' := [(0, .ref (ad G 27)), (1, .int k0), (2, .int i), (3, .int x), (4, .int 1), (5, .int k)]) dX12_wasAhead_52 (by decide) rfl ?_
          obtain ⟨x_54_12, e_54_12⟩ : ∃ y : Int32, y = k + (1) := ⟨_, rfl⟩
          have t_54_12 : x_54_12.toInt = k.toInt + 1 := addT e_54_12 rfl rfl (by omega) (by omega)
          refine V_iinc (pc := 54) (v := x_54_12) (lo' := [(0, .ref (ad G 27)), (1, .int k0), (2, .int i), (3, .int x), (4, .int 1), (5, .int x_54_12)]) 5 dX12_wasAhead_54 rfl e_54_12.symm (by decide) rfl ?_
          refine V_goto (pc := 57) (tgt := 6) dX12_wasAhead_57 (by decide) ?_
          exact ih (m + 1) x_54_12 1 (by omega) (by omega) (by first | exact ac_t hac (by omega) | exact ac_y (by unfold aheadP; omega) | exact ac_n hac (by omega) (by unfold aheadP; omega)) (by omega)
set_option maxRecDepth 100000 in
set_option maxHeartbeats 4000000 in
theorem c_X12_wasAhead (G : vG) {n : Nat} {sh : vS} {I : vI} {L : vL} {R : vR} (k0 i x : Int32) (hw : WF n sh R) (h0 : 0 ≤ k0.toInt ∧ k0.toInt ≤ 3) (hi : 0 ≤ i.toInt) (hx : 0 ≤ x.toInt ∧ i.toInt + x.toInt < 32) : CT G yX12_wasAhead cX12_wasAhead 6 (some .boolean) 0 0 0 [.ref (ad G 27), .int k0, .int i, .int x] n sh I L R (PI n sh L R (fun I' o => I = I' ∧ rb o (∃ y, y < x.toInt.toNat ∧ aheadP I ((32 * k0.toInt) + i.toInt) x.toInt y))) := by
  refine CT_of (own := RX12) (ini := false) (lo := [(0, .ref (ad G 27)), (1, .int k0), (2, .int i), (3, .int x)]) mf_X12_wasAhead (Nat.le_of_ble_eq_true rfl) rfl (fun h => by first | rfl | cases h) rfl ?_
  refine V_iconst (pc := 0) (v := 0) dX12_wasAhead_0 rfl ?_
  refine V_istore (pc := 1) (lo' := [(0, .ref (ad G 27)), (1, .int k0), (2, .int i), (3, .int x), (4, .int 0)]) dX12_wasAhead_1 (by decide) rfl ?_
  refine V_iconst (pc := 3) (v := 0) dX12_wasAhead_3 rfl ?_
  refine V_istore (pc := 4) (lo' := [(0, .ref (ad G 27)), (1, .int k0), (2, .int i), (3, .int x), (4, .int 0), (5, .int 0)]) dX12_wasAhead_4 (by decide) rfl ?_
  exact l_X12_wasAhead G k0 i x hw h0 hi hx (x.toInt.toNat + 1) 0 0 0 (by omega) rfl ac_0 (by omega)
set_option maxRecDepth 100000 in
set_option maxHeartbeats 4000000 in
theorem l_X12_isOutOfOrder (G : vG) {n : Nat} {sh : vS} {I : vI} {L : vL} {R : vR} (car c : Int32) (hw : WF n sh R) (h30 : 0 ≤ (I 27 30).toInt ∧ (I 27 30).toInt ≤ 8) (h8 : 0 ≤ car.toInt ∧ car.toInt < 8) (hc : 0 ≤ c.toInt ∧ c.toInt < 8) : ∀ (f m : Nat) (k : Int32) (a : Int32) (hm : (m : Int) ≤ (I 27 30).toInt) (hk : k.toInt = (m : Int)) (hac : ac a (oooP I car.toInt c.toInt) m) (hf : (I 27 30).toInt < (m : Int) + f), V G RX12 cX12_isOutOfOrder (some .boolean) false 0 0 0 7 (PI n sh L R (fun I' o => I = I' ∧ rb o (ooo I car.toInt c.toInt))) 18 [(0, .ref (ad G 27)), (1, .int car), (2, .int c), (3, .int (I 53 ((8 * car.toInt) + c.toInt).toNat)), (4, .int a), (5, .int k)] [] 0 0 n sh I L R := by
  intro f
  induction f with
  | zero => intro m k a hm hk hac hf; omega
  | succ f ih =>
    intro m k a hm hk hac hf
    refine V_iload (pc := 18) 5 dX12_isOutOfOrder_18 rfl ?_
    refine V_aload_n (pc := 20) 0 dX12_isOutOfOrder_20 rfl rfl ?_
    refine V_gI (pc := 21) (v := (I 27 30)) rfl fk_X12_199_12 dX12_isOutOfOrder_21 (wN hw (by decide)) (wS1 hw (by decide) rfl) ?_
    refine V_icmp_ge (pc := 24) (tgt := 96) dX12_isOutOfOrder_24 (by decide) (fun c_24_1 => ?_) (fun c_24_1 => ?_)
    · have c_24_1 : (I 27 30).toInt ≤ k.toInt := c_24_1
      refine V_iload (pc := 96) 4 dX12_isOutOfOrder_96 rfl ?_
      refine V_iret (pc := 98) rfl (nbool (ac_b hac)) dX12_isOutOfOrder_98 (by omega) (by omega) ?_
      refine ⟨rfl, rfl, rfl, rfl, rfl, ?_⟩
      have e9 : (I 27 30).toInt.toNat = m := by omega
      unfold ooo
      rw [e9]
      exact ac_e hac
    · have c_24_1 : k.toInt < (I 27 30).toInt := c_24_1
      refine V_aload_n (pc := 27) 0 dX12_isOutOfOrder_27 rfl rfl ?_
      refine V_getR (pc := 28) (j := 53) fk_X12_86_12 (wR hw (i := 27) (k := 39) (j := 53) rfl) dX12_isOutOfOrder_28 (wN hw (by decide)) (wS1 hw (by decide) rfl) ?_
      refine V_bipush (pc := 31) (v := 8) dX12_isOutOfOrder_31 rfl ?_
      refine V_iload_n (pc := 33) 1 dX12_isOutOfOrder_33 rfl rfl ?_
      refine V_imul (pc := 34) dX12_isOutOfOrder_34 (fun x_34_2 e_34_2 => ?_)
      have t_34_2 : x_34_2.toInt = 8 * car.toInt := mulT e_34_2 rfl rfl (by omega) (by omega)
      refine V_iload (pc := 35) 5 dX12_isOutOfOrder_35 rfl ?_
      refine V_iadd (pc := 37) dX12_isOutOfOrder_37 (fun x_37_3 e_37_3 => ?_)
      have t_37_3 : x_37_3.toInt = x_34_2.toInt + k.toInt := addT e_37_3 rfl rfl (by omega) (by omega)
      refine V_ia (pc := 38) (k := ((8 * car.toInt) + (m : Int)).toNat) (v := (I 53 ((8 * car.toInt) + (m : Int)).toNat)) rfl dX12_isOutOfOrder_38 (wN hw (by decide)) (wS hw (by decide) rfl) (by omega) (by omega) ?_
      refine V_istore (pc := 39) (lo' := [(0, .ref (ad G 27)), (1, .int car), (2, .int c), (3, .int (I 53 ((8 * car.toInt) + c.toInt).toNat)), (4, .int a), (5, .int k), (6, .int (I 53 ((8 * car.toInt) + (m : Int)).toNat))]) dX12_isOutOfOrder_39 (by decide) rfl ?_
      refine V_iload (pc := 41) 4 dX12_isOutOfOrder_41 rfl ?_
      refine V_if_ne (pc := 43) (tgt := 83) dX12_isOutOfOrder_43 (by decide) (fun c_43_4 => ?_) (fun c_43_4 => ?_)
      · have c_43_4 : a.toInt ≠ 0 := c_43_4
        refine V_iconst (pc := 83) (v := 1) dX12_isOutOfOrder_83 rfl ?_
        refine V_goto (pc := 84) (tgt := 88) dX12_isOutOfOrder_84 (by decide) ?_
        refine V_istore (pc := 88) (lo' := [(0, .ref (ad G 27)), (1, .int car), (2, .int c), (3, .int (I 53 ((8 * car.toInt) + c.toInt).toNat)), (4, .int 1), (5, .int k), (6, .int (I 53 ((8 * car.toInt) + (m : Int)).toNat))]) dX12_isOutOfOrder_88 (by decide) rfl ?_
        obtain ⟨x_90_5, e_90_5⟩ : ∃ y : Int32, y = k + (1) := ⟨_, rfl⟩
        have t_90_5 : x_90_5.toInt = k.toInt + 1 := addT e_90_5 rfl rfl (by omega) (by omega)
        refine V_iinc (pc := 90) (v := x_90_5) (lo' := [(0, .ref (ad G 27)), (1, .int car), (2, .int c), (3, .int (I 53 ((8 * car.toInt) + c.toInt).toNat)), (4, .int 1), (5, .int x_90_5), (6, .int (I 53 ((8 * car.toInt) + (m : Int)).toNat))]) 5 dX12_isOutOfOrder_90 rfl e_90_5.symm (by decide) rfl ?_
        refine V_goto (pc := 93) (tgt := 18) dX12_isOutOfOrder_93 (by decide) ?_
        refine V_lo (pc := 18) (lo' := [(0, .ref (ad G 27)), (1, .int car), (2, .int c), (3, .int (I 53 ((8 * car.toInt) + c.toInt).toNat)), (4, .int 1), (5, .int x_90_5)]) [0, 1, 2, 3, 4, 5] rfl ?_
        exact ih (m + 1) x_90_5 1 (by omega) (by omega) (by first | exact ac_t hac (by omega) | exact ac_y (by unfold oooP; omega) | exact ac_n hac (by omega) (by unfold oooP; omega)) (by omega)
      · have c_43_4 : a.toInt = 0 := c_43_4
        refine V_aload_n (pc := 46) 0 dX12_isOutOfOrder_46 rfl rfl ?_
        refine V_getR (pc := 47) (j := 47) fk_X12_68_12 (wR hw (i := 27) (k := 31) (j := 47) rfl) dX12_isOutOfOrder_47 (wN hw (by decide)) (wS1 hw (by decide) rfl) ?_
        refine V_iload (pc := 50) 5 dX12_isOutOfOrder_50 rfl ?_
        refine V_ia (pc := 52) (k := m) (v := (I 47 m)) rfl dX12_isOutOfOrder_52 (wN hw (by decide)) (wS hw (by decide) rfl) hk (by omega) ?_
        refine V_aload_n (pc := 53) 0 dX12_isOutOfOrder_53 rfl rfl ?_
        refine V_getR (pc := 54) (j := 47) fk_X12_68_12 (wR hw (i := 27) (k := 31) (j := 47) rfl) dX12_isOutOfOrder_54 (wN hw (by decide)) (wS1 hw (by decide) rfl) ?_
        refine V_iload_n (pc := 57) 2 dX12_isOutOfOrder_57 rfl rfl ?_
        refine V_ia (pc := 58) (k := c.toInt.toNat) (v := (I 47 c.toInt.toNat)) rfl dX12_isOutOfOrder_58 (wN hw (by decide)) (wS hw (by decide) rfl) (by omega) (by omega) ?_
        refine V_icmp_le (pc := 59) (tgt := 87) dX12_isOutOfOrder_59 (by decide) (fun c_59_6 => ?_) (fun c_59_6 => ?_)
        · have c_59_6 : (I 47 m).toInt ≤ (I 47 c.toInt.toNat).toInt := c_59_6
          refine V_iconst (pc := 87) (v := 0) dX12_isOutOfOrder_87 rfl ?_
          refine V_istore (pc := 88) (lo' := [(0, .ref (ad G 27)), (1, .int car), (2, .int c), (3, .int (I 53 ((8 * car.toInt) + c.toInt).toNat)), (4, .int 0), (5, .int k), (6, .int (I 53 ((8 * car.toInt) + (m : Int)).toNat))]) dX12_isOutOfOrder_88 (by decide) rfl ?_
          obtain ⟨x_90_7, e_90_7⟩ : ∃ y : Int32, y = k + (1) := ⟨_, rfl⟩
          have t_90_7 : x_90_7.toInt = k.toInt + 1 := addT e_90_7 rfl rfl (by omega) (by omega)
          refine V_iinc (pc := 90) (v := x_90_7) (lo' := [(0, .ref (ad G 27)), (1, .int car), (2, .int c), (3, .int (I 53 ((8 * car.toInt) + c.toInt).toNat)), (4, .int 0), (5, .int x_90_7), (6, .int (I 53 ((8 * car.toInt) + (m : Int)).toNat))]) 5 dX12_isOutOfOrder_90 rfl e_90_7.symm (by decide) rfl ?_
          refine V_goto (pc := 93) (tgt := 18) dX12_isOutOfOrder_93 (by decide) ?_
          refine V_lo (pc := 18) (lo' := [(0, .ref (ad G 27)), (1, .int car), (2, .int c), (3, .int (I 53 ((8 * car.toInt) + c.toInt).toNat)), (4, .int 0), (5, .int x_90_7)]) [0, 1, 2, 3, 4, 5] rfl ?_
          exact ih (m + 1) x_90_7 0 (by omega) (by omega) (by first | exact ac_t hac (by omega) | exact ac_y (by unfold oooP; omega) | exact ac_n hac (by omega) (by unfold oooP; omega)) (by omega)
        · have c_59_6 : (I 47 c.toInt.toNat).toInt < (I 47 m).toInt := c_59_6
          refine V_aload_n (pc := 62) 0 dX12_isOutOfOrder_62 rfl rfl ?_
          refine V_getR (pc := 63) (j := 48) fk_X12_71_12 (wR hw (i := 27) (k := 32) (j := 48) rfl) dX12_isOutOfOrder_63 (wN hw (by decide)) (wS1 hw (by decide) rfl) ?_
          refine V_iload (pc := 66) 5 dX12_isOutOfOrder_66 rfl ?_
          refine V_za (pc := 68) (k := m) (v := (I 48 m)) rfl dX12_isOutOfOrder_68 (wN hw (by decide)) (wS hw (by decide) rfl) hk (by omega) ?_
          refine V_if_ne (pc := 69) (tgt := 87) dX12_isOutOfOrder_69 (by decide) (fun c_69_8 => ?_) (fun c_69_8 => ?_)
          · have c_69_8 : (I 48 m).toInt ≠ 0 := c_69_8
            refine V_iconst (pc := 87) (v := 0) dX12_isOutOfOrder_87 rfl ?_
            refine V_istore (pc := 88) (lo' := [(0, .ref (ad G 27)), (1, .int car), (2, .int c), (3, .int (I 53 ((8 * car.toInt) + c.toInt).toNat)), (4, .int 0), (5, .int k), (6, .int (I 53 ((8 * car.toInt) + (m : Int)).toNat))]) dX12_isOutOfOrder_88 (by decide) rfl ?_
            obtain ⟨x_90_9, e_90_9⟩ : ∃ y : Int32, y = k + (1) := ⟨_, rfl⟩
            have t_90_9 : x_90_9.toInt = k.toInt + 1 := addT e_90_9 rfl rfl (by omega) (by omega)
            refine V_iinc (pc := 90) (v := x_90_9) (lo' := [(0, .ref (ad G 27)), (1, .int car), (2, .int c), (3, .int (I 53 ((8 * car.toInt) + c.toInt).toNat)), (4, .int 0), (5, .int x_90_9), (6, .int (I 53 ((8 * car.toInt) + (m : Int)).toNat))]) 5 dX12_isOutOfOrder_90 rfl e_90_9.symm (by decide) rfl ?_
            refine V_goto (pc := 93) (tgt := 18) dX12_isOutOfOrder_93 (by decide) ?_
            refine V_lo (pc := 18) (lo' := [(0, .ref (ad G 27)), (1, .int car), (2, .int c), (3, .int (I 53 ((8 * car.toInt) + c.toInt).toNat)), (4, .int 0), (5, .int x_90_9)]) [0, 1, 2, 3, 4, 5] rfl ?_
            exact ih (m + 1) x_90_9 0 (by omega) (by omega) (by first | exact ac_t hac (by omega) | exact ac_y (by unfold oooP; omega) | exact ac_n hac (by omega) (by unfold oooP; omega)) (by omega)
          · have c_69_8 : (I 48 m).toInt = 0 := c_69_8
            refine V_iload (pc := 72) 6 dX12_isOutOfOrder_72 rfl ?_
            refine V_if_le (pc := 74) (tgt := 87) dX12_isOutOfOrder_74 (by decide) (fun c_74_10 => ?_) (fun c_74_10 => ?_)
            · have c_74_10 : (I 53 ((8 * car.toInt) + (m : Int)).toNat).toInt ≤ 0 := c_74_10
              refine V_iconst (pc := 87) (v := 0) dX12_isOutOfOrder_87 rfl ?_
              refine V_istore (pc := 88) (lo' := [(0, .ref (ad G 27)), (1, .int car), (2, .int c), (3, .int (I 53 ((8 * car.toInt) + c.toInt).toNat)), (4, .int 0), (5, .int k), (6, .int (I 53 ((8 * car.toInt) + (m : Int)).toNat))]) dX12_isOutOfOrder_88 (by decide) rfl ?_
              obtain ⟨x_90_11, e_90_11⟩ : ∃ y : Int32, y = k + (1) := ⟨_, rfl⟩
              have t_90_11 : x_90_11.toInt = k.toInt + 1 := addT e_90_11 rfl rfl (by omega) (by omega)
              refine V_iinc (pc := 90) (v := x_90_11) (lo' := [(0, .ref (ad G 27)), (1, .int car), (2, .int c), (3, .int (I 53 ((8 * car.toInt) + c.toInt).toNat)), (4, .int 0), (5, .int x_90_11), (6, .int (I 53 ((8 * car.toInt) + (m : Int)).toNat))]) 5 dX12_isOutOfOrder_90 rfl e_90_11.symm (by decide) rfl ?_
              refine V_goto (pc := 93) (tgt := 18) dX12_isOutOfOrder_93 (by decide) ?_
              refine V_lo (pc := 18) (lo' := [(0, .ref (ad G 27)), (1, .int car), (2, .int c), (3, .int (I 53 ((8 * car.toInt) + c.toInt).toNat)), (4, .int 0), (5, .int x_90_11)]) [0, 1, 2, 3, 4, 5] rfl ?_
              exact ih (m + 1) x_90_11 0 (by omega) (by omega) (by first | exact ac_t hac (by omega) | exact ac_y (by unfold oooP; omega) | exact ac_n hac (by omega) (by unfold oooP; omega)) (by omega)
            · have c_74_10 : 0 < (I 53 ((8 * car.toInt) + (m : Int)).toNat).toInt := c_74_10
              refine V_iload (pc := 77) 6 dX12_isOutOfOrder_77 rfl ?_
              refine V_iload_n (pc := 79) 3 dX12_isOutOfOrder_79 rfl rfl ?_
              refine V_icmp_ge (pc := 80) (tgt := 87) dX12_isOutOfOrder_80 (by decide) (fun c_80_12 => ?_) (fun c_80_12 => ?_)
              · have c_80_12 : (I 53 ((8 * car.toInt) + c.toInt).toNat).toInt ≤ (I 53 ((8 * car.toInt) + (m : Int)).toNat).toInt := c_80_12
                refine V_iconst (pc := 87) (v := 0) dX12_isOutOfOrder_87 rfl ?_
                refine V_istore (pc := 88) (lo' := [(0, .ref (ad G 27)), (1, .int car), (2, .int c), (3, .int (I 53 ((8 * car.toInt) + c.toInt).toNat)), (4, .int 0), (5, .int k), (6, .int (I 53 ((8 * car.toInt) + (m : Int)).toNat))]) dX12_isOutOfOrder_88 (by decide) rfl ?_
                obtain ⟨x_90_13, e_90_13⟩ : ∃ y : Int32, y = k + (1) := ⟨_, rfl⟩
                have t_90_13 : x_90_13.toInt = k.toInt + 1 := addT e_90_13 rfl rfl (by omega) (by omega)
                refine V_iinc (pc := 90) (v := x_90_13) (lo' := [(0, .ref (ad G 27)), (1, .int car), (2, .int c), (3, .int (I 53 ((8 * car.toInt) + c.toInt).toNat)), (4, .int 0), (5, .int x_90_13), (6, .int (I 53 ((8 * car.toInt) + (m : Int)).toNat))]) 5 dX12_isOutOfOrder_90 rfl e_90_13.symm (by decide) rfl ?_
                refine V_goto (pc := 93) (tgt := 18) dX12_isOutOfOrder_93 (by decide) ?_
                refine V_lo (pc := 18) (lo' := [(0, .ref (ad G 27)), (1, .int car), (2, .int c), (3, .int (I 53 ((8 * car.toInt) + c.toInt).toNat)), (4, .int 0), (5, .int x_90_13)]) [0, 1, 2, 3, 4, 5] rfl ?_
                exact ih (m + 1) x_90_13 0 (by omega) (by omega) (by first | exact ac_t hac (by omega) | exact ac_y (by unfold oooP; omega) | exact ac_n hac (by omega) (by unfold oooP; omega)) (by omega)
              · have c_80_12 : (I 53 ((8 * car.toInt) + (m : Int)).toNat).toInt < (I 53 ((8 * car.toInt) + c.toInt).toNat).toInt := c_80_12
                refine V_iconst (pc := 83) (v := 1) dX12_isOutOfOrder_83 rfl ?_
                refine V_goto (pc := 84) (tgt := 88) dX12_isOutOfOrder_84 (by decide) ?_
                refine V_istore (pc := 88) (lo' := [(0, .ref (ad G 27)), (1, .int car), (2, .int c), (3, .int (I 53 ((8 * car.toInt) + c.toInt).toNat)), (4, .int 1), (5, .int k), (6, .int (I 53 ((8 * car.toInt) + (m : Int)).toNat))]) dX12_isOutOfOrder_88 (by decide) rfl ?_
                obtain ⟨x_90_14, e_90_14⟩ : ∃ y : Int32, y = k + (1) := ⟨_, rfl⟩
                have t_90_14 : x_90_14.toInt = k.toInt + 1 := addT e_90_14 rfl rfl (by omega) (by omega)
                refine V_iinc (pc := 90) (v := x_90_14) (lo' := [(0, .ref (ad G 27)), (1, .int car), (2, .int c), (3, .int (I 53 ((8 * car.toInt) + c.toInt).toNat)), (4, .int 1), (5, .int x_90_14), (6, .int (I 53 ((8 * car.toInt) + (m : Int)).toNat))]) 5 dX12_isOutOfOrder_90 rfl e_90_14.symm (by decide) rfl ?_
                refine V_goto (pc := 93) (tgt := 18) dX12_isOutOfOrder_93 (by decide) ?_
                refine V_lo (pc := 18) (lo' := [(0, .ref (ad G 27)), (1, .int car), (2, .int c), (3, .int (I 53 ((8 * car.toInt) + c.toInt).toNat)), (4, .int 1), (5, .int x_90_14)]) [0, 1, 2, 3, 4, 5] rfl ?_
                exact ih (m + 1) x_90_14 1 (by omega) (by omega) (by first | exact ac_t hac (by omega) | exact ac_y (by unfold oooP; omega) | exact ac_n hac (by omega) (by unfold oooP; omega)) (by omega)
set_option maxRecDepth 100000 in
set_option maxHeartbeats 4000000 in
theorem c_X12_isOutOfOrder (G : vG) {n : Nat} {sh : vS} {I : vI} {L : vL} {R : vR} (car c : Int32) (hw : WF n sh R) (h30 : 0 ≤ (I 27 30).toInt ∧ (I 27 30).toInt ≤ 8) (h8 : 0 ≤ car.toInt ∧ car.toInt < 8) (hc : 0 ≤ c.toInt ∧ c.toInt < 8) : CT G yX12_isOutOfOrder cX12_isOutOfOrder 7 (some .boolean) 0 0 0 [.ref (ad G 27), .int car, .int c] n sh I L R (PI n sh L R (fun I' o => I = I' ∧ rb o (ooo I car.toInt c.toInt))) := by
  refine CT_of (own := RX12) (ini := false) (lo := [(0, .ref (ad G 27)), (1, .int car), (2, .int c)]) mf_X12_isOutOfOrder (Nat.le_of_ble_eq_true rfl) rfl (fun h => by first | rfl | cases h) rfl ?_
  refine V_aload_n (pc := 0) 0 dX12_isOutOfOrder_0 rfl rfl ?_
  refine V_getR (pc := 1) (j := 53) fk_X12_86_12 (wR hw (i := 27) (k := 39) (j := 53) rfl) dX12_isOutOfOrder_1 (wN hw (by decide)) (wS1 hw (by decide) rfl) ?_
  refine V_bipush (pc := 4) (v := 8) dX12_isOutOfOrder_4 rfl ?_
  refine V_iload_n (pc := 6) 1 dX12_isOutOfOrder_6 rfl rfl ?_
  refine V_imul (pc := 7) dX12_isOutOfOrder_7 (fun x_7_1 e_7_1 => ?_)
  have t_7_1 : x_7_1.toInt = 8 * car.toInt := mulT e_7_1 rfl rfl (by omega) (by omega)
  refine V_iload_n (pc := 8) 2 dX12_isOutOfOrder_8 rfl rfl ?_
  refine V_iadd (pc := 9) dX12_isOutOfOrder_9 (fun x_9_2 e_9_2 => ?_)
  have t_9_2 : x_9_2.toInt = x_7_1.toInt + c.toInt := addT e_9_2 rfl rfl (by omega) (by omega)
  refine V_ia (pc := 10) (k := ((8 * car.toInt) + c.toInt).toNat) (v := (I 53 ((8 * car.toInt) + c.toInt).toNat)) rfl dX12_isOutOfOrder_10 (wN hw (by decide)) (wS hw (by decide) rfl) (by omega) (by omega) ?_
  refine V_istore_n (pc := 11) (lo' := [(0, .ref (ad G 27)), (1, .int car), (2, .int c), (3, .int (I 53 ((8 * car.toInt) + c.toInt).toNat))]) dX12_isOutOfOrder_11 rfl (by decide) rfl ?_
  refine V_iconst (pc := 12) (v := 0) dX12_isOutOfOrder_12 rfl ?_
  refine V_istore (pc := 13) (lo' := [(0, .ref (ad G 27)), (1, .int car), (2, .int c), (3, .int (I 53 ((8 * car.toInt) + c.toInt).toNat)), (4, .int 0)]) dX12_isOutOfOrder_13 (by decide) rfl ?_
  refine V_iconst (pc := 15) (v := 0) dX12_isOutOfOrder_15 rfl ?_
  refine V_istore (pc := 16) (lo' := [(0, .ref (ad G 27)), (1, .int car), (2, .int c), (3, .int (I 53 ((8 * car.toInt) + c.toInt).toNat)), (4, .int 0), (5, .int 0)]) dX12_isOutOfOrder_16 (by decide) rfl ?_
  exact l_X12_isOutOfOrder G car c hw h30 h8 hc ((I 27 30).toInt.toNat + 1) 0 0 0 (by omega) rfl ac_0 (by omega)
set_option maxRecDepth 100000 in
set_option maxHeartbeats 4000000 in
theorem l_X12_carried (G : vG) {n : Nat} {sh : vS} {I : vI} {L : vL} {R : vR} (car c : Int32) (hw : WF n sh R) (h30 : 0 ≤ (I 27 30).toInt ∧ (I 27 30).toInt ≤ 8) (h8 : 0 ≤ car.toInt ∧ car.toInt < 8) (hc : 0 ≤ c.toInt ∧ c.toInt < 8) : ∀ (f m : Nat) (k : Int32) (a : Int64) (hm : (m : Int) ≤ (I 27 30).toInt) (hk : k.toInt = (m : Int)) (ha : a.toInt = carF I car.toInt c.toInt m) (hf : (I 27 30).toInt < (m : Int) + f), V G RX12 cX12_carried (some .long) false 0 0 0 7 (PI n sh L R (fun I' o => I = I' ∧ ∃ v : Int64, o = some (.long v) ∧ v.toInt = min (carF I car.toInt c.toInt (I 27 30).toInt.toNat) 1500)) 5 [(0, .ref (ad G 27)), (1, .int car), (2, .int c), (3, .long a), (5, .int k)] [] 0 0 n sh I L R := by
  intro f
  induction f with
  | zero => intro m k a hm hk ha hf; omega
  | succ f ih =>
    intro m k a hm hk ha hf
    have hb := carF_b I car.toInt c.toInt m
    have hr := fb_rng (I 55 ((8 * car.toInt) + (m : Int)).toNat)
    refine V_iload (pc := 5) 4 dX12_carried_5 rfl ?_
    refine V_aload_n (pc := 7) 0 dX12_carried_7 rfl rfl ?_
    refine V_gI (pc := 8) (v := (I 27 30)) rfl fk_X12_199_12 dX12_carried_8 (wN hw (by decide)) (wS1 hw (by decide) rfl) ?_
    refine V_icmp_ge (pc := 11) (tgt := 74) dX12_carried_11 (by decide) (fun c_11_1 => ?_) (fun c_11_1 => ?_)
    · have c_11_1 : (I 27 30).toInt ≤ k.toInt := c_11_1
      refine V_lload_n (pc := 74) 3 dX12_carried_74 rfl rfl ?_
      refine V_ldc2 (pc := 75) dX12_carried_75 kk_X12_246 ?_
      refine V_lcmp (pc := 78) dX12_carried_78 (fun x_78_2 e_78_2 => ?_)
      refine V_if_ge (pc := 79) (tgt := 86) dX12_carried_79 (by decide) (fun c_78_2 => ?_) (fun c_78_2 => ?_)
      · have c_78_2 : 1500 ≤ a.toInt := (lcT_ge e_78_2).mp c_78_2
        refine V_ldc2 (pc := 86) dX12_carried_86 kk_X12_246 ?_
        refine V_lret (pc := 89) rfl dX12_carried_89 (by omega) (by omega) ?_
        refine ⟨rfl, rfl, rfl, rfl, rfl, ?_⟩
        have e9 : (I 27 30).toInt.toNat = m := by omega
        rw [e9]
        refine ⟨_, rfl, ?_⟩
        show (1500 : Int) = _
        omega
      · have c_78_2 : a.toInt < 1500 := (lcT_lt e_78_2).mp c_78_2
        refine V_lload_n (pc := 82) 3 dX12_carried_82 rfl rfl ?_
        refine V_goto (pc := 83) (tgt := 89) dX12_carried_83 (by decide) ?_
        refine V_lret (pc := 89) rfl dX12_carried_89 (by omega) (by omega) ?_
        refine ⟨rfl, rfl, rfl, rfl, rfl, ?_⟩
        have e9 : (I 27 30).toInt.toNat = m := by omega
        rw [e9]
        refine ⟨_, rfl, ?_⟩
        omega
    · have c_11_1 : k.toInt < (I 27 30).toInt := c_11_1
      refine V_aload_n (pc := 14) 0 dX12_carried_14 rfl rfl ?_
      refine V_getR (pc := 15) (j := 55) fk_X12_92_12 (wR hw (i := 27) (k := 41) (j := 55) rfl) dX12_carried_15 (wN hw (by decide)) (wS1 hw (by decide) rfl) ?_
      refine V_bipush (pc := 18) (v := 8) dX12_carried_18 rfl ?_
      refine V_iload_n (pc := 20) 1 dX12_carried_20 rfl rfl ?_
      refine V_imul (pc := 21) dX12_carried_21 (fun x_21_3 e_21_3 => ?_)
      have t_21_3 : x_21_3.toInt = 8 * car.toInt := mulT e_21_3 rfl rfl (by omega) (by omega)
      refine V_iload (pc := 22) 4 dX12_carried_22 rfl ?_
      refine V_iadd (pc := 24) dX12_carried_24 (fun x_24_4 e_24_4 => ?_)
      have t_24_4 : x_24_4.toInt = x_21_3.toInt + k.toInt := addT e_24_4 rfl rfl (by omega) (by omega)
      refine V_ia (pc := 25) (k := ((8 * car.toInt) + (m : Int)).toNat) (v := (I 55 ((8 * car.toInt) + (m : Int)).toNat)) rfl dX12_carried_25 (wN hw (by decide)) (wS hw (by decide) rfl) (by omega) (by omega) ?_
      refine V_istore (pc := 26) (lo' := [(0, .ref (ad G 27)), (1, .int car), (2, .int c), (3, .long a), (5, .int k), (6, .int (I 55 ((8 * car.toInt) + (m : Int)).toNat))]) dX12_carried_26 (by decide) rfl ?_
      refine V_lload_n (pc := 28) 3 dX12_carried_28 rfl rfl ?_
      refine V_aload_n (pc := 29) 0 dX12_carried_29 rfl rfl ?_
      refine V_getR (pc := 30) (j := 47) fk_X12_68_12 (wR hw (i := 27) (k := 31) (j := 47) rfl) dX12_carried_30 (wN hw (by decide)) (wS1 hw (by decide) rfl) ?_
      refine V_iload (pc := 33) 4 dX12_carried_33 rfl ?_
      refine V_ia (pc := 35) (k := m) (v := (I 47 m)) rfl dX12_carried_35 (wN hw (by decide)) (wS hw (by decide) rfl) hk (by omega) ?_
      refine V_aload_n (pc := 36) 0 dX12_carried_36 rfl rfl ?_
      refine V_getR (pc := 37) (j := 47) fk_X12_68_12 (wR hw (i := 27) (k := 31) (j := 47) rfl) dX12_carried_37 (wN hw (by decide)) (wS1 hw (by decide) rfl) ?_
      refine V_iload_n (pc := 40) 2 dX12_carried_40 rfl rfl ?_
      refine V_ia (pc := 41) (k := c.toInt.toNat) (v := (I 47 c.toInt.toNat)) rfl dX12_carried_41 (wN hw (by decide)) (wS hw (by decide) rfl) (by omega) (by omega) ?_
      refine V_icmp_gt (pc := 42) (tgt := 65) dX12_carried_42 (by decide) (fun c_42_5 => ?_) (fun c_42_5 => ?_)
      · have c_42_5 : (I 47 c.toInt.toNat).toInt < (I 47 m).toInt := c_42_5
        refine V_lconst (pc := 65) (v := 0) dX12_carried_65 rfl ?_
        refine V_ladd (pc := 66) dX12_carried_66 (fun x_66_6 e_66_6 => ?_)
        have t_66_6 : x_66_6.toInt = a.toInt + 0 := laddT e_66_6 rfl rfl (by omega) (by omega)
        refine V_lstore_n (pc := 67) (lo' := [(0, .ref (ad G 27)), (1, .int car), (2, .int c), (3, .long x_66_6), (5, .int k), (6, .int (I 55 ((8 * car.toInt) + (m : Int)).toNat))]) dX12_carried_67 rfl (by decide) rfl ?_
        obtain ⟨x_68_7, e_68_7⟩ : ∃ y : Int32, y = k + (1) := ⟨_, rfl⟩
        have t_68_7 : x_68_7.toInt = k.toInt + 1 := addT e_68_7 rfl rfl (by omega) (by omega)
        refine V_iinc (pc := 68) (v := x_68_7) (lo' := [(0, .ref (ad G 27)), (1, .int car), (2, .int c), (3, .long x_66_6), (5, .int x_68_7), (6, .int (I 55 ((8 * car.toInt) + (m : Int)).toNat))]) 4 dX12_carried_68 rfl e_68_7.symm (by decide) rfl ?_
        refine V_goto (pc := 71) (tgt := 5) dX12_carried_71 (by decide) ?_
        refine V_lo (pc := 5) (lo' := [(0, .ref (ad G 27)), (1, .int car), (2, .int c), (3, .long x_66_6), (5, .int x_68_7)]) [0, 1, 2, 3, 4] rfl ?_
        exact ih (m + 1) x_68_7 x_66_6 (by omega) (by omega) (by unfold carF; (repeat' split) <;> omega) (by omega)
      · have c_42_5 : (I 47 m).toInt ≤ (I 47 c.toInt.toNat).toInt := c_42_5
        refine V_iload (pc := 45) 5 dX12_carried_45 rfl ?_
        refine V_sipush (pc := 47) (v := 600) dX12_carried_47 rfl ?_
        refine V_icmp_ge (pc := 50) (tgt := 59) dX12_carried_50 (by decide) (fun c_50_8 => ?_) (fun c_50_8 => ?_)
        · have c_50_8 : 600 ≤ (I 55 ((8 * car.toInt) + (m : Int)).toNat).toInt := c_50_8
          refine V_ldc2 (pc := 59) dX12_carried_59 kk_X12_218 ?_
          refine V_goto (pc := 62) (tgt := 66) dX12_carried_62 (by decide) ?_
          refine V_ladd (pc := 66) dX12_carried_66 (fun x_66_9 e_66_9 => ?_)
          have t_66_9 : x_66_9.toInt = a.toInt + 600 := laddT e_66_9 rfl rfl (by omega) (by omega)
          refine V_lstore_n (pc := 67) (lo' := [(0, .ref (ad G 27)), (1, .int car), (2, .int c), (3, .long x_66_9), (5, .int k), (6, .int (I 55 ((8 * car.toInt) + (m : Int)).toNat))]) dX12_carried_67 rfl (by decide) rfl ?_
          obtain ⟨x_68_10, e_68_10⟩ : ∃ y : Int32, y = k + (1) := ⟨_, rfl⟩
          have t_68_10 : x_68_10.toInt = k.toInt + 1 := addT e_68_10 rfl rfl (by omega) (by omega)
          refine V_iinc (pc := 68) (v := x_68_10) (lo' := [(0, .ref (ad G 27)), (1, .int car), (2, .int c), (3, .long x_66_9), (5, .int x_68_10), (6, .int (I 55 ((8 * car.toInt) + (m : Int)).toNat))]) 4 dX12_carried_68 rfl e_68_10.symm (by decide) rfl ?_
          refine V_goto (pc := 71) (tgt := 5) dX12_carried_71 (by decide) ?_
          refine V_lo (pc := 5) (lo' := [(0, .ref (ad G 27)), (1, .int car), (2, .int c), (3, .long x_66_9), (5, .int x_68_10)]) [0, 1, 2, 3, 4] rfl ?_
          exact ih (m + 1) x_68_10 x_66_9 (by omega) (by omega) (by unfold carF; (repeat' split) <;> omega) (by omega)
        · have c_50_8 : (I 55 ((8 * car.toInt) + (m : Int)).toNat).toInt < 600 := c_50_8
          refine V_iload (pc := 53) 5 dX12_carried_53 rfl ?_
          refine V_i2l (pc := 55) dX12_carried_55 (fun x_55_11 e_55_11 => ?_)
          have t_55_11 : x_55_11.toInt = (I 55 ((8 * car.toInt) + (m : Int)).toNat).toInt := i2lT e_55_11 rfl
          have b_55_11 := fb_rng (I 55 ((8 * car.toInt) + (m : Int)).toNat)
          refine V_goto (pc := 56) (tgt := 66) dX12_carried_56 (by decide) ?_
          refine V_ladd (pc := 66) dX12_carried_66 (fun x_66_12 e_66_12 => ?_)
          have t_66_12 : x_66_12.toInt = a.toInt + x_55_11.toInt := laddT e_66_12 rfl rfl (by omega) (by omega)
          refine V_lstore_n (pc := 67) (lo' := [(0, .ref (ad G 27)), (1, .int car), (2, .int c), (3, .long x_66_12), (5, .int k), (6, .int (I 55 ((8 * car.toInt) + (m : Int)).toNat))]) dX12_carried_67 rfl (by decide) rfl ?_
          obtain ⟨x_68_13, e_68_13⟩ : ∃ y : Int32, y = k + (1) := ⟨_, rfl⟩
          have t_68_13 : x_68_13.toInt = k.toInt + 1 := addT e_68_13 rfl rfl (by omega) (by omega)
          refine V_iinc (pc := 68) (v := x_68_13) (lo' := [(0, .ref (ad G 27)), (1, .int car), (2, .int c), (3, .long x_66_12), (5, .int x_68_13), (6, .int (I 55 ((8 * car.toInt) + (m : Int)).toNat))]) 4 dX12_carried_68 rfl e_68_13.symm (by decide) rfl ?_
          refine V_goto (pc := 71) (tgt := 5) dX12_carried_71 (by decide) ?_
          refine V_lo (pc := 5) (lo' := [(0, .ref (ad G 27)), (1, .int car), (2, .int c), (3, .long x_66_12), (5, .int x_68_13)]) [0, 1, 2, 3, 4] rfl ?_
          exact ih (m + 1) x_68_13 x_66_12 (by omega) (by omega) (by unfold carF; (repeat' split) <;> omega) (by omega)
set_option maxRecDepth 100000 in
set_option maxHeartbeats 4000000 in
theorem c_X12_carried (G : vG) {n : Nat} {sh : vS} {I : vI} {L : vL} {R : vR} (car c : Int32) (hw : WF n sh R) (h30 : 0 ≤ (I 27 30).toInt ∧ (I 27 30).toInt ≤ 8) (h8 : 0 ≤ car.toInt ∧ car.toInt < 8) (hc : 0 ≤ c.toInt ∧ c.toInt < 8) : CT G yX12_carried cX12_carried 7 (some .long) 0 0 0 [.ref (ad G 27), .int car, .int c] n sh I L R (PI n sh L R (fun I' o => I = I' ∧ ∃ v : Int64, o = some (.long v) ∧ v.toInt = min (carF I car.toInt c.toInt (I 27 30).toInt.toNat) 1500)) := by
  refine CT_of (own := RX12) (ini := false) (lo := [(0, .ref (ad G 27)), (1, .int car), (2, .int c)]) mf_X12_carried (Nat.le_of_ble_eq_true rfl) rfl (fun h => by first | rfl | cases h) rfl ?_
  refine V_lconst (pc := 0) (v := 0) dX12_carried_0 rfl ?_
  refine V_lstore_n (pc := 1) (lo' := [(0, .ref (ad G 27)), (1, .int car), (2, .int c), (3, .long 0)]) dX12_carried_1 rfl (by decide) rfl ?_
  refine V_iconst (pc := 2) (v := 0) dX12_carried_2 rfl ?_
  refine V_istore (pc := 3) (lo' := [(0, .ref (ad G 27)), (1, .int car), (2, .int c), (3, .long 0), (5, .int 0)]) dX12_carried_3 (by decide) rfl ?_
  exact l_X12_carried G car c hw h30 h8 hc ((I 27 30).toInt.toNat + 1) 0 0 0 (by omega) rfl rfl (by omega)
