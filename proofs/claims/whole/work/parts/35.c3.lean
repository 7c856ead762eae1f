set_option maxRecDepth 100000 in
set_option maxHeartbeats 4000000 in
theorem l_X9_begin (G : vG) {n : Nat} {sh : vS} {I : vI} {L : vL} {R : vR} (q : Nat) (l m0 : Int32) (hw : WF n sh R) (hq : q < 4) : ∀ (f m : Nat) (x : Int32) (J : vI) (hm : (m : Int) ≤ (32 : Int)) (hx : x.toInt = (m : Int)) (hJ : J = cpF (up2 (up2 (up2 I (19 + 2 * q) 1 1) (19 + 2 * q) 2 l) (19 + 2 * q) 3 m0) (20 + 2 * q) 0 (fun _ => 0) m) (hf : (32 : Int) < (m : Int) + f), V G RX9 cX9_begin (none) false 0 0 0 4 (PI n sh L R (fun I' r => cpF (up2 (up2 (up2 I (19 + 2 * q) 1 1) (19 + 2 * q) 2 l) (19 + 2 * q) 3 m0) (20 + 2 * q) 0 (fun _ => 0) 32 = I' ∧ r = none)) 17 [(0, .ref (ad G (19 + 2 * q))), (1, .int l), (2, .int m0), (3, .int x)] [] 0 0 n sh J L R := by
  intro f
  induction f with
  | zero => intro m x J hm hx hJ hf; omega
  | succ f ih =>
    intro m x J hm hx hJ hf
    refine V_iload_n (pc := 17) 3 dX9_begin_17 rfl rfl ?_
    refine V_bipush (pc := 18) (v := 32) dX9_begin_18 rfl ?_
    refine V_icmp_ge (pc := 20) (tgt := 36) dX9_begin_20 (by decide) (fun c_20_1 => ?_) (fun c_20_1 => ?_)
    · have c_20_1 : 32 ≤ x.toInt := c_20_1
      refine V_vret (pc := 36) rfl dX9_begin_36 (by omega) (by omega) ?_
      have e1 : m = 32 := by omega
      subst e1
      exact ⟨rfl, rfl, rfl, rfl, hJ.symm, rfl⟩
    · have c_20_1 : x.toInt < 32 := c_20_1
      refine V_aload_n (pc := 23) 0 dX9_begin_23 rfl rfl ?_
      refine V_getR (pc := 24) (j := (20 + 2 * q)) fk_X9_9_9 (wSo hw hq).2.2.2.1 dX9_begin_24 (wSo hw hq).1.1 (wSo hw hq).2.1 ?_
      refine V_iload_n (pc := 27) 3 dX9_begin_27 rfl rfl ?_
      refine V_iconst (pc := 28) (v := 0) dX9_begin_28 rfl ?_
      refine V_iask (pc := 29) (k := m) dX9_begin_29 (wSo hw hq).1.2 (wSo hw hq).2.2.1 hx (by omega) ?_
      obtain ⟨x_30_2, e_30_2⟩ : ∃ y : Int32, y = x + (1) := ⟨_, rfl⟩
      have t_30_2 : x_30_2.toInt = x.toInt + 1 := addT e_30_2 rfl rfl (by omega) (by omega)
      refine V_iinc (pc := 30) (v := x_30_2) (lo' := [(0, .ref (ad G (19 + 2 * q))), (1, .int l), (2, .int m0), (3, .int x_30_2)]) 3 dX9_begin_30 rfl e_30_2.symm (by decide) rfl ?_
      refine V_goto (pc := 33) (tgt := 17) dX9_begin_33 (by decide) ?_
      exact ih (m + 1) x_30_2 _ (by omega) (by omega) (by subst hJ; show _ = up2 (cpF _ _ _ _ m) _ _ _; simp) (by omega)
set_option maxRecDepth 100000 in
set_option maxHeartbeats 4000000 in
theorem c_X9_begin (G : vG) {n : Nat} {sh : vS} {I : vI} {L : vL} {R : vR} (q : Nat) (l m0 : Int32) (hw : WF n sh R) (hq : q < 4) : CT G yX9_begin cX9_begin 4 (none) 0 0 0 [.ref (ad G (19 + 2 * q)), .int l, .int m0] n sh I L R (PI n sh L R (fun I' r => cpF (up2 (up2 (up2 I (19 + 2 * q) 1 1) (19 + 2 * q) 2 l) (19 + 2 * q) 3 m0) (20 + 2 * q) 0 (fun _ => 0) 32 = I' ∧ r = none)) := by
  refine CT_of (own := RX9) (ini := false) (lo := [(0, .ref (ad G (19 + 2 * q))), (1, .int l), (2, .int m0)]) mf_X9_begin (Nat.le_of_ble_eq_true rfl) rfl (fun h => by first | rfl | cases h) rfl ?_
  refine V_aload_n (pc := 0) 0 dX9_begin_0 rfl rfl ?_
  refine V_iconst (pc := 1) (v := 1) dX9_begin_1 rfl ?_
  refine V_putI (pc := 2) fw_X9_15_9 rfl rfl dX9_begin_2 (wSo hw hq).1.1 (wSo hw hq).2.1 ?_
  refine V_aload_n (pc := 5) 0 dX9_begin_5 rfl rfl ?_
  refine V_iload_n (pc := 6) 1 dX9_begin_6 rfl rfl ?_
  refine V_putI (pc := 7) fw_X9_19_9 rfl rfl dX9_begin_7 (wSo hw hq).1.1 (wSo hw hq).2.1 ?_
  refine V_aload_n (pc := 10) 0 dX9_begin_10 rfl rfl ?_
  refine V_iload_n (pc := 11) 2 dX9_begin_11 rfl rfl ?_
  refine V_putI (pc := 12) fw_X9_23_9 rfl rfl dX9_begin_12 (wSo hw hq).1.1 (wSo hw hq).2.1 ?_
  refine V_iconst (pc := 15) (v := 0) dX9_begin_15 rfl ?_
  refine V_istore_n (pc := 16) (lo' := [(0, .ref (ad G (19 + 2 * q))), (1, .int l), (2, .int m0), (3, .int 0)]) dX9_begin_16 rfl (by decide) rfl ?_
  exact l_X9_begin G q l m0 hw hq 33 0 0 _ (by omega) rfl rfl (by omega)
set_option maxRecDepth 100000 in
set_option maxHeartbeats 4000000 in
theorem c_X9_holds (G : vG) {n : Nat} {sh : vS} {I : vI} {L : vL} {R : vR} (q : Nat) (i m0 : Int32) (hw : WF n sh R) (hq : q < 4) (hc : 0 ≤ (I (19 + 2 * q) 3).toInt ∧ (I (19 + 2 * q) 3).toInt ≤ 32) : CT G yX9_holds cX9_holds 3 (some .boolean) 0 0 0 [.ref (ad G (19 + 2 * q)), .int i, .int m0] n sh I L R (PI n sh L R (fun I' r => I = I' ∧ rb r (0 ≤ i.toInt ∧ i.toInt ≤ (I (19 + 2 * q) 3).toInt ∧ m0.toInt + i.toInt ≤ (I (19 + 2 * q) 3).toInt))) := by
  refine CT_of (own := RX9) (ini := false) (lo := [(0, .ref (ad G (19 + 2 * q))), (1, .int i), (2, .int m0)]) mf_X9_holds (Nat.le_of_ble_eq_true rfl) rfl (fun h => by first | rfl | cases h) rfl ?_
  refine V_iload_n (pc := 0) 1 dX9_holds_0 rfl rfl ?_
  refine V_if_lt (pc := 1) (tgt := 26) dX9_holds_1 (by decide) (fun c_1_1 => ?_) (fun c_1_1 => ?_)
  · have c_1_1 : i.toInt < 0 := c_1_1
    refine V_iconst (pc := 26) (v := 0) dX9_holds_26 rfl ?_
    refine V_iret (pc := 27) rfl rfl dX9_holds_27 (by omega) (by omega) ?_
    exact ⟨rfl, rfl, rfl, rfl, rfl, Or.inr ⟨by omega, rfl⟩⟩
  · have c_1_1 : 0 ≤ i.toInt := c_1_1
    refine V_iload_n (pc := 4) 1 dX9_holds_4 rfl rfl ?_
    refine V_aload_n (pc := 5) 0 dX9_holds_5 rfl rfl ?_
    refine V_gI (pc := 6) (v := (I (19 + 2 * q) 3)) rfl fk_X9_23_9 dX9_holds_6 (wSo hw hq).1.1 (wSo hw hq).2.1 ?_
    refine V_icmp_gt (pc := 9) (tgt := 26) dX9_holds_9 (by decide) (fun c_9_2 => ?_) (fun c_9_2 => ?_)
    · have c_9_2 : (I (19 + 2 * q) 3).toInt < i.toInt := c_9_2
      refine V_iconst (pc := 26) (v := 0) dX9_holds_26 rfl ?_
      refine V_iret (pc := 27) rfl rfl dX9_holds_27 (by omega) (by omega) ?_
      exact ⟨rfl, rfl, rfl, rfl, rfl, Or.inr ⟨by omega, rfl⟩⟩
    · have c_9_2 : i.toInt ≤ (I (19 + 2 * q) 3).toInt := c_9_2
      refine V_iload_n (pc := 12) 2 dX9_holds_12 rfl rfl ?_
      refine V_aload_n (pc := 13) 0 dX9_holds_13 rfl rfl ?_
      refine V_gI (pc := 14) (v := (I (19 + 2 * q) 3)) rfl fk_X9_23_9 dX9_holds_14 (wSo hw hq).1.1 (wSo hw hq).2.1 ?_
      refine V_iload_n (pc := 17) 1 dX9_holds_17 rfl rfl ?_
      refine V_isub (pc := 18) dX9_holds_18 (fun x_18_3 e_18_3 => ?_)
      have t_18_3 : x_18_3.toInt = (I (19 + 2 * q) 3).toInt - i.toInt := subT e_18_3 rfl rfl (by omega) (by omega)
      refine V_icmp_gt (pc := 19) (tgt := 26) dX9_holds_19 (by decide) (fun c_19_4 => ?_) (fun c_19_4 => ?_)
      · have c_19_4 : x_18_3.toInt < m0.toInt := c_19_4
        refine V_iconst (pc := 26) (v := 0) dX9_holds_26 rfl ?_
        refine V_iret (pc := 27) rfl rfl dX9_holds_27 (by omega) (by omega) ?_
        exact ⟨rfl, rfl, rfl, rfl, rfl, Or.inr ⟨by omega, rfl⟩⟩
      · have c_19_4 : m0.toInt ≤ x_18_3.toInt := c_19_4
        refine V_iconst (pc := 22) (v := 1) dX9_holds_22 rfl ?_
        refine V_goto (pc := 23) (tgt := 27) dX9_holds_23 (by decide) ?_
        refine V_iret (pc := 27) rfl rfl dX9_holds_27 (by omega) (by omega) ?_
        exact ⟨rfl, rfl, rfl, rfl, rfl, Or.inl ⟨by omega, rfl⟩⟩
set_option maxRecDepth 100000 in
set_option maxHeartbeats 4000000 in
theorem c_X9_faultOfCells (G : vG) {n : Nat} {sh : vS} {I : vI} {L : vL} {R : vR} (X : vI) (k : Int32) (q : Nat) (l i m0 : Int32) (hw : WF n sh R) (hq : q < 4) (hk : k.toInt = (q : Int)) (hs : JSq I X q) : CT G yX9_faultOfCells cX9_faultOfCells 4 (some .int) 1 0 0 [.ref (ad G (19 + 2 * q)), .int l, .int i, .int m0] n sh I L R (PI n sh L R (fun I' r => I = I' ∧ r = some (.int (faultF X k l i m0)))) := by
  refine CT_of (own := RX9) (ini := false) (lo := [(0, .ref (ad G (19 + 2 * q))), (1, .int l), (2, .int i), (3, .int m0)]) mf_X9_faultOfCells (Nat.le_of_ble_eq_true rfl) rfl (fun h => by first | rfl | cases h) rfl ?_
  have ek : k.toInt.toNat = q := by omega
  have hs1 : ((I (19 + 2 * q) 1).toInt = 1 ∧ 0 ≤ (X 34 q).toInt ∧ (X 34 q).toInt ≤ 32 ∧ (I (19 + 2 * q) 2).toInt = (X 35 q).toInt ∧ (I (19 + 2 * q) 3).toInt = (X 34 q).toInt) ∨ ((I (19 + 2 * q) 1).toInt = 0 ∧ (X 34 q).toInt = -1) := by
    rcases hs with ⟨z1, z2, z3, z4, z5, -⟩ | z
    · exact Or.inl ⟨z1, z2, z3, by rw [z4], by rw [z5]⟩
    · exact Or.inr z
  refine V_aload_n (pc := 0) 0 dX9_faultOfCells_0 rfl rfl ?_
  refine V_gI (pc := 1) (v := (I (19 + 2 * q) 1)) rfl fk_X9_15_9 dX9_faultOfCells_1 (wSo hw hq).1.1 (wSo hw hq).2.1 ?_
  refine V_if_eq (pc := 4) (tgt := 17) dX9_faultOfCells_4 (by decide) (fun c_4_1 => ?_) (fun c_4_1 => ?_)
  · have c_4_1 : (I (19 + 2 * q) 1).toInt = 0 := c_4_1
    refine V_aload_n (pc := 17) 0 dX9_faultOfCells_17 rfl rfl ?_
    refine V_gI (pc := 18) (v := (I (19 + 2 * q) 1)) rfl fk_X9_15_9 dX9_faultOfCells_18 (wSo hw hq).1.1 (wSo hw hq).2.1 ?_
    refine V_if_ne (pc := 21) (tgt := 26) dX9_faultOfCells_21 (by decide) (fun c_21_2 => ?_) (fun c_21_2 => ?_)
    · have c_21_2 : (I (19 + 2 * q) 1).toInt ≠ 0 := c_21_2
      refine V_iload_n (pc := 26) 3 dX9_faultOfCells_26 rfl rfl ?_
      refine V_if_ge (pc := 27) (tgt := 32) dX9_faultOfCells_27 (by decide) (fun c_27_3 => ?_) (fun c_27_3 => ?_)
      · have c_27_3 : 0 ≤ m0.toInt := c_27_3
        refine V_aload_n (pc := 32) 0 dX9_faultOfCells_32 rfl rfl ?_
        refine V_iload_n (pc := 33) 2 dX9_faultOfCells_33 rfl rfl ?_
        refine V_iload_n (pc := 34) 3 dX9_faultOfCells_34 rfl rfl ?_
        refine V_callV (pc := 35) (As := [.int i, .int m0]) (st := []) (c_X9_holds G q i m0 hw hq (by omega)) mf_X9_holds ml_X9_26 iv_X9_holds (wSo hw hq).1.1 (wSo hw hq).2.1 (by decide) rfl dX9_faultOfCells_35 rfl rfl (by omega) (by omega) (by omega) (Nat.le_of_ble_eq_true rfl) (fun r_35_4 n_35_4 sh_35_4 I_35_4 L_35_4 R_35_4 hq_35_4 => ?_)
        obtain ⟨rfl, rfl, rfl, rfl, rfl, hq_35_4⟩ := hq_35_4
        rcases hq_35_4 with ⟨c_35_4, rfl⟩ | ⟨c_35_4, rfl⟩
        · have c_35_4 := c_35_4
          refine V_if_eq_f (pc := 38) (tgt := 45) dX9_faultOfCells_38 (by decide) (by decide) ?_
          refine V_iconst (pc := 41) (v := 0) dX9_faultOfCells_41 rfl ?_
          refine V_goto (pc := 42) (tgt := 46) dX9_faultOfCells_42 (by decide) ?_
          refine V_iret (pc := 46) rfl rfl dX9_faultOfCells_46 (by omega) (by omega) ?_
          refine ⟨rfl, rfl, rfl, rfl, rfl, ?_⟩
          unfold faultF
          rw [ek]
          (repeat' split) <;> first | rfl | (exfalso; omega)
        · have c_35_4 := c_35_4
          refine V_if_eq_t (pc := 38) (tgt := 45) dX9_faultOfCells_38 (by decide) (by decide) ?_
          refine V_iconst (pc := 45) (v := 3) dX9_faultOfCells_45 rfl ?_
          refine V_iret (pc := 46) rfl rfl dX9_faultOfCells_46 (by omega) (by omega) ?_
          refine ⟨rfl, rfl, rfl, rfl, rfl, ?_⟩
          unfold faultF
          rw [ek]
          (repeat' split) <;> first | rfl | (exfalso; omega)
      · have c_27_3 : m0.toInt < 0 := c_27_3
        refine V_iconst (pc := 30) (v := 4) dX9_faultOfCells_30 rfl ?_
        refine V_iret (pc := 31) rfl rfl dX9_faultOfCells_31 (by omega) (by omega) ?_
        refine ⟨rfl, rfl, rfl, rfl, rfl, ?_⟩
        unfold faultF
        rw [ek]
        (repeat' split) <;> first | rfl | (exfalso; omega)
    · have c_21_2 : (I (19 + 2 * q) 1).toInt = 0 := c_21_2
      refine V_iconst (pc := 24) (v := 1) dX9_faultOfCells_24 rfl ?_
      refine V_iret (pc := 25) rfl rfl dX9_faultOfCells_25 (by omega) (by omega) ?_
      refine ⟨rfl, rfl, rfl, rfl, rfl, ?_⟩
      unfold faultF
      rw [ek]
      (repeat' split) <;> first | rfl | (exfalso; omega)
  · have c_4_1 : (I (19 + 2 * q) 1).toInt ≠ 0 := c_4_1
    refine V_aload_n (pc := 7) 0 dX9_faultOfCells_7 rfl rfl ?_
    refine V_gI (pc := 8) (v := (I (19 + 2 * q) 2)) rfl fk_X9_19_9 dX9_faultOfCells_8 (wSo hw hq).1.1 (wSo hw hq).2.1 ?_
    refine V_iload_n (pc := 11) 1 dX9_faultOfCells_11 rfl rfl ?_
    refine V_icmp_eq (pc := 12) (tgt := 17) dX9_faultOfCells_12 (by decide) (fun c_12_5 => ?_) (fun c_12_5 => ?_)
    · have c_12_5 : (I (19 + 2 * q) 2).toInt = l.toInt := c_12_5
      refine V_aload_n (pc := 17) 0 dX9_faultOfCells_17 rfl rfl ?_
      refine V_gI (pc := 18) (v := (I (19 + 2 * q) 1)) rfl fk_X9_15_9 dX9_faultOfCells_18 (wSo hw hq).1.1 (wSo hw hq).2.1 ?_
      refine V_if_ne (pc := 21) (tgt := 26) dX9_faultOfCells_21 (by decide) (fun c_21_6 => ?_) (fun c_21_6 => ?_)
      · have c_21_6 : (I (19 + 2 * q) 1).toInt ≠ 0 := c_21_6
        refine V_iload_n (pc := 26) 3 dX9_faultOfCells_26 rfl rfl ?_
        refine V_if_ge (pc := 27) (tgt := 32) dX9_faultOfCells_27 (by decide) (fun c_27_7 => ?_) (fun c_27_7 => ?_)
        · have c_27_7 : 0 ≤ m0.toInt := c_27_7
          refine V_aload_n (pc := 32) 0 dX9_faultOfCells_32 rfl rfl ?_
          refine V_iload_n (pc := 33) 2 dX9_faultOfCells_33 rfl rfl ?_
          refine V_iload_n (pc := 34) 3 dX9_faultOfCells_34 rfl rfl ?_
          refine V_callV (pc := 35) (As := [.int i, .int m0]) (st := []) (c_X9_holds G q i m0 hw hq (by omega)) mf_X9_holds ml_X9_26 iv_X9_holds (wSo hw hq).1.1 (wSo hw hq).2.1 (by decide) rfl dX9_faultOfCells_35 rfl rfl (by omega) (by omega) (by omega) (Nat.le_of_ble_eq_true rfl) (fun r_35_8 n_35_8 sh_35_8 I_35_8 L_35_8 R_35_8 hq_35_8 => ?_)
          obtain ⟨rfl, rfl, rfl, rfl, rfl, hq_35_8⟩ := hq_35_8
          rcases hq_35_8 with ⟨c_35_8, rfl⟩ | ⟨c_35_8, rfl⟩
          · have c_35_8 := c_35_8
            refine V_if_eq_f (pc := 38) (tgt := 45) dX9_faultOfCells_38 (by decide) (by decide) ?_
            refine V_iconst (pc := 41) (v := 0) dX9_faultOfCells_41 rfl ?_
            refine V_goto (pc := 42) (tgt := 46) dX9_faultOfCells_42 (by decide) ?_
            refine V_iret (pc := 46) rfl rfl dX9_faultOfCells_46 (by omega) (by omega) ?_
            refine ⟨rfl, rfl, rfl, rfl, rfl, ?_⟩
            unfold faultF
            rw [ek]
            (repeat' split) <;> first | rfl | (exfalso; omega)
          · have c_35_8 := c_35_8
            refine V_if_eq_t (pc := 38) (tgt := 45) dX9_faultOfCells_38 (by decide) (by decide) ?_
            refine V_iconst (pc := 45) (v := 3) dX9_faultOfCells_45 rfl ?_
            refine V_iret (pc := 46) rfl rfl dX9_faultOfCells_46 (by omega) (by omega) ?_
            refine ⟨rfl, rfl, rfl, rfl, rfl, ?_⟩
            unfold faultF
            rw [ek]
            (repeat' split) <;> first | rfl | (exfalso; omega)
        · have c_27_7 : m0.toInt < 0 := c_27_7
          refine V_iconst (pc := 30) (v := 4) dX9_faultOfCells_30 rfl ?_
          refine V_iret (pc := 31) rfl rfl dX9_faultOfCells_31 (by omega) (by omega) ?_
          refine ⟨rfl, rfl, rfl, rfl, rfl, ?_⟩
          unfold faultF
          rw [ek]
          (repeat' split) <;> first | rfl | (exfalso; omega)
      · have c_21_6 : (I (19 + 2 * q) 1).toInt = 0 := c_21_6
        refine V_iconst (pc := 24) (v := 1) dX9_faultOfCells_24 rfl ?_
        refine V_iret (pc := 25) rfl rfl dX9_faultOfCells_25 (by omega) (by omega) ?_
        refine ⟨rfl, rfl, rfl, rfl, rfl, ?_⟩
        unfold faultF
        rw [ek]
        (repeat' split) <;> first | rfl | (exfalso; omega)
    · have c_12_5 : (I (19 + 2 * q) 2).toInt ≠ l.toInt := c_12_5
      refine V_iconst (pc := 15) (v := 2) dX9_faultOfCells_15 rfl ?_
      refine V_iret (pc := 16) rfl rfl dX9_faultOfCells_16 (by omega) (by omega) ?_
      refine ⟨rfl, rfl, rfl, rfl, rfl, ?_⟩
      unfold faultF
      rw [ek]
      (repeat' split) <;> first | rfl | (exfalso; omega)
set_option maxRecDepth 100000 in
set_option maxHeartbeats 4000000 in
theorem c_X1_isClockedAt (G : vG) {n : Nat} {sh : vS} {I : vI} {L : vL} {R : vR} (j : Nat) (c : Int32) (hw : WF n sh R) (hj : j < n) (hcj : (sh j).1 = 1 ∨ (sh j).1 = 5 ∨ (sh j).1 = 4) (hr : R j 2 = some (j + 1) ∧ R j 3 = some (j + 2) ∧ R j 5 = some (j + 3)) (hl : j + 1 < n ∧ j + 2 < n ∧ j + 3 < n) (hs : sh (j + 1) = (13, 8) ∧ sh (j + 2) = (13, 8) ∧ sh (j + 3) = (13, 8)) (hc : 0 ≤ c.toInt ∧ c.toInt < 8) : CT G yX1_isClockedAt cX1_isClockedAt 2 (some .boolean) 0 0 0 [.ref (ad G j), .int c] n sh I L R (PI n sh L R (fun I' r => I = I' ∧ rb r (0 < (I (j + 2) c.toInt.toNat).toInt))) := by
  refine CT_of (own := RX1) (ini := false) (lo := [(0, .ref (ad G j)), (1, .int c)]) mf_X1_isClockedAt (Nat.le_of_ble_eq_true rfl) rfl (fun h => by first | rfl | cases h) rfl ?_
  refine V_aload_n (pc := 0) 0 dX1_isClockedAt_0 rfl rfl ?_
  refine V_getR (pc := 1) (j := (j + 2)) (fk_X1_15_s hcj) hr.2.1 dX1_isClockedAt_1 hj rfl ?_
  refine V_iload_n (pc := 4) 1 dX1_isClockedAt_4 rfl rfl ?_
  refine V_ia (pc := 5) (k := c.toInt.toNat) (v := (I (j + 2) c.toInt.toNat)) rfl dX1_isClockedAt_5 hl.2.1 hs.2.1 (by omega) (by omega) ?_
  refine V_if_le (pc := 6) (tgt := 13) dX1_isClockedAt_6 (by decide) (fun c_6_1 => ?_) (fun c_6_1 => ?_)
  · have c_6_1 : (I (j + 2) c.toInt.toNat).toInt ≤ 0 := c_6_1
    refine V_iconst (pc := 13) (v := 0) dX1_isClockedAt_13 rfl ?_
    refine V_iret (pc := 14) rfl rfl dX1_isClockedAt_14 (by omega) (by omega) ?_
    exact ⟨rfl, rfl, rfl, rfl, rfl, Or.inr ⟨by omega, rfl⟩⟩
  · have c_6_1 : 0 < (I (j + 2) c.toInt.toNat).toInt := c_6_1
    refine V_iconst (pc := 9) (v := 1) dX1_isClockedAt_9 rfl ?_
    refine V_goto (pc := 10) (tgt := 14) dX1_isClockedAt_10 (by decide) ?_
    refine V_iret (pc := 14) rfl rfl dX1_isClockedAt_14 (by omega) (by omega) ?_
    exact ⟨rfl, rfl, rfl, rfl, rfl, Or.inl ⟨by omega, rfl⟩⟩
set_option maxRecDepth 100000 in
set_option maxHeartbeats 4000000 in
theorem c_X1_arrive (G : vG) {n : Nat} {sh : vS} {I : vI} {L : vL} {R : vR} (j : Nat) (c t : Int32) (hw : WF n sh R) (hj : j < n) (hcj : (sh j).1 = 1 ∨ (sh j).1 = 5 ∨ (sh j).1 = 4) (hr : R j 2 = some (j + 1) ∧ R j 3 = some (j + 2) ∧ R j 5 = some (j + 3)) (hl : j + 1 < n ∧ j + 2 < n ∧ j + 3 < n) (hs : sh (j + 1) = (13, 8) ∧ sh (j + 2) = (13, 8) ∧ sh (j + 3) = (13, 8)) (hc : 0 ≤ c.toInt ∧ c.toInt < 8) : CT G yX1_arrive cX1_arrive 3 (none) 0 0 0 [.ref (ad G j), .int c, .int t] n sh I L R (PI n sh L R (fun I' r => up2 (up2 (up2 I j 4 (I j 4 + 1)) (j + 2) c.toInt.toNat (I j 4 + 1)) (j + 1) c.toInt.toNat t = I' ∧ r = none)) := by
  refine CT_of (own := RX1) (ini := false) (lo := [(0, .ref (ad G j)), (1, .int c), (2, .int t)]) mf_X1_arrive (Nat.le_of_ble_eq_true rfl) rfl (fun h => by first | rfl | cases h) rfl ?_
  refine V_aload_n (pc := 0) 0 dX1_arrive_0 rfl rfl ?_
  refine V_dup (pc := 1) dX1_arrive_1 rfl ?_
  refine V_gI (pc := 2) (v := (I j 4)) rfl (fk_X1_28_s hcj) dX1_arrive_2 hj rfl ?_
  refine V_iconst (pc := 5) (v := 1) dX1_arrive_5 rfl ?_
  refine V_iadd (pc := 6) dX1_arrive_6 (fun x_6_1 e_6_1 => ?_)
  refine V_putI (pc := 7) (fw_X1_28_s hcj) rfl rfl dX1_arrive_7 hj rfl ?_
  refine V_aload_n (pc := 10) 0 dX1_arrive_10 rfl rfl ?_
  refine V_getR (pc := 11) (j := (j + 2)) (fk_X1_15_s hcj) hr.2.1 dX1_arrive_11 hj rfl ?_
  refine V_iload_n (pc := 14) 1 dX1_arrive_14 rfl rfl ?_
  refine V_aload_n (pc := 15) 0 dX1_arrive_15 rfl rfl ?_
  refine V_gI (pc := 16) (v := x_6_1) (by simp [up2]) (fk_X1_28_s hcj) dX1_arrive_16 hj rfl ?_
  refine V_iask (pc := 19) (k := c.toInt.toNat) dX1_arrive_19 hl.2.1 hs.2.1 (by omega) (by omega) ?_
  refine V_aload_n (pc := 20) 0 dX1_arrive_20 rfl rfl ?_
  refine V_getR (pc := 21) (j := (j + 1)) (fk_X1_9_s hcj) hr.1 dX1_arrive_21 hj rfl ?_
  refine V_iload_n (pc := 24) 1 dX1_arrive_24 rfl rfl ?_
  refine V_iload_n (pc := 25) 2 dX1_arrive_25 rfl rfl ?_
  refine V_iask (pc := 26) (k := c.toInt.toNat) dX1_arrive_26 hl.1 hs.1 (by omega) (by omega) ?_
  refine V_vret (pc := 27) rfl dX1_arrive_27 (by omega) (by omega) ?_
  subst_vars
  exact ⟨rfl, rfl, rfl, rfl, rfl, rfl⟩
set_option maxRecDepth 100000 in
set_option maxHeartbeats 4000000 in
theorem c_X1_share (G : vG) {n : Nat} {sh : vS} {I : vI} {L : vL} {R : vR} (j : Nat) (p : Int32) (hw : WF n sh R) : CT G yX1_share cX1_share 2 (some .int) 0 0 0 [.ref (ad G j), .int p] n sh I L R (PI n sh L R (fun I' r => I = I' ∧ r = some (.int p))) := by
  refine CT_of (own := RX1) (ini := false) (lo := [(0, .ref (ad G j)), (1, .int p)]) mf_X1_share (Nat.le_of_ble_eq_true rfl) rfl (fun h => by first | rfl | cases h) rfl ?_
  refine V_iload_n (pc := 0) 1 dX1_share_0 rfl rfl ?_
  refine V_iret (pc := 1) rfl rfl dX1_share_1 (by omega) (by omega) ?_
  exact ⟨rfl, rfl, rfl, rfl, rfl, rfl⟩
set_option maxRecDepth 100000 in
set_option maxHeartbeats 4000000 in
theorem c_X5_share (G : vG) {n : Nat} {sh : vS} {I : vI} {L : vL} {R : vR} (j : Nat) (p : Int32) (hw : WF n sh R) (hp : 0 ≤ p.toInt) : CT G yX5_share cX5_share 2 (some .int) 0 0 0 [.ref (ad G j), .int p] n sh I L R (PI n sh L R (fun I' o => I = I' ∧ ∃ v : Int32, o = some (.int v) ∧ v.toInt = p.toInt / 2)) := by
  refine CT_of (own := RX5) (ini := false) (lo := [(0, .ref (ad G j)), (1, .int p)]) mf_X5_share (Nat.le_of_ble_eq_true rfl) rfl (fun h => by first | rfl | cases h) rfl ?_
  refine V_iload_n (pc := 0) 1 dX5_share_0 rfl rfl ?_
  refine V_iconst (pc := 1) (v := 2) dX5_share_1 rfl ?_
  refine V_idiv (pc := 2) dX5_share_2 (by decide) (fun x_2_1 e_2_1 => ?_)
  refine V_iret (pc := 3) rfl rfl dX5_share_3 (by omega) (by omega) ?_
  refine ⟨rfl, rfl, rfl, rfl, rfl, _, rfl, ?_⟩
  exact tdivI e_2_1 rfl rfl hp (by decide)
