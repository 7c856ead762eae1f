set_option maxRecDepth 100000 in
set_option maxHeartbeats 4000000 in
theorem l_X11_missedBy (G : vG) {n : Nat} {sh : vS} {I : vI} {L : vL} {R : vR} (X : vI) (a j : Nat) (hw : WF n sh R) (hC : JC n sh I L R X) (hK : KD n sh I R X a j) : ∀ (f m : Nat) (k : Int32) (s : Int32) (hm : (m : Int) ≤ (X 27 30).toInt) (hk : k.toInt = (m : Int)) (hs : s.toInt = cnP (resP X (a : Int) 2) m) (hf : (X 27 30).toInt < (m : Int) + f), V G RX11 cX11_missedBy (some .int) false 2 0 0 4 (PI n sh L R (fun I' o => I = I' ∧ ∃ v : Int32, o = some (.int v) ∧ (v.toInt = cnP (resP X (a : Int) 2) (X 27 30).toInt.toNat ∧ 0 ≤ v.toInt ∧ v.toInt ≤ 8))) 4 [(0, .ref (ad G 0)), (1, .ref (ad G j)), (2, .int s), (3, .int k)] [] 0 0 n sh I L R := by
  intro f
  induction f with
  | zero => intro m k s hm hk hs hf; omega
  | succ f ih =>
    intro m k s hm hk hs hf
    have hC1 : (I 0 6).toInt = (X 27 30).toInt := by rw [hC.1]
    have hC2 := hC.2.1
    have cm := cdF hC m
    have kd := fun z : m < 8 => kdF hK m z
    have hcb := cnP_b (resP X (a : Int) 2) m
    refine V_iload_n (pc := 4) 3 dX11_missedBy_4 rfl rfl ?_
    refine V_aload_n (pc := 5) 0 dX11_missedBy_5 rfl rfl ?_
    refine V_gI (pc := 6) (v := (I 0 6)) rfl fk_X11_186_11 dX11_missedBy_6 (wN hw (by decide)) (wS1 hw (by decide) rfl) ?_
    refine V_icmp_ge (pc := 9) (tgt := 41) dX11_missedBy_9 (by decide) (fun c_9_1 => ?_) (fun c_9_1 => ?_)
    · have c_9_1 : (I 0 6).toInt ≤ k.toInt := c_9_1
      refine V_iload_n (pc := 41) 2 dX11_missedBy_41 rfl rfl ?_
      refine V_iret (pc := 42) rfl rfl dX11_missedBy_42 (by omega) (by omega) ?_
      refine ⟨rfl, rfl, rfl, rfl, rfl, ?_⟩
      have e1 : (X 27 30).toInt.toNat = m := by omega
      rw [e1]
      exact ⟨_, rfl, by omega⟩
    · have c_9_1 : k.toInt < (I 0 6).toInt := c_9_1
      refine V_aload_n (pc := 12) 0 dX11_missedBy_12 rfl rfl ?_
      refine V_getR (pc := 13) (j := 16) fk_X11_40_11 (wR hw (i := 0) (k := 5) (j := 16) rfl) dX11_missedBy_13 (wN hw (by decide)) (wS1 hw (by decide) rfl) ?_
      refine V_iload_n (pc := 16) 3 dX11_missedBy_16 rfl rfl ?_
      refine V_aalk (pc := 17) (t := 3) (N := 8) (k := m) (j := (oj R 16 m)) dX11_missedBy_17 (wN hw (by decide)) (wS hw (by decide) rfl) (by decide) (by decide) hk (by omega) (hC.2.2.1 m (by omega)).1 ?_
      refine V_gI (pc := 18) (v := (I (oj R 16 m) 1)) rfl fk_X11_210_2 dX11_missedBy_18 (hC.2.2.1 m (by omega)).2.2.1 (by rw [(hC.2.2.1 m (by omega)).2.2.2.1]) ?_
      refine V_if_ne (pc := 21) (tgt := 35) dX11_missedBy_21 (by decide) (fun c_21_2 => ?_) (fun c_21_2 => ?_)
      · have c_21_2 : (I (oj R 16 m) 1).toInt ≠ 0 := c_21_2
        obtain ⟨x_35_3, e_35_3⟩ : ∃ y : Int32, y = k + (1) := ⟨_, rfl⟩
        have t_35_3 : x_35_3.toInt = k.toInt + 1 := addT e_35_3 rfl rfl (by omega) (by omega)
        refine V_iinc (pc := 35) (v := x_35_3) (lo' := [(0, .ref (ad G 0)), (1, .ref (ad G j)), (2, .int s), (3, .int x_35_3)]) 3 dX11_missedBy_35 rfl e_35_3.symm (by decide) rfl ?_
        refine V_goto (pc := 38) (tgt := 4) dX11_missedBy_38 (by decide) ?_
        exact ih (m + 1) x_35_3 s (by omega) (by omega) (by unfold cnP; first | (rw [pIf_pos (by unfold resP; rw [i8]; first | exact ⟨by omega, Or.inl ⟨rfl, by omega⟩⟩ | exact ⟨by omega, Or.inr ⟨by decide, by omega, by assumption⟩⟩)]; omega) | (rw [pIf_neg (fun z => by unfold resP at z; rw [i8] at z; rcases z with ⟨z1, ⟨z2, z3⟩ | ⟨z2, z3, z4⟩⟩ <;> first | omega | exact absurd z4 (by assumption))]; omega)) (by omega)
      · have c_21_2 : (I (oj R 16 m) 1).toInt = 0 := c_21_2
        refine V_aload_n (pc := 24) 1 dX11_missedBy_24 rfl rfl ?_
        refine V_iload_n (pc := 25) 3 dX11_missedBy_25 rfl rfl ?_
        rcases (kdS hK).1.2 with hsj | hsj | hsj
        · refine V_callO (pc := 26) (As := [.int k]) (st := []) (c_X1_isClockedAt G j k hw (kdS hK).1.1 (kdS hK).1.2 (kdS hK).2.1 (kdS hK).2.2.1 (kdS hK).2.2.2 (by omega)) mf_X1_isClockedAt ov_X11_225_1 (kdS hK).1.1 hsj (by decide) rfl dX11_missedBy_26 rfl rfl (by omega) (by omega) (by omega) (Nat.le_of_ble_eq_true rfl) (fun r_26_5 n_26_5 sh_26_5 I_26_5 L_26_5 R_26_5 hq_26_5 => ?_)
          obtain ⟨rfl, rfl, rfl, rfl, rfl, hq_26_5⟩ := hq_26_5
          have eq_26_5 : k.toInt.toNat = m := by omega
          rw [eq_26_5] at hq_26_5
          rcases hq_26_5 with ⟨c_26_5, rfl⟩ | ⟨c_26_5, rfl⟩
          · skip
            refine V_if_ne_t (pc := 29) (tgt := 35) dX11_missedBy_29 (by decide) (by decide) ?_
            obtain ⟨x_35_6, e_35_6⟩ : ∃ y : Int32, y = k + (1) := ⟨_, rfl⟩
            have t_35_6 : x_35_6.toInt = k.toInt + 1 := addT e_35_6 rfl rfl (by omega) (by omega)
            refine V_iinc (pc := 35) (v := x_35_6) (lo' := [(0, .ref (ad G 0)), (1, .ref (ad G j)), (2, .int s), (3, .int x_35_6)]) 3 dX11_missedBy_35 rfl e_35_6.symm (by decide) rfl ?_
            refine V_goto (pc := 38) (tgt := 4) dX11_missedBy_38 (by decide) ?_
            exact ih (m + 1) x_35_6 s (by omega) (by omega) (by unfold cnP; first | (rw [pIf_pos (by unfold resP; rw [i8]; first | exact ⟨by omega, Or.inl ⟨rfl, by omega⟩⟩ | exact ⟨by omega, Or.inr ⟨by decide, by omega, by assumption⟩⟩)]; omega) | (rw [pIf_neg (fun z => by unfold resP at z; rw [i8] at z; rcases z with ⟨z1, ⟨z2, z3⟩ | ⟨z2, z3, z4⟩⟩ <;> first | omega | exact absurd z4 (by assumption))]; omega)) (by omega)
          · skip
            refine V_if_ne_f (pc := 29) (tgt := 35) dX11_missedBy_29 (by decide) (by decide) ?_
            obtain ⟨x_32_7, e_32_7⟩ : ∃ y : Int32, y = s + (1) := ⟨_, rfl⟩
            have t_32_7 : x_32_7.toInt = s.toInt + 1 := addT e_32_7 rfl rfl (by omega) (by omega)
            refine V_iinc (pc := 32) (v := x_32_7) (lo' := [(0, .ref (ad G 0)), (1, .ref (ad G j)), (2, .int x_32_7), (3, .int k)]) 2 dX11_missedBy_32 rfl e_32_7.symm (by decide) rfl ?_
            obtain ⟨x_35_8, e_35_8⟩ : ∃ y : Int32, y = k + (1) := ⟨_, rfl⟩
            have t_35_8 : x_35_8.toInt = k.toInt + 1 := addT e_35_8 rfl rfl (by omega) (by omega)
            refine V_iinc (pc := 35) (v := x_35_8) (lo' := [(0, .ref (ad G 0)), (1, .ref (ad G j)), (2, .int x_32_7), (3, .int x_35_8)]) 3 dX11_missedBy_35 rfl e_35_8.symm (by decide) rfl ?_
            refine V_goto (pc := 38) (tgt := 4) dX11_missedBy_38 (by decide) ?_
            exact ih (m + 1) x_35_8 x_32_7 (by omega) (by omega) (by unfold cnP; first | (rw [pIf_pos (by unfold resP; rw [i8]; first | exact ⟨by omega, Or.inl ⟨rfl, by omega⟩⟩ | exact ⟨by omega, Or.inr ⟨by decide, by omega, by assumption⟩⟩)]; omega) | (rw [pIf_neg (fun z => by unfold resP at z; rw [i8] at z; rcases z with ⟨z1, ⟨z2, z3⟩ | ⟨z2, z3, z4⟩⟩ <;> first | omega | exact absurd z4 (by assumption))]; omega)) (by omega)
        · refine V_callO (pc := 26) (As := [.int k]) (st := []) (c_X1_isClockedAt G j k hw (kdS hK).1.1 (kdS hK).1.2 (kdS hK).2.1 (kdS hK).2.2.1 (kdS hK).2.2.2 (by omega)) mf_X1_isClockedAt ov_X11_225_5 (kdS hK).1.1 hsj (by decide) rfl dX11_missedBy_26 rfl rfl (by omega) (by omega) (by omega) (Nat.le_of_ble_eq_true rfl) (fun r_26_9 n_26_9 sh_26_9 I_26_9 L_26_9 R_26_9 hq_26_9 => ?_)
          obtain ⟨rfl, rfl, rfl, rfl, rfl, hq_26_9⟩ := hq_26_9
          have eq_26_9 : k.toInt.toNat = m := by omega
          rw [eq_26_9] at hq_26_9
          rcases hq_26_9 with ⟨c_26_9, rfl⟩ | ⟨c_26_9, rfl⟩
          · skip
            refine V_if_ne_t (pc := 29) (tgt := 35) dX11_missedBy_29 (by decide) (by decide) ?_
            obtain ⟨x_35_10, e_35_10⟩ : ∃ y : Int32, y = k + (1) := ⟨_, rfl⟩
            have t_35_10 : x_35_10.toInt = k.toInt + 1 := addT e_35_10 rfl rfl (by omega) (by omega)
            refine V_iinc (pc := 35) (v := x_35_10) (lo' := [(0, .ref (ad G 0)), (1, .ref (ad G j)), (2, .int s), (3, .int x_35_10)]) 3 dX11_missedBy_35 rfl e_35_10.symm (by decide) rfl ?_
            refine V_goto (pc := 38) (tgt := 4) dX11_missedBy_38 (by decide) ?_
            exact ih (m + 1) x_35_10 s (by omega) (by omega) (by unfold cnP; first | (rw [pIf_pos (by unfold resP; rw [i8]; first | exact ⟨by omega, Or.inl ⟨rfl, by omega⟩⟩ | exact ⟨by omega, Or.inr ⟨by decide, by omega, by assumption⟩⟩)]; omega) | (rw [pIf_neg (fun z => by unfold resP at z; rw [i8] at z; rcases z with ⟨z1, ⟨z2, z3⟩ | ⟨z2, z3, z4⟩⟩ <;> first | omega | exact absurd z4 (by assumption))]; omega)) (by omega)
          · skip
            refine V_if_ne_f (pc := 29) (tgt := 35) dX11_missedBy_29 (by decide) (by decide) ?_
            obtain ⟨x_32_11, e_32_11⟩ : ∃ y : Int32, y = s + (1) := ⟨_, rfl⟩
            have t_32_11 : x_32_11.toInt = s.toInt + 1 := addT e_32_11 rfl rfl (by omega) (by omega)
            refine V_iinc (pc := 32) (v := x_32_11) (lo' := [(0, .ref (ad G 0)), (1, .ref (ad G j)), (2, .int x_32_11), (3, .int k)]) 2 dX11_missedBy_32 rfl e_32_11.symm (by decide) rfl ?_
            obtain ⟨x_35_12, e_35_12⟩ : ∃ y : Int32, y = k + (1) := ⟨_, rfl⟩
            have t_35_12 : x_35_12.toInt = k.toInt + 1 := addT e_35_12 rfl rfl (by omega) (by omega)
            refine V_iinc (pc := 35) (v := x_35_12) (lo' := [(0, .ref (ad G 0)), (1, .ref (ad G j)), (2, .int x_32_11), (3, .int x_35_12)]) 3 dX11_missedBy_35 rfl e_35_12.symm (by decide) rfl ?_
            refine V_goto (pc := 38) (tgt := 4) dX11_missedBy_38 (by decide) ?_
            exact ih (m + 1) x_35_12 x_32_11 (by omega) (by omega) (by unfold cnP; first | (rw [pIf_pos (by unfold resP; rw [i8]; first | exact ⟨by omega, Or.inl ⟨rfl, by omega⟩⟩ | exact ⟨by omega, Or.inr ⟨by decide, by omega, by assumption⟩⟩)]; omega) | (rw [pIf_neg (fun z => by unfold resP at z; rw [i8] at z; rcases z with ⟨z1, ⟨z2, z3⟩ | ⟨z2, z3, z4⟩⟩ <;> first | omega | exact absurd z4 (by assumption))]; omega)) (by omega)
        · refine V_callO (pc := 26) (As := [.int k]) (st := []) (c_X1_isClockedAt G j k hw (kdS hK).1.1 (kdS hK).1.2 (kdS hK).2.1 (kdS hK).2.2.1 (kdS hK).2.2.2 (by omega)) mf_X1_isClockedAt ov_X11_225_4 (kdS hK).1.1 hsj (by decide) rfl dX11_missedBy_26 rfl rfl (by omega) (by omega) (by omega) (Nat.le_of_ble_eq_true rfl) (fun r_26_13 n_26_13 sh_26_13 I_26_13 L_26_13 R_26_13 hq_26_13 => ?_)
          obtain ⟨rfl, rfl, rfl, rfl, rfl, hq_26_13⟩ := hq_26_13
          have eq_26_13 : k.toInt.toNat = m := by omega
          rw [eq_26_13] at hq_26_13
          rcases hq_26_13 with ⟨c_26_13, rfl⟩ | ⟨c_26_13, rfl⟩
          · skip
            refine V_if_ne_t (pc := 29) (tgt := 35) dX11_missedBy_29 (by decide) (by decide) ?_
            obtain ⟨x_35_14, e_35_14⟩ : ∃ y : Int32, y = k + (1) := ⟨_, rfl⟩
            have t_35_14 : x_35_14.toInt = k.toInt + 1 := addT e_35_14 rfl rfl (by omega) (by omega)
            refine V_iinc (pc := 35) (v := x_35_14) (lo' := [(0, .ref (ad G 0)), (1, .ref (ad G j)), (2, .int s), (3, .int x_35_14)]) 3 dX11_missedBy_35 rfl e_35_14.symm (by decide) rfl ?_
            refine V_goto (pc := 38) (tgt := 4) dX11_missedBy_38 (by decide) ?_
            exact ih (m + 1) x_35_14 s (by omega) (by omega) (by unfold cnP; first | (rw [pIf_pos (by unfold resP; rw [i8]; first | exact ⟨by omega, Or.inl ⟨rfl, by omega⟩⟩ | exact ⟨by omega, Or.inr ⟨by decide, by omega, by assumption⟩⟩)]; omega) | (rw [pIf_neg (fun z => by unfold resP at z; rw [i8] at z; rcases z with ⟨z1, ⟨z2, z3⟩ | ⟨z2, z3, z4⟩⟩ <;> first | omega | exact absurd z4 (by assumption))]; omega)) (by omega)
          · skip
            refine V_if_ne_f (pc := 29) (tgt := 35) dX11_missedBy_29 (by decide) (by decide) ?_
            obtain ⟨x_32_15, e_32_15⟩ : ∃ y : Int32, y = s + (1) := ⟨_, rfl⟩
            have t_32_15 : x_32_15.toInt = s.toInt + 1 := addT e_32_15 rfl rfl (by omega) (by omega)
            refine V_iinc (pc := 32) (v := x_32_15) (lo' := [(0, .ref (ad G 0)), (1, .ref (ad G j)), (2, .int x_32_15), (3, .int k)]) 2 dX11_missedBy_32 rfl e_32_15.symm (by decide) rfl ?_
            obtain ⟨x_35_16, e_35_16⟩ : ∃ y : Int32, y = k + (1) := ⟨_, rfl⟩
            have t_35_16 : x_35_16.toInt = k.toInt + 1 := addT e_35_16 rfl rfl (by omega) (by omega)
            refine V_iinc (pc := 35) (v := x_35_16) (lo' := [(0, .ref (ad G 0)), (1, .ref (ad G j)), (2, .int x_32_15), (3, .int x_35_16)]) 3 dX11_missedBy_35 rfl e_35_16.symm (by decide) rfl ?_
            refine V_goto (pc := 38) (tgt := 4) dX11_missedBy_38 (by decide) ?_
            exact ih (m + 1) x_35_16 x_32_15 (by omega) (by omega) (by unfold cnP; first | (rw [pIf_pos (by unfold resP; rw [i8]; first | exact ⟨by omega, Or.inl ⟨rfl, by omega⟩⟩ | exact ⟨by omega, Or.inr ⟨by decide, by omega, by assumption⟩⟩)]; omega) | (rw [pIf_neg (fun z => by unfold resP at z; rw [i8] at z; rcases z with ⟨z1, ⟨z2, z3⟩ | ⟨z2, z3, z4⟩⟩ <;> first | omega | exact absurd z4 (by assumption))]; omega)) (by omega)
set_option maxRecDepth 100000 in
set_option maxHeartbeats 4000000 in
theorem c_X11_missedBy (G : vG) {n : Nat} {sh : vS} {I : vI} {L : vL} {R : vR} (X : vI) (a j : Nat) (hw : WF n sh R) (hC : JC n sh I L R X) (hK : KD n sh I R X a j) : CT G yX11_missedBy cX11_missedBy 4 (some .int) 2 0 0 [.ref (ad G 0), .ref (ad G j)] n sh I L R (PI n sh L R (fun I' o => I = I' ∧ ∃ v : Int32, o = some (.int v) ∧ (v.toInt = cnP (resP X (a : Int) 2) (X 27 30).toInt.toNat ∧ 0 ≤ v.toInt ∧ v.toInt ≤ 8))) := by
  refine CT_of (own := RX11) (ini := false) (lo := [(0, .ref (ad G 0)), (1, .ref (ad G j))]) mf_X11_missedBy (Nat.le_of_ble_eq_true rfl) rfl (fun h => by first | rfl | cases h) rfl ?_
  refine V_iconst (pc := 0) (v := 0) dX11_missedBy_0 rfl ?_
  refine V_istore_n (pc := 1) (lo' := [(0, .ref (ad G 0)), (1, .ref (ad G j)), (2, .int 0)]) dX11_missedBy_1 rfl (by decide) rfl ?_
  refine V_iconst (pc := 2) (v := 0) dX11_missedBy_2 rfl ?_
  refine V_istore_n (pc := 3) (lo' := [(0, .ref (ad G 0)), (1, .ref (ad G j)), (2, .int 0), (3, .int 0)]) dX11_missedBy_3 rfl (by decide) rfl ?_
  exact l_X11_missedBy G X a j hw hC hK ((X 27 30).toInt.toNat + 1) 0 0 0 (by have := hC.2.1; omega) rfl rfl (by omega)
set_option maxRecDepth 100000 in
set_option maxHeartbeats 4000000 in
theorem l_X11_outOfOrderBy (G : vG) {n : Nat} {sh : vS} {I : vI} {L : vL} {R : vR} (X : vI) (a j : Nat) (hw : WF n sh R) (hC : JC n sh I L R X) (hK : KD n sh I R X a j) : ∀ (f m : Nat) (k : Int32) (s : Int32) (hm : (m : Int) ≤ (X 27 30).toInt) (hk : k.toInt = (m : Int)) (hs : s.toInt = cnP (resP X (a : Int) 3) m) (hf : (X 27 30).toInt < (m : Int) + f), V G RX11 cX11_outOfOrderBy (some .int) false 2 0 0 4 (PI n sh L R (fun I' o => I = I' ∧ ∃ v : Int32, o = some (.int v) ∧ (v.toInt = cnP (resP X (a : Int) 3) (X 27 30).toInt.toNat ∧ 0 ≤ v.toInt ∧ v.toInt ≤ 8))) 4 [(0, .ref (ad G 0)), (1, .ref (ad G j)), (2, .int s), (3, .int k)] [] 0 0 n sh I L R := by
  intro f
  induction f with
  | zero => intro m k s hm hk hs hf; omega
  | succ f ih =>
    intro m k s hm hk hs hf
    have hC1 : (I 0 6).toInt = (X 27 30).toInt := by rw [hC.1]
    have hC2 := hC.2.1
    have cm := cdF hC m
    have kd := fun z : m < 8 => kdF hK m z
    have hcb := cnP_b (resP X (a : Int) 3) m
    refine V_iload_n (pc := 4) 3 dX11_outOfOrderBy_4 rfl rfl ?_
    refine V_aload_n (pc := 5) 0 dX11_outOfOrderBy_5 rfl rfl ?_
    refine V_gI (pc := 6) (v := (I 0 6)) rfl fk_X11_186_11 dX11_outOfOrderBy_6 (wN hw (by decide)) (wS1 hw (by decide) rfl) ?_
    refine V_icmp_ge (pc := 9) (tgt := 50) dX11_outOfOrderBy_9 (by decide) (fun c_9_1 => ?_) (fun c_9_1 => ?_)
    · have c_9_1 : (I 0 6).toInt ≤ k.toInt := c_9_1
      refine V_iload_n (pc := 50) 2 dX11_outOfOrderBy_50 rfl rfl ?_
      refine V_iret (pc := 51) rfl rfl dX11_outOfOrderBy_51 (by omega) (by omega) ?_
      refine ⟨rfl, rfl, rfl, rfl, rfl, ?_⟩
      have e1 : (X 27 30).toInt.toNat = m := by omega
      rw [e1]
      exact ⟨_, rfl, by omega⟩
    · have c_9_1 : k.toInt < (I 0 6).toInt := c_9_1
      refine V_aload_n (pc := 12) 0 dX11_outOfOrderBy_12 rfl rfl ?_
      refine V_getR (pc := 13) (j := 16) fk_X11_40_11 (wR hw (i := 0) (k := 5) (j := 16) rfl) dX11_outOfOrderBy_13 (wN hw (by decide)) (wS1 hw (by decide) rfl) ?_
      refine V_iload_n (pc := 16) 3 dX11_outOfOrderBy_16 rfl rfl ?_
      refine V_aalk (pc := 17) (t := 3) (N := 8) (k := m) (j := (oj R 16 m)) dX11_outOfOrderBy_17 (wN hw (by decide)) (wS hw (by decide) rfl) (by decide) (by decide) hk (by omega) (hC.2.2.1 m (by omega)).1 ?_
      refine V_gI (pc := 18) (v := (I (oj R 16 m) 1)) rfl fk_X11_210_2 dX11_outOfOrderBy_18 (hC.2.2.1 m (by omega)).2.2.1 (by rw [(hC.2.2.1 m (by omega)).2.2.2.1]) ?_
      refine V_if_ne (pc := 21) (tgt := 44) dX11_outOfOrderBy_21 (by decide) (fun c_21_2 => ?_) (fun c_21_2 => ?_)
      · have c_21_2 : (I (oj R 16 m) 1).toInt ≠ 0 := c_21_2
        obtain ⟨x_44_3, e_44_3⟩ : ∃ y : Int32, y = k + (1) := ⟨_, rfl⟩
        have t_44_3 : x_44_3.toInt = k.toInt + 1 := addT e_44_3 rfl rfl (by omega) (by omega)
        refine V_iinc (pc := 44) (v := x_44_3) (lo' := [(0, .ref (ad G 0)), (1, .ref (ad G j)), (2, .int s), (3, .int x_44_3)]) 3 dX11_outOfOrderBy_44 rfl e_44_3.symm (by decide) rfl ?_
        refine V_goto (pc := 47) (tgt := 4) dX11_outOfOrderBy_47 (by decide) ?_
        exact ih (m + 1) x_44_3 s (by omega) (by omega) (by unfold cnP; first | (rw [pIf_pos (by unfold resP; rw [i8]; first | exact ⟨by omega, Or.inl ⟨rfl, by omega⟩⟩ | exact ⟨by omega, Or.inr ⟨by decide, by omega, by assumption⟩⟩)]; omega) | (rw [pIf_neg (fun z => by unfold resP at z; rw [i8] at z; rcases z with ⟨z1, ⟨z2, z3⟩ | ⟨z2, z3, z4⟩⟩ <;> first | omega | exact absurd z4 (by assumption))]; omega)) (by omega)
      · have c_21_2 : (I (oj R 16 m) 1).toInt = 0 := c_21_2
        refine V_aload_n (pc := 24) 1 dX11_outOfOrderBy_24 rfl rfl ?_
        refine V_iload_n (pc := 25) 3 dX11_outOfOrderBy_25 rfl rfl ?_
        rcases (kdS hK).1.2 with hsj | hsj | hsj
        · refine V_callO (pc := 26) (As := [.int k]) (st := []) (c_X1_isClockedAt G j k hw (kdS hK).1.1 (kdS hK).1.2 (kdS hK).2.1 (kdS hK).2.2.1 (kdS hK).2.2.2 (by omega)) mf_X1_isClockedAt ov_X11_225_1 (kdS hK).1.1 hsj (by decide) rfl dX11_outOfOrderBy_26 rfl rfl (by omega) (by omega) (by omega) (Nat.le_of_ble_eq_true rfl) (fun r_26_5 n_26_5 sh_26_5 I_26_5 L_26_5 R_26_5 hq_26_5 => ?_)
          obtain ⟨rfl, rfl, rfl, rfl, rfl, hq_26_5⟩ := hq_26_5
          have eq_26_5 : k.toInt.toNat = m := by omega
          rw [eq_26_5] at hq_26_5
          rcases hq_26_5 with ⟨c_26_5, rfl⟩ | ⟨c_26_5, rfl⟩
          · skip
            refine V_if_eq_f (pc := 29) (tgt := 44) dX11_outOfOrderBy_29 (by decide) (by decide) ?_
            refine V_aload_n (pc := 32) 0 dX11_outOfOrderBy_32 rfl rfl ?_
            refine V_aload_n (pc := 33) 1 dX11_outOfOrderBy_33 rfl rfl ?_
            refine V_iload_n (pc := 34) 3 dX11_outOfOrderBy_34 rfl rfl ?_
            refine V_callV (pc := 35) (As := [.ref (ad G j), .int k]) (st := []) (c_X11_isOutOfOrder G X a j m k hw hC hK hk (by omega)) mf_X11_isOutOfOrder ml_X11_396 iv_X11_isOutOfOrder (wN hw (by decide)) (wS1 hw (by decide) rfl) (by decide) rfl dX11_outOfOrderBy_35 rfl rfl (by omega) (by omega) (by omega) (Nat.le_of_ble_eq_true rfl) (fun r_35_6 n_35_6 sh_35_6 I_35_6 L_35_6 R_35_6 hq_35_6 => ?_)
            obtain ⟨rfl, rfl, rfl, rfl, rfl, hq_35_6⟩ := hq_35_6
            rcases hq_35_6 with ⟨c_35_6, rfl⟩ | ⟨c_35_6, rfl⟩
            · have c_35_6 := c_35_6
              refine V_if_eq_f (pc := 38) (tgt := 44) dX11_outOfOrderBy_38 (by decide) (by decide) ?_
              obtain ⟨x_41_7, e_41_7⟩ : ∃ y : Int32, y = s + (1) := ⟨_, rfl⟩
              have t_41_7 : x_41_7.toInt = s.toInt + 1 := addT e_41_7 rfl rfl (by omega) (by omega)
              refine V_iinc (pc := 41) (v := x_41_7) (lo' := [(0, .ref (ad G 0)), (1, .ref (ad G j)), (2, .int x_41_7), (3, .int k)]) 2 dX11_outOfOrderBy_41 rfl e_41_7.symm (by decide) rfl ?_
              obtain ⟨x_44_8, e_44_8⟩ : ∃ y : Int32, y = k + (1) := ⟨_, rfl⟩
              have t_44_8 : x_44_8.toInt = k.toInt + 1 := addT e_44_8 rfl rfl (by omega) (by omega)
              refine V_iinc (pc := 44) (v := x_44_8) (lo' := [(0, .ref (ad G 0)), (1, .ref (ad G j)), (2, .int x_41_7), (3, .int x_44_8)]) 3 dX11_outOfOrderBy_44 rfl e_44_8.symm (by decide) rfl ?_
              refine V_goto (pc := 47) (tgt := 4) dX11_outOfOrderBy_47 (by decide) ?_
              exact ih (m + 1) x_44_8 x_41_7 (by omega) (by omega) (by unfold cnP; first | (rw [pIf_pos (by unfold resP; rw [i8]; first | exact ⟨by omega, Or.inl ⟨rfl, by omega⟩⟩ | exact ⟨by omega, Or.inr ⟨by decide, by omega, by assumption⟩⟩)]; omega) | (rw [pIf_neg (fun z => by unfold resP at z; rw [i8] at z; rcases z with ⟨z1, ⟨z2, z3⟩ | ⟨z2, z3, z4⟩⟩ <;> first | omega | exact absurd z4 (by assumption))]; omega)) (by omega)
            · have c_35_6 := c_35_6
              refine V_if_eq_t (pc := 38) (tgt := 44) dX11_outOfOrderBy_38 (by decide) (by decide) ?_
              obtain ⟨x_44_9, e_44_9⟩ : ∃ y : Int32, y = k + (1) := ⟨_, rfl⟩
              have t_44_9 : x_44_9.toInt = k.toInt + 1 := addT e_44_9 rfl rfl (by omega) (by omega)
              refine V_iinc (pc := 44) (v := x_44_9) (lo' := [(0, .ref (ad G 0)), (1, .ref (ad G j)), (2, .int s), (3, .int x_44_9)]) 3 dX11_outOfOrderBy_44 rfl e_44_9.symm (by decide) rfl ?_
              refine V_goto (pc := 47) (tgt := 4) dX11_outOfOrderBy_47 (by decide) ?_
              exact ih (m + 1) x_44_9 s (by omega) (by omega) (by unfold cnP; first | (rw [pIf_pos (by unfold resP; rw [i8]; first | exact ⟨by omega, Or.inl ⟨rfl, by omega⟩⟩ | exact ⟨by omega, Or.inr ⟨by decide, by omega, by assumption⟩⟩)]; omega) | (rw [pIf_neg (fun z => by unfold resP at z; rw [i8] at z; rcases z with ⟨z1, ⟨z2, z3⟩ | ⟨z2, z3, z4⟩⟩ <;> first | omega | exact absurd z4 (by assumption))]; omega)) (by omega)
          · skip
            refine V_if_eq_t (pc := 29) (tgt := 44) dX11_outOfOrderBy_29 (by decide) (by decide) ?_
            obtain ⟨x_44_10, e_44_10⟩ : ∃ y : Int32, y = k + (1) := ⟨_, rfl⟩
            have t_44_10 : x_44_10.toInt = k.toInt + 1 := addT e_44_10 rfl rfl (by omega) (by omega)
            refine V_iinc (pc := 44) (v := x_44_10) (lo' := [(0, .ref (ad G 0)), (1, .ref (ad G j)), (2, .int s), (3, .int x_44_10)]) 3 dX11_outOfOrderBy_44 rfl e_44_10.symm (by decide) rfl ?_
            refine V_goto (pc := 47) (tgt := 4) dX11_outOfOrderBy_47 (by decide) ?_
            exact ih (m + 1) x_44_10 s (by omega) (by omega) (by unfold cnP; first | (rw [pIf_pos (by unfold resP; rw [i8]; first | exact ⟨by omega, Or.inl ⟨rfl, by omega⟩⟩ | exact ⟨by omega, Or.inr ⟨by decide, by omega, by assumption⟩⟩)]; omega) | (rw [pIf_neg (fun z => by unfold resP at z; rw [i8] at z; rcases z with ⟨z1, ⟨z2, z3⟩ | ⟨z2, z3, z4⟩⟩ <;> first | omega | exact absurd z4 (by assumption))]; omega)) (by omega)
        · refine V_callO (pc := 26) (As := [.int k]) (st := []) (c_X1_isClockedAt G j k hw (kdS hK).1.1 (kdS hK).1.2 (kdS hK).2.1 (kdS hK).2.2.1 (kdS hK).2.2.2 (by omega)) mf_X1_isClockedAt ov_X11_225_5 (kdS hK).1.1 hsj (by decide) rfl dX11_outOfOrderBy_26 rfl rfl (by omega) (by omega) (by omega) (Nat.le_of_ble_eq_true rfl) (fun r_26_11 n_26_11 sh_26_11 I_26_11 L_26_11 R_26_11 hq_26_11 => ?_)
          obtain ⟨rfl, rfl, rfl, rfl, rfl, hq_26_11⟩ := hq_26_11
          have eq_26_11 : k.toInt.toNat = m := by omega
          rw [eq_26_11] at hq_26_11
          rcases hq_26_11 with ⟨c_26_11, rfl⟩ | ⟨c_26_11, rfl⟩
          · skip
            refine V_if_eq_f (pc := 29) (tgt := 44) dX11_outOfOrderBy_29 (by decide) (by decide) ?_
            refine V_aload_n (pc := 32) 0 dX11_outOfOrderBy_32 rfl rfl ?_
            refine V_aload_n (pc := 33) 1 dX11_outOfOrderBy_33 rfl rfl ?_
            refine V_iload_n (pc := 34) 3 dX11_outOfOrderBy_34 rfl rfl ?_
            refine V_callV (pc := 35) (As := [.ref (ad G j), .int k]) (st := []) (c_X11_isOutOfOrder G X a j m k hw hC hK hk (by omega)) mf_X11_isOutOfOrder ml_X11_396 iv_X11_isOutOfOrder (wN hw (by decide)) (wS1 hw (by decide) rfl) (by decide) rfl dX11_outOfOrderBy_35 rfl rfl (by omega) (by omega) (by omega) (Nat.le_of_ble_eq_true rfl) (fun r_35_12 n_35_12 sh_35_12 I_35_12 L_35_12 R_35_12 hq_35_12 => ?_)
            obtain ⟨rfl, rfl, rfl, rfl, rfl, hq_35_12⟩ := hq_35_12
            rcases hq_35_12 with ⟨c_35_12, rfl⟩ | ⟨c_35_12, rfl⟩
            · have c_35_12 := c_35_12
              refine V_if_eq_f (pc := 38) (tgt := 44) dX11_outOfOrderBy_38 (by decide) (by decide) ?_
              obtain ⟨x_41_13, e_41_13⟩ : ∃ y : Int32, y = s + (1) := ⟨_, rfl⟩
              have t_41_13 : x_41_13.toInt = s.toInt + 1 := addT e_41_13 rfl rfl (by omega) (by omega)
              refine V_iinc (pc := 41) (v := x_41_13) (lo' := [(0, .ref (ad G 0)), (1, .ref (ad G j)), (2, .int x_41_13), (3, .int k)]) 2 dX11_outOfOrderBy_41 rfl e_41_13.symm (by decide) rfl ?_
              obtain ⟨x_44_14, e_44_14⟩ : ∃ y : Int32, y = k + (1) := ⟨_, rfl⟩
              have t_44_14 : x_44_14.toInt = k.toInt + 1 := addT e_44_14 rfl rfl (by omega) (by omega)
              refine V_iinc (pc := 44) (v := x_44_14) (lo' := [(0, .ref (ad G 0)), (1, .ref (ad G j)), (2, .int x_41_13), (3, .int x_44_14)]) 3 dX11_outOfOrderBy_44 rfl e_44_14.symm (by decide) rfl ?_
              refine V_goto (pc := 47) (tgt := 4) dX11_outOfOrderBy_47 (by decide) ?_
              exact ih (m + 1) x_44_14 x_41_13 (by omega) (by omega) (by unfold cnP; first | (rw [pIf_pos (by unfold resP; rw [i8]; first | exact ⟨by omega, Or.inl ⟨rfl, by omega⟩⟩ | exact ⟨by omega, Or.inr ⟨by decide, by omega, by assumption⟩⟩)]; omega) | (rw [pIf_neg (fun z => by unfold resP at z; rw [i8] at z; rcases z with ⟨z1, ⟨z2, z3⟩ | ⟨z2, z3, z4⟩⟩ <;> first | omega | exact absurd z4 (by assumption))]; omega)) (by omega)
            · have c_35_12 := c_35_12
              refine V_if_eq_t (pc := 38) (tgt := 44) dX11_outOfOrderBy_38 (by decide) (by decide) ?_
              obtain ⟨x_44_15, e_44_15⟩ : ∃ y : Int32, y = k + (1) := ⟨_, rfl⟩
              have t_44_15 : x_44_15.toInt = k.toInt + 1 := addT e_44_15 rfl rfl (by omega) (by omega)
              refine V_iinc (pc := 44) (v := x_44_15) (lo' := [(0, .ref (ad G 0)), (1, .ref (ad G j)), (2, .int s), (3, .int x_44_15)]) 3 dX11_outOfOrderBy_44 rfl e_44_15.symm (by decide) rfl ?_
              refine V_goto (pc := 47) (tgt := 4) dX11_outOfOrderBy_47 (by decide) ?_
              exact ih (m + 1) x_44_15 s (by omega) (by omega) (by unfold cnP; first | (rw [pIf_pos (by unfold resP; rw [i8]; first | exact ⟨by omega, Or.inl ⟨rfl, by omega⟩⟩ | exact ⟨by omega, Or.inr ⟨by decide, by omega, by assumption⟩⟩)]; omega) | (rw [pIf_neg (fun z => by unfold resP at z; rw [i8] at z; rcases z with ⟨z1, ⟨z2, z3⟩ | ⟨z2, z3, z4⟩⟩ <;> first | omega | exact absurd z4 (by assumption))]; omega)) (by omega)
          · skip
            refine V_if_eq_t (pc := 29) (tgt := 44) dX11_outOfOrderBy_29 (by decide) (by decide) ?_
            obtain ⟨x_44_16, e_44_16⟩ : ∃ y : Int32, y = k + (1) := ⟨_, rfl⟩
            have t_44_16 : x_44_16.toInt = k.toInt + 1 := addT e_44_16 rfl rfl (by omega) (by omega)
            refine V_iinc (pc := 44) (v := x_44_16) (lo' := [(0, .ref (ad G 0)), (1, .ref (ad G j)), (2, .int s), (3, .int x_44_16)]) 3 dX11_outOfOrderBy_44 rfl e_44_16.symm (by decide) rfl ?_
            refine V_goto (pc := 47) (tgt := 4) dX11_outOfOrderBy_47 (by decide) ?_
            exact ih (m + 1) x_44_16 s (by omega) (by omega) (by unfold cnP; first | (rw [pIf_pos (by unfold resP; rw [i8]; first | exact ⟨by omega, Or.inl ⟨rfl, by omega⟩⟩ | exact ⟨by omega, Or.inr ⟨by decide, by omega, by assumption⟩⟩)]; omega) | (rw [pIf_neg (fun z => by unfold resP at z; rw [i8] at z; rcases z with ⟨z1, ⟨z2, z3⟩ | ⟨z2, z3, z4⟩⟩ <;> first | omega | exact absurd z4 (by assumption))]; omega)) (by omega)
        · refine V_callO (pc := 26) (As := [.int k]) (st := []) (c_X1_isClockedAt G j k hw (kdS hK).1.1 (kdS hK).1.2 (kdS hK).2.1 (kdS hK).2.2.1 (kdS hK).2.2.2 (by omega)) mf_X1_isClockedAt ov_X11_225_4 (kdS hK).1.1 hsj (by decide) rfl dX11_outOfOrderBy_26 rfl rfl (by omega) (by omega) (by omega) (Nat.le_of_ble_eq_true rfl) (fun r_26_17 n_26_17 sh_26_17 I_26_17 L_26_17 R_26_17 hq_26_17 => ?_)
          obtain ⟨rfl, rfl, rfl, rfl, rfl, hq_26_17⟩ := hq_26_17
          have eq_26_17 : k.toInt.toNat = m := by omega
          rw [eq_26_17] at hq_26_17
          rcases hq_26_17 with ⟨c_26_17, rfl⟩ | ⟨c_26_17, rfl⟩
          · skip
            refine V_if_eq_f (pc := 29) (tgt := 44) dX11_outOfOrderBy_29 (by decide) (by decide) ?_
            refine V_aload_n (pc := 32) 0 dX11_outOfOrderBy_32 rfl rfl ?_
            refine V_aload_n (pc := 33) 1 dX11_outOfOrderBy_33 rfl rfl ?_
            refine V_iload_n (pc := 34) 3 dX11_outOfOrderBy_34 rfl rfl ?_
            refine V_callV (pc := 35) (As := [.ref (ad G j), .int k]) (st := []) (c_X11_isOutOfOrder G X a j m k hw hC hK hk (by omega)) mf_X11_isOutOfOrder ml_X11_396 iv_X11_isOutOfOrder (wN hw (by decide)) (wS1 hw (by decide) rfl) (by decide) rfl dX11_outOfOrderBy_35 rfl rfl (by omega) (by omega) (by omega) (Nat.le_of_ble_eq_true rfl) (fun r_35_18 n_35_18 sh_35_18 I_35_18 L_35_18 R_35_18 hq_35_18 => ?_)
            obtain ⟨rfl, rfl, rfl, rfl, rfl, hq_35_18⟩ := hq_35_18
            rcases hq_35_18 with ⟨c_35_18, rfl⟩ | ⟨c_35_18, rfl⟩
            · have c_35_18 := c_35_18
              refine V_if_eq_f (pc := 38) (tgt := 44) dX11_outOfOrderBy_38 (by decide) (by decide) ?_
              obtain ⟨x_41_19, e_41_19⟩ : ∃ y : Int32, y = s + (1) := ⟨_, rfl⟩
              have t_41_19 : x_41_19.toInt = s.toInt + 1 := addT e_41_19 rfl rfl (by omega) (by omega)
              refine V_iinc (pc := 41) (v := x_41_19) (lo' := [(0, .ref (ad G 0)), (1, .ref (ad G j)), (2, .int x_41_19), (3, .int k)]) 2 dX11_outOfOrderBy_41 rfl e_41_19.symm (by decide) rfl ?_
              obtain ⟨x_44_20, e_44_20⟩ : ∃ y : Int32, y = k + (1) := ⟨_, rfl⟩
              have t_44_20 : x_44_20.toInt = k.toInt + 1 := addT e_44_20 rfl rfl (by omega) (by omega)
              refine V_iinc (pc := 44) (v := x_44_20) (lo' := [(0, .ref (ad G 0)), (1, .ref (ad G j)), (2, .int x_41_19), (3, .int x_44_20)]) 3 dX11_outOfOrderBy_44 rfl e_44_20.symm (by decide) rfl ?_
              refine V_goto (pc := 47) (tgt := 4) dX11_outOfOrderBy_47 (by decide) ?_
              exact ih (m + 1) x_44_20 x_41_19 (by omega) (by omega) (by unfold cnP; first | (rw [pIf_pos (by unfold resP; rw [i8]; first | exact ⟨by omega, Or.inl ⟨rfl, by omega⟩⟩ | exact ⟨by omega, Or.inr ⟨by decide, by omega, by assumption⟩⟩)]; omega) | (rw [pIf_neg (fun z => by unfold resP at z; rw [i8] at z; rcases z with ⟨z1, ⟨z2, z3⟩ | ⟨z2, z3, z4⟩⟩ <;> first | omega | exact absurd z4 (by assumption))]; omega)) (by omega)
            · have c_35_18 := c_35_18
              refine V_if_eq_t (pc := 38) (tgt := 44) dX11_outOfOrderBy_38 (by decide) (by decide) ?_
              obtain ⟨x_44_21, e_44_21⟩ : ∃ y : Int32, y = k + (1) := ⟨_, rfl⟩
              have t_44_21 : x_44_21.toInt = k.toInt + 1 := addT e_44_21 rfl rfl (by omega) (by omega)
              refine V_iinc (pc := 44) (v := x_44_21) (lo' := [(0, .ref (ad G 0)), (1, .ref (ad G j)), (2, .int s), (3, .int x_44_21)]) 3 dX11_outOfOrderBy_44 rfl e_44_21.symm (by decide) rfl ?_
              refine V_goto (pc := 47) (tgt := 4) dX11_outOfOrderBy_47 (by decide) ?_
              exact ih (m + 1) x_44_21 s (by omega) (by omega) (by unfold cnP; first | (rw [pIf_pos (by unfold resP; rw [i8]; first | exact ⟨by omega, Or.inl ⟨rfl, by omega⟩⟩ | exact ⟨by omega, Or.inr ⟨by decide, by omega, by assumption⟩⟩)]; omega) | (rw [pIf_neg (fun z => by unfold resP at z; rw [i8] at z; rcases z with ⟨z1, ⟨z2, z3⟩ | ⟨z2, z3, z4⟩⟩ <;> first | omega | exact absurd z4 (by assumption))]; omega)) (by omega)
          · skip
            refine V_if_eq_t (pc := 29) (tgt := 44) dX11_outOfOrderBy_29 (by decide) (by decide) ?_
            obtain ⟨x_44_22, e_44_22⟩ : ∃ y : Int32, y = k + (1) := ⟨_, rfl⟩
            have t_44_22 : x_44_22.toInt = k.toInt + 1 := addT e_44_22 rfl rfl (by omega) (by omega)
            refine V_iinc (pc := 44) (v := x_44_22) (lo' := [(0, .ref (ad G 0)), (1, .ref (ad G j)), (2, .int s), (3, .int x_44_22)]) 3 dX11_outOfOrderBy_44 rfl e_44_22.symm (by decide) rfl ?_
            refine V_goto (pc := 47) (tgt := 4) dX11_outOfOrderBy_47 (by decide) ?_
            exact ih (m + 1) x_44_22 s (by omega) (by omega) (by unfold cnP; first | (rw [pIf_pos (by unfold resP; rw [i8]; first | exact ⟨by omega, Or.inl ⟨rfl, by omega⟩⟩ | exact ⟨by omega, Or.inr ⟨by decide, by omega, by assumption⟩⟩)]; omega) | (rw [pIf_neg (fun z => by unfold resP at z; rw [i8] at z; rcases z with ⟨z1, ⟨z2, z3⟩ | ⟨z2, z3, z4⟩⟩ <;> first | omega | exact absurd z4 (by assumption))]; omega)) (by omega)
set_option maxRecDepth 100000 in
set_option maxHeartbeats 4000000 in
theorem c_X11_outOfOrderBy (G : vG) {n : Nat} {sh : vS} {I : vI} {L : vL} {R : vR} (X : vI) (a j : Nat) (hw : WF n sh R) (hC : JC n sh I L R X) (hK : KD n sh I R X a j) : CT G yX11_outOfOrderBy cX11_outOfOrderBy 4 (some .int) 2 0 0 [.ref (ad G 0), .ref (ad G j)] n sh I L R (PI n sh L R (fun I' o => I = I' ∧ ∃ v : Int32, o = some (.int v) ∧ (v.toInt = cnP (resP X (a : Int) 3) (X 27 30).toInt.toNat ∧ 0 ≤ v.toInt ∧ v.toInt ≤ 8))) := by
  refine CT_of (own := RX11) (ini := false) (lo := [(0, .ref (ad G 0)), (1, .ref (ad G j))]) mf_X11_outOfOrderBy (Nat.le_of_ble_eq_true rfl) rfl (fun h => by first | rfl | cases h) rfl ?_
  refine V_iconst (pc := 0) (v := 0) dX11_outOfOrderBy_0 rfl ?_
  refine V_istore_n (pc := 1) (lo' := [(0, .ref (ad G 0)), (1, .ref (ad G j)), (2, .int 0)]) dX11_outOfOrderBy_1 rfl (by decide) rfl ?_
  refine V_iconst (pc := 2) (v := 0) dX11_outOfOrderBy_2 rfl ?_
  refine V_istore_n (pc := 3) (lo' := [(0, .ref (ad G 0)), (1, .ref (ad G j)), (2, .int 0), (3, .int 0)]) dX11_outOfOrderBy_3 rfl (by decide) rfl ?_
  exact l_X11_outOfOrderBy G X a j hw hC hK ((X 27 30).toInt.toNat + 1) 0 0 0 (by have := hC.2.1; omega) rfl rfl (by omega)
set_option maxRecDepth 100000 in
set_option maxHeartbeats 4000000 in
theorem l_X11_isBetterOfTie (G : vG) {n : Nat} {sh : vS} {I : vI} {L : vL} {R : vR} (X : vI) (a1 j1 a2 j2 : Nat) (hw : WF n sh R) (hC : JC n sh I L R X) (hK1 : KD n sh I R X a1 j1) (hK2 : KD n sh I R X a2 j2) (hY : JW I X) (hV : JV X) (h0e : ∃ k, k < (X 27 27).toInt.toNat ∧ due0P X k) : ∀ (f m : Nat) (k : Int32) (fu : Int32) (b : Int32) (hm : (m : Int) ≤ (X 27 30).toInt) (hk : k.toInt = (m : Int)) (hinv : ((fbF X (a1 : Int) (a2 : Int) m < 0 ∧ fu.toInt = (X 27 25).toInt + 1) ∨ (0 ≤ fbF X (a1 : Int) (a2 : Int) m ∧ fu.toInt = (X 47 (fbF X (a1 : Int) (a2 : Int) m).toNat).toInt)) ∧ ((b.toInt = 1 ∧ ((fbF X (a1 : Int) (a2 : Int) m < 0 ∧ (a1 : Int) < a2) ∨ (0 ≤ fbF X (a1 : Int) (a2 : Int) m ∧ ptsF X (a1 : Int) (fbF X (a1 : Int) (a2 : Int) m) < ptsF X (a2 : Int) (fbF X (a1 : Int) (a2 : Int) m)))) ∨ (b.toInt = 0 ∧ ¬ ((fbF X (a1 : Int) (a2 : Int) m < 0 ∧ (a1 : Int) < a2) ∨ (0 ≤ fbF X (a1 : Int) (a2 : Int) m ∧ ptsF X (a1 : Int) (fbF X (a1 : Int) (a2 : Int) m) < ptsF X (a2 : Int) (fbF X (a1 : Int) (a2 : Int) m)))))) (hf : (X 27 30).toInt < (m : Int) + f), V G RX11 cX11_isBetterOfTie (some .boolean) false 5 0 0 8 (PI n sh L R (fun I' o => I = I' ∧ rb o ((fbF X (a1 : Int) (a2 : Int) (X 27 30).toInt.toNat < 0 ∧ (a1 : Int) < a2) ∨ (0 ≤ fbF X (a1 : Int) (a2 : Int) (X 27 30).toInt.toNat ∧ ptsF X (a1 : Int) (fbF X (a1 : Int) (a2 : Int) (X 27 30).toInt.toNat) < ptsF X (a2 : Int) (fbF X (a1 : Int) (a2 : Int) (X 27 30).toInt.toNat))))) 31 [(0, .ref (ad G 0)), (1, .ref (ad G j1)), (2, .ref (ad G j2)), (3, .int b), (4, .int fu), (5, .int k)] [] 0 0 n sh I L R := by
  intro f
  induction f with
  | zero => intro m k fu b hm hk hinv hf; omega
  | succ f ih =>
    intro m k fu b hm hk hinv hf
    have hC1 : (I 0 6).toInt = (X 27 30).toInt := by rw [hC.1]
    have hC2 := hC.2.1
    have cm := cdF hC m
    have hfb := fbF_b X (a1 : Int) (a2 : Int) m
    have hm2 := hY.2.2.2.2.2.2.2.2.2.1
    have hi1 := hinv.1
    refine V_iload (pc := 31) 5 dX11_isBetterOfTie_31 rfl ?_
    refine V_aload_n (pc := 33) 0 dX11_isBetterOfTie_33 rfl rfl ?_
    refine V_gI (pc := 34) (v := (I 0 6)) rfl fk_X11_186_11 dX11_isBetterOfTie_34 (wN hw (by decide)) (wS1 hw (by decide) rfl) ?_
    refine V_icmp_ge (pc := 37) (tgt := 111) dX11_isBetterOfTie_37 (by decide) (fun c_37_1 => ?_) (fun c_37_1 => ?_)
    · have c_37_1 : (I 0 6).toInt ≤ k.toInt := c_37_1
      refine V_iload_n (pc := 111) 3 dX11_isBetterOfTie_111 rfl rfl ?_
      refine V_iret (pc := 112) rfl (nbool (by rcases hinv.2 with ⟨q, -⟩ | ⟨q, -⟩ <;> omega)) dX11_isBetterOfTie_112 (by omega) (by omega) ?_
      refine ⟨rfl, rfl, rfl, rfl, rfl, ?_⟩
      have e1 : (X 27 30).toInt.toNat = m := by omega
      rw [e1]
      rcases hinv.2 with ⟨q1, q2⟩ | ⟨q1, q2⟩
      · exact Or.inl ⟨q2, by rw [show b = 1 from ti_eq.mpr q1]⟩
      · exact Or.inr ⟨q2, by rw [show b = 0 from ti_eq.mpr q1]⟩
    · have c_37_1 : k.toInt < (I 0 6).toInt := c_37_1
      refine V_aload_n (pc := 40) 0 dX11_isBetterOfTie_40 rfl rfl ?_
      refine V_aload_n (pc := 41) 1 dX11_isBetterOfTie_41 rfl rfl ?_
      refine V_iload (pc := 42) 5 dX11_isBetterOfTie_42 rfl ?_
      refine V_callV (pc := 44) (As := [.ref (ad G j1), .int k]) (st := []) (c_X11_pointsOf G X a1 j1 m k hw hC hK1 hY hV h0e hk (by omega)) mf_X11_pointsOf ml_X11_238 iv_X11_pointsOf (wN hw (by decide)) (wS1 hw (by decide) rfl) (by decide) rfl dX11_isBetterOfTie_44 rfl rfl (by omega) (by omega) (by omega) (Nat.le_of_ble_eq_true rfl) (fun r_44_2 n_44_2 sh_44_2 I_44_2 L_44_2 R_44_2 hq_44_2 => ?_)
      obtain ⟨rfl, rfl, rfl, rfl, rfl, v_44_2, rfl, hv_44_2⟩ := hq_44_2
      refine V_istore (pc := 47) (lo' := [(0, .ref (ad G 0)), (1, .ref (ad G j1)), (2, .ref (ad G j2)), (3, .int b), (4, .int fu), (5, .int k), (6, .int v_44_2)]) dX11_isBetterOfTie_47 (by decide) rfl ?_
      refine V_aload_n (pc := 49) 0 dX11_isBetterOfTie_49 rfl rfl ?_
      refine V_aload_n (pc := 50) 2 dX11_isBetterOfTie_50 rfl rfl ?_
      refine V_iload (pc := 51) 5 dX11_isBetterOfTie_51 rfl ?_
      refine V_callV (pc := 53) (As := [.ref (ad G j2), .int k]) (st := []) (c_X11_pointsOf G X a2 j2 m k hw hC hK2 hY hV h0e hk (by omega)) mf_X11_pointsOf ml_X11_238 iv_X11_pointsOf (wN hw (by decide)) (wS1 hw (by decide) rfl) (by decide) rfl dX11_isBetterOfTie_53 rfl rfl (by omega) (by omega) (by omega) (Nat.le_of_ble_eq_true rfl) (fun r_53_3 n_53_3 sh_53_3 I_53_3 L_53_3 R_53_3 hq_53_3 => ?_)
      obtain ⟨rfl, rfl, rfl, rfl, rfl, v_53_3, rfl, hv_53_3⟩ := hq_53_3
      refine V_istore (pc := 56) (lo' := [(0, .ref (ad G 0)), (1, .ref (ad G j1)), (2, .ref (ad G j2)), (3, .int b), (4, .int fu), (5, .int k), (6, .int v_44_2), (7, .int v_53_3)]) dX11_isBetterOfTie_56 (by decide) rfl ?_
      refine V_iload (pc := 58) 6 dX11_isBetterOfTie_58 rfl ?_
      refine V_iload (pc := 60) 7 dX11_isBetterOfTie_60 rfl ?_
      refine V_icmp_eq (pc := 62) (tgt := 105) dX11_isBetterOfTie_62 (by decide) (fun c_62_4 => ?_) (fun c_62_4 => ?_)
      · have c_62_4 : v_44_2.toInt = v_53_3.toInt := c_62_4
        obtain ⟨x_105_5, e_105_5⟩ : ∃ y : Int32, y = k + (1) := ⟨_, rfl⟩
        have t_105_5 : x_105_5.toInt = k.toInt + 1 := addT e_105_5 rfl rfl (by omega) (by omega)
        refine V_iinc (pc := 105) (v := x_105_5) (lo' := [(0, .ref (ad G 0)), (1, .ref (ad G j1)), (2, .ref (ad G j2)), (3, .int b), (4, .int fu), (5, .int x_105_5), (6, .int v_44_2), (7, .int v_53_3)]) 5 dX11_isBetterOfTie_105 rfl e_105_5.symm (by decide) rfl ?_
        refine V_goto (pc := 108) (tgt := 31) dX11_isBetterOfTie_108 (by decide) ?_
        refine V_lo (pc := 31) (lo' := [(0, .ref (ad G 0)), (1, .ref (ad G j1)), (2, .ref (ad G j2)), (3, .int b), (4, .int fu), (5, .int x_105_5)]) [0, 1, 2, 3, 4, 5] rfl ?_
        have ef : fbF X (a1 : Int) (a2 : Int) (m + 1) = fbF X (a1 : Int) (a2 : Int) m := by
          show pIf _ _ _ = _
          exact pIf_neg (fun z => by omega)
        exact ih (m + 1) x_105_5 fu b (by omega) (by omega) (by rw [ef]; exact hinv) (by omega)
      · have c_62_4 : v_44_2.toInt ≠ v_53_3.toInt := c_62_4
        refine V_aload_n (pc := 65) 0 dX11_isBetterOfTie_65 rfl rfl ?_
        refine V_getR (pc := 66) (j := 16) fk_X11_40_11 (wR hw (i := 0) (k := 5) (j := 16) rfl) dX11_isBetterOfTie_66 (wN hw (by decide)) (wS1 hw (by decide) rfl) ?_
        refine V_iload (pc := 69) 5 dX11_isBetterOfTie_69 rfl ?_
        refine V_aalk (pc := 71) (t := 3) (N := 8) (k := m) (j := (oj R 16 m)) dX11_isBetterOfTie_71 (wN hw (by decide)) (wS hw (by decide) rfl) (by decide) (by decide) hk (by omega) (hC.2.2.1 m (by omega)).1 ?_
        refine V_gI (pc := 72) (v := (I (oj R 16 m) 0)) rfl fk_X11_367_2 dX11_isBetterOfTie_72 (hC.2.2.1 m (by omega)).2.2.1 (by rw [(hC.2.2.1 m (by omega)).2.2.2.1]) ?_
        refine V_iload (pc := 75) 4 dX11_isBetterOfTie_75 rfl ?_
        refine V_icmp_ge (pc := 77) (tgt := 105) dX11_isBetterOfTie_77 (by decide) (fun c_77_6 => ?_) (fun c_77_6 => ?_)
        · have c_77_6 : fu.toInt ≤ (I (oj R 16 m) 0).toInt := c_77_6
          obtain ⟨x_105_7, e_105_7⟩ : ∃ y : Int32, y = k + (1) := ⟨_, rfl⟩
          have t_105_7 : x_105_7.toInt = k.toInt + 1 := addT e_105_7 rfl rfl (by omega) (by omega)
          refine V_iinc (pc := 105) (v := x_105_7) (lo' := [(0, .ref (ad G 0)), (1, .ref (ad G j1)), (2, .ref (ad G j2)), (3, .int b), (4, .int fu), (5, .int x_105_7), (6, .int v_44_2), (7, .int v_53_3)]) 5 dX11_isBetterOfTie_105 rfl e_105_7.symm (by decide) rfl ?_
          refine V_goto (pc := 108) (tgt := 31) dX11_isBetterOfTie_108 (by decide) ?_
          refine V_lo (pc := 31) (lo' := [(0, .ref (ad G 0)), (1, .ref (ad G j1)), (2, .ref (ad G j2)), (3, .int b), (4, .int fu), (5, .int x_105_7)]) [0, 1, 2, 3, 4, 5] rfl ?_
          have ef : fbF X (a1 : Int) (a2 : Int) (m + 1) = fbF X (a1 : Int) (a2 : Int) m := by
            show pIf _ _ _ = _
            exact pIf_neg (fun z => by omega)
          exact ih (m + 1) x_105_7 fu b (by omega) (by omega) (by rw [ef]; exact hinv) (by omega)
        · have c_77_6 : (I (oj R 16 m) 0).toInt < fu.toInt := c_77_6
          refine V_aload_n (pc := 80) 0 dX11_isBetterOfTie_80 rfl rfl ?_
          refine V_getR (pc := 81) (j := 16) fk_X11_40_11 (wR hw (i := 0) (k := 5) (j := 16) rfl) dX11_isBetterOfTie_81 (wN hw (by decide)) (wS1 hw (by decide) rfl) ?_
          refine V_iload (pc := 84) 5 dX11_isBetterOfTie_84 rfl ?_
          refine V_aalk (pc := 86) (t := 3) (N := 8) (k := m) (j := (oj R 16 m)) dX11_isBetterOfTie_86 (wN hw (by decide)) (wS hw (by decide) rfl) (by decide) (by decide) hk (by omega) (hC.2.2.1 m (by omega)).1 ?_
          refine V_gI (pc := 87) (v := (I (oj R 16 m) 0)) rfl fk_X11_367_2 dX11_isBetterOfTie_87 (hC.2.2.1 m (by omega)).2.2.1 (by rw [(hC.2.2.1 m (by omega)).2.2.2.1]) ?_
          refine V_istore (pc := 90) (lo' := [(0, .ref (ad G 0)), (1, .ref (ad G j1)), (2, .ref (ad G j2)), (3, .int b), (4, .int (I (oj R 16 m) 0)), (5, .int k), (6, .int v_44_2), (7, .int v_53_3)]) dX11_isBetterOfTie_90 (by decide) rfl ?_
          refine V_iload (pc := 92) 6 dX11_isBetterOfTie_92 rfl ?_
          refine V_iload (pc := 94) 7 dX11_isBetterOfTie_94 rfl ?_
          refine V_icmp_ge (pc := 96) (tgt := 103) dX11_isBetterOfTie_96 (by decide) (fun c_96_8 => ?_) (fun c_96_8 => ?_)
          · have c_96_8 : v_53_3.toInt ≤ v_44_2.toInt := c_96_8
            refine V_iconst (pc := 103) (v := 0) dX11_isBetterOfTie_103 rfl ?_
            refine V_istore_n (pc := 104) (lo' := [(0, .ref (ad G 0)), (1, .ref (ad G j1)), (2, .ref (ad G j2)), (3, .int 0), (4, .int (I (oj R 16 m) 0)), (5, .int k), (6, .int v_44_2), (7, .int v_53_3)]) dX11_isBetterOfTie_104 rfl (by decide) rfl ?_
            obtain ⟨x_105_9, e_105_9⟩ : ∃ y : Int32, y = k + (1) := ⟨_, rfl⟩
            have t_105_9 : x_105_9.toInt = k.toInt + 1 := addT e_105_9 rfl rfl (by omega) (by omega)
            refine V_iinc (pc := 105) (v := x_105_9) (lo' := [(0, .ref (ad G 0)), (1, .ref (ad G j1)), (2, .ref (ad G j2)), (3, .int 0), (4, .int (I (oj R 16 m) 0)), (5, .int x_105_9), (6, .int v_44_2), (7, .int v_53_3)]) 5 dX11_isBetterOfTie_105 rfl e_105_9.symm (by decide) rfl ?_
            refine V_goto (pc := 108) (tgt := 31) dX11_isBetterOfTie_108 (by decide) ?_
            refine V_lo (pc := 31) (lo' := [(0, .ref (ad G 0)), (1, .ref (ad G j1)), (2, .ref (ad G j2)), (3, .int 0), (4, .int (I (oj R 16 m) 0)), (5, .int x_105_9)]) [0, 1, 2, 3, 4, 5] rfl ?_
            have ef : fbF X (a1 : Int) (a2 : Int) (m + 1) = (m : Int) := by
              show pIf _ _ _ = _
              exact pIf_pos ⟨by omega, by omega⟩
            exact ih (m + 1) x_105_9 (I (oj R 16 m) 0) 0 (by omega) (by omega) (by
              rw [ef]
              refine ⟨Or.inr ⟨by omega, by rw [Int.toNat_natCast]; omega⟩, ?_⟩
              exact Or.inr ⟨rfl, fun z => by omega⟩) (by omega)
          · have c_96_8 : v_44_2.toInt < v_53_3.toInt := c_96_8
            refine V_iconst (pc := 99) (v := 1) dX11_isBetterOfTie_99 rfl ?_
            refine V_goto (pc := 100) (tgt := 104) dX11_isBetterOfTie_100 (by decide) ?_
            refine V_istore_n (pc := 104) (lo' := [(0, .ref (ad G 0)), (1, .ref (ad G j1)), (2, .ref (ad G j2)), (3, .int 1), (4, .int (I (oj R 16 m) 0)), (5, .int k), (6, .int v_44_2), (7, .int v_53_3)]) dX11_isBetterOfTie_104 rfl (by decide) rfl ?_
            obtain ⟨x_105_10, e_105_10⟩ : ∃ y : Int32, y = k + (1) := ⟨_, rfl⟩
            have t_105_10 : x_105_10.toInt = k.toInt + 1 := addT e_105_10 rfl rfl (by omega) (by omega)
            refine V_iinc (pc := 105) (v := x_105_10) (lo' := [(0, .ref (ad G 0)), (1, .ref (ad G j1)), (2, .ref (ad G j2)), (3, .int 1), (4, .int (I (oj R 16 m) 0)), (5, .int x_105_10), (6, .int v_44_2), (7, .int v_53_3)]) 5 dX11_isBetterOfTie_105 rfl e_105_10.symm (by decide) rfl ?_
            refine V_goto (pc := 108) (tgt := 31) dX11_isBetterOfTie_108 (by decide) ?_
            refine V_lo (pc := 31) (lo' := [(0, .ref (ad G 0)), (1, .ref (ad G j1)), (2, .ref (ad G j2)), (3, .int 1), (4, .int (I (oj R 16 m) 0)), (5, .int x_105_10)]) [0, 1, 2, 3, 4, 5] rfl ?_
            have ef : fbF X (a1 : Int) (a2 : Int) (m + 1) = (m : Int) := by
              show pIf _ _ _ = _
              exact pIf_pos ⟨by omega, by omega⟩
            exact ih (m + 1) x_105_10 (I (oj R 16 m) 0) 1 (by omega) (by omega) (by
              rw [ef]
              refine ⟨Or.inr ⟨by omega, by rw [Int.toNat_natCast]; omega⟩, ?_⟩
              exact Or.inl ⟨rfl, Or.inr ⟨by omega, by omega⟩⟩) (by omega)
set_option maxRecDepth 100000 in
set_option maxHeartbeats 4000000 in
theorem c_X11_isBetterOfTie (G : vG) {n : Nat} {sh : vS} {I : vI} {L : vL} {R : vR} (X : vI) (a1 j1 a2 j2 : Nat) (hw : WF n sh R) (hC : JC n sh I L R X) (hK1 : KD n sh I R X a1 j1) (hK2 : KD n sh I R X a2 j2) (hY : JW I X) (hV : JV X) (h0e : ∃ k, k < (X 27 27).toInt.toNat ∧ due0P X k) : CT G yX11_isBetterOfTie cX11_isBetterOfTie 8 (some .boolean) 5 0 0 [.ref (ad G 0), .ref (ad G j1), .ref (ad G j2)] n sh I L R (PI n sh L R (fun I' o => I = I' ∧ rb o ((fbF X (a1 : Int) (a2 : Int) (X 27 30).toInt.toNat < 0 ∧ (a1 : Int) < a2) ∨ (0 ≤ fbF X (a1 : Int) (a2 : Int) (X 27 30).toInt.toNat ∧ ptsF X (a1 : Int) (fbF X (a1 : Int) (a2 : Int) (X 27 30).toInt.toNat) < ptsF X (a2 : Int) (fbF X (a1 : Int) (a2 : Int) (X 27 30).toInt.toNat))))) := by
  refine CT_of (own := RX11) (ini := false) (lo := [(0, .ref (ad G 0)), (1, .ref (ad G j1)), (2, .ref (ad G j2))]) mf_X11_isBetterOfTie (Nat.le_of_ble_eq_true rfl) rfl (fun h => by first | rfl | cases h) rfl ?_
  have n1 := hK1.2.2.2.2.2.2.1
  have n2 := hK2.2.2.2.2.2.2.1
  have hm1 : (I 11 3).toInt = (X 27 25).toInt := by rw [hY.2.1]
  have hm2 := hY.2.2.2.2.2.2.2.2.2.1
  refine V_aload_n (pc := 0) 1 dX11_isBetterOfTie_0 rfl rfl ?_
  refine V_gI (pc := 1) (v := (I j1 0)) rfl (fk_X11_427_s (kdS hK1).1.2) dX11_isBetterOfTie_1 (kdS hK1).1.1 rfl ?_
  refine V_aload_n (pc := 4) 2 dX11_isBetterOfTie_4 rfl rfl ?_
  refine V_gI (pc := 5) (v := (I j2 0)) rfl (fk_X11_427_s (kdS hK2).1.2) dX11_isBetterOfTie_5 (kdS hK2).1.1 rfl ?_
  refine V_icmp_ge (pc := 8) (tgt := 15) dX11_isBetterOfTie_8 (by decide) (fun c_8_1 => ?_) (fun c_8_1 => ?_)
  · have c_8_1 : (I j2 0).toInt ≤ (I j1 0).toInt := c_8_1
    refine V_iconst (pc := 15) (v := 0) dX11_isBetterOfTie_15 rfl ?_
    refine V_istore_n (pc := 16) (lo' := [(0, .ref (ad G 0)), (1, .ref (ad G j1)), (2, .ref (ad G j2)), (3, .int 0)]) dX11_isBetterOfTie_16 rfl (by decide) rfl ?_
    refine V_aload_n (pc := 17) 0 dX11_isBetterOfTie_17 rfl rfl ?_
    refine V_getR (pc := 18) (j := 11) fk_X11_34_11 (wR hw (i := 0) (k := 4) (j := 11) rfl) dX11_isBetterOfTie_18 (wN hw (by decide)) (wS1 hw (by decide) rfl) ?_
    refine V_gI (pc := 21) (v := (I 11 3)) rfl fk_X11_164_10 dX11_isBetterOfTie_21 (wN hw (by decide)) (wS1 hw (by decide) rfl) ?_
    refine V_iconst (pc := 24) (v := 1) dX11_isBetterOfTie_24 rfl ?_
    refine V_iadd (pc := 25) dX11_isBetterOfTie_25 (fun x_25_2 e_25_2 => ?_)
    have t_25_2 : x_25_2.toInt = (I 11 3).toInt + 1 := addT e_25_2 rfl rfl (by omega) (by omega)
    refine V_istore (pc := 26) (lo' := [(0, .ref (ad G 0)), (1, .ref (ad G j1)), (2, .ref (ad G j2)), (3, .int 0), (4, .int x_25_2)]) dX11_isBetterOfTie_26 (by decide) rfl ?_
    refine V_iconst (pc := 28) (v := 0) dX11_isBetterOfTie_28 rfl ?_
    refine V_istore (pc := 29) (lo' := [(0, .ref (ad G 0)), (1, .ref (ad G j1)), (2, .ref (ad G j2)), (3, .int 0), (4, .int x_25_2), (5, .int 0)]) dX11_isBetterOfTie_29 (by decide) rfl ?_
    exact l_X11_isBetterOfTie G X a1 j1 a2 j2 hw hC hK1 hK2 hY hV h0e ((X 27 30).toInt.toNat + 1) 0 0 x_25_2 0 (by have := hC.2.1; omega) rfl ⟨Or.inl ⟨(by show (-1 : Int) < 0; omega), by omega⟩, Or.inr ⟨rfl, fun z => z.elim (fun q => by omega) (fun q => absurd q.1 (by show ¬ (0 : Int) ≤ -1; omega))⟩⟩ (by omega)
  · have c_8_1 : (I j1 0).toInt < (I j2 0).toInt := c_8_1
    refine V_iconst (pc := 11) (v := 1) dX11_isBetterOfTie_11 rfl ?_
    refine V_goto (pc := 12) (tgt := 16) dX11_isBetterOfTie_12 (by decide) ?_
    refine V_istore_n (pc := 16) (lo' := [(0, .ref (ad G 0)), (1, .ref (ad G j1)), (2, .ref (ad G j2)), (3, .int 1)]) dX11_isBetterOfTie_16 rfl (by decide) rfl ?_
    refine V_aload_n (pc := 17) 0 dX11_isBetterOfTie_17 rfl rfl ?_
    refine V_getR (pc := 18) (j := 11) fk_X11_34_11 (wR hw (i := 0) (k := 4) (j := 11) rfl) dX11_isBetterOfTie_18 (wN hw (by decide)) (wS1 hw (by decide) rfl) ?_
    refine V_gI (pc := 21) (v := (I 11 3)) rfl fk_X11_164_10 dX11_isBetterOfTie_21 (wN hw (by decide)) (wS1 hw (by decide) rfl) ?_
    refine V_iconst (pc := 24) (v := 1) dX11_isBetterOfTie_24 rfl ?_
    refine V_iadd (pc := 25) dX11_isBetterOfTie_25 (fun x_25_3 e_25_3 => ?_)
    have t_25_3 : x_25_3.toInt = (I 11 3).toInt + 1 := addT e_25_3 rfl rfl (by omega) (by omega)
    refine V_istore (pc := 26) (lo' := [(0, .ref (ad G 0)), (1, .ref (ad G j1)), (2, .ref (ad G j2)), (3, .int 1), (4, .int x_25_3)]) dX11_isBetterOfTie_26 (by decide) rfl ?_
    refine V_iconst (pc := 28) (v := 0) dX11_isBetterOfTie_28 rfl ?_
    refine V_istore (pc := 29) (lo' := [(0, .ref (ad G 0)), (1, .ref (ad G j1)), (2, .ref (ad G j2)), (3, .int 1), (4, .int x_25_3), (5, .int 0)]) dX11_isBetterOfTie_29 (by decide) rfl ?_
    exact l_X11_isBetterOfTie G X a1 j1 a2 j2 hw hC hK1 hK2 hY hV h0e ((X 27 30).toInt.toNat + 1) 0 0 x_25_3 1 (by have := hC.2.1; omega) rfl ⟨Or.inl ⟨(by show (-1 : Int) < 0; omega), by omega⟩, Or.inl ⟨rfl, Or.inl ⟨(by show (-1 : Int) < 0; omega), by omega⟩⟩⟩ (by omega)
set_option maxRecDepth 100000 in
set_option maxHeartbeats 4000000 in
theorem l_X11_rankOf (G : vG) {n : Nat} {sh : vS} {I : vI} {L : vL} {R : vR} (X : vI) (a : Nat) (t : Int32) (hw : WF n sh R) (hC : JC n sh I L R X) (hKK : JK n sh I R X) (ha : (a : Int) < (X 27 35).toInt) (hY : JW I X) (hV : JV X) (h0e : ∃ k, k < (X 27 27).toInt.toNat ∧ due0P X k) (ht : t.toInt = totF X (a : Int) (X 27 30).toInt.toNat) : ∀ (f m : Nat) (k : Int32) (s : Int32) (hm : (m : Int) ≤ (X 27 35).toInt) (hk : k.toInt = (m : Int)) (hs : s.toInt = cnP (rkP X (a : Int)) m + 1) (hf : (X 27 35).toInt < (m : Int) + f), V G RX11 cX11_rankOf (some .int) false 7 0 0 6 (PI n sh L R (fun I' o => I = I' ∧ ∃ v : Int32, o = some (.int v) ∧ v.toInt = cnP (rkP X (a : Int)) (X 27 35).toInt.toNat + 1)) 11 [(0, .ref (ad G 0)), (1, .ref (ad G (oj R 17 a))), (2, .int t), (3, .int s), (4, .int k)] [] 0 0 n sh I L R := by
  intro f
  induction f with
  | zero => intro m k s hm hk hs hf; omega
  | succ f ih =>
    intro m k s hm hk hs hf
    have hk1 : (I 0 8).toInt = (X 27 35).toInt := by rw [hKK.1]
    have hk2 := hKK.2.1
    have hcb := cnP_b (rkP X (a : Int)) m
    refine V_iload (pc := 11) 4 dX11_rankOf_11 rfl ?_
    refine V_aload_n (pc := 13) 0 dX11_rankOf_13 rfl rfl ?_
    refine V_gI (pc := 14) (v := (I 0 8)) rfl fk_X11_214_11 dX11_rankOf_14 (wN hw (by decide)) (wS1 hw (by decide) rfl) ?_
    refine V_icmp_ge (pc := 17) (tgt := 69) dX11_rankOf_17 (by decide) (fun c_17_1 => ?_) (fun c_17_1 => ?_)
    · have c_17_1 : (I 0 8).toInt ≤ k.toInt := c_17_1
      refine V_iload_n (pc := 69) 3 dX11_rankOf_69 rfl rfl ?_
      refine V_iret (pc := 70) rfl rfl dX11_rankOf_70 (by omega) (by omega) ?_
      refine ⟨rfl, rfl, rfl, rfl, rfl, ?_⟩
      have e1 : (X 27 35).toInt.toNat = m := by omega
      rw [e1]
      exact ⟨_, rfl, by omega⟩
    · have c_17_1 : k.toInt < (I 0 8).toInt := c_17_1
      refine V_aload_n (pc := 20) 0 dX11_rankOf_20 rfl rfl ?_
      refine V_aload_n (pc := 21) 0 dX11_rankOf_21 rfl rfl ?_
      refine V_getR (pc := 22) (j := 17) fk_X11_46_11 (wR hw (i := 0) (k := 7) (j := 17) rfl) dX11_rankOf_22 (wN hw (by decide)) (wS1 hw (by decide) rfl) ?_
      refine V_iload (pc := 25) 4 dX11_rankOf_25 rfl ?_
      refine V_aalk (pc := 27) (t := 4) (N := 8) (k := m) (j := (oj R 17 m)) dX11_rankOf_27 (wN hw (by decide)) (wS hw (by decide) rfl) (by decide) (by decide) hk (by omega) (hKK.2.2.1 m (by omega)).1 ?_
      refine V_callV (pc := 28) (As := [.ref (ad G (oj R 17 m))]) (st := []) (c_X11_totalOf G X m (oj R 17 m) hw hC (hKK.2.2.1 m (by omega)) hY hV h0e) mf_X11_totalOf ml_X11_242 iv_X11_totalOf (wN hw (by decide)) (wS1 hw (by decide) rfl) (by decide) rfl dX11_rankOf_28 rfl rfl (by omega) (by omega) (by omega) (Nat.le_of_ble_eq_true rfl) (fun r_28_2 n_28_2 sh_28_2 I_28_2 L_28_2 R_28_2 hq_28_2 => ?_)
      obtain ⟨rfl, rfl, rfl, rfl, rfl, v_28_2, rfl, hv_28_2⟩ := hq_28_2
      refine V_istore (pc := 31) (lo' := [(0, .ref (ad G 0)), (1, .ref (ad G (oj R 17 a))), (2, .int t), (3, .int s), (4, .int k), (5, .int v_28_2)]) dX11_rankOf_31 (by decide) rfl ?_
      refine V_iload (pc := 33) 5 dX11_rankOf_33 rfl ?_
      refine V_iload_n (pc := 35) 2 dX11_rankOf_35 rfl rfl ?_
      refine V_icmp_lt (pc := 36) (tgt := 60) dX11_rankOf_36 (by decide) (fun c_36_3 => ?_) (fun c_36_3 => ?_)
      · have c_36_3 : v_28_2.toInt < t.toInt := c_36_3
        obtain ⟨x_60_4, e_60_4⟩ : ∃ y : Int32, y = s + (1) := ⟨_, rfl⟩
        have t_60_4 : x_60_4.toInt = s.toInt + 1 := addT e_60_4 rfl rfl (by omega) (by omega)
        refine V_iinc (pc := 60) (v := x_60_4) (lo' := [(0, .ref (ad G 0)), (1, .ref (ad G (oj R 17 a))), (2, .int t), (3, .int x_60_4), (4, .int k), (5, .int v_28_2)]) 3 dX11_rankOf_60 rfl e_60_4.symm (by decide) rfl ?_
        obtain ⟨x_63_5, e_63_5⟩ : ∃ y : Int32, y = k + (1) := ⟨_, rfl⟩
        have t_63_5 : x_63_5.toInt = k.toInt + 1 := addT e_63_5 rfl rfl (by omega) (by omega)
        refine V_iinc (pc := 63) (v := x_63_5) (lo' := [(0, .ref (ad G 0)), (1, .ref (ad G (oj R 17 a))), (2, .int t), (3, .int x_60_4), (4, .int x_63_5), (5, .int v_28_2)]) 4 dX11_rankOf_63 rfl e_63_5.symm (by decide) rfl ?_
        refine V_goto (pc := 66) (tgt := 11) dX11_rankOf_66 (by decide) ?_
        refine V_lo (pc := 11) (lo' := [(0, .ref (ad G 0)), (1, .ref (ad G (oj R 17 a))), (2, .int t), (3, .int x_60_4), (4, .int x_63_5)]) [0, 1, 2, 3, 4] rfl ?_
        exact ih (m + 1) x_63_5 x_60_4 (by omega) (by omega) (by unfold cnP; first | (rw [pIf_pos (by unfold rkP betP; first | exact ⟨fun q => by (have q1 : m = a := (by omega)); subst q1; omega, Or.inl (by omega)⟩ | exact ⟨fun q => by (have q1 : m = a := (by omega)); subst q1; rcases (by assumption : (_ ∧ _) ∨ (_ ∧ _)) with z | z <;> omega, Or.inr ⟨by omega, by assumption⟩⟩)]; omega) | (rw [pIf_neg (fun z => by unfold rkP betP at z; rcases z with ⟨z0, z1 | ⟨z1, z2⟩⟩ <;> first | omega | exact absurd z2 (by assumption))]; omega)) (by omega)
      · have c_36_3 : t.toInt ≤ v_28_2.toInt := c_36_3
        refine V_iload (pc := 39) 5 dX11_rankOf_39 rfl ?_
        refine V_iload_n (pc := 41) 2 dX11_rankOf_41 rfl rfl ?_
        refine V_icmp_ne (pc := 42) (tgt := 63) dX11_rankOf_42 (by decide) (fun c_42_6 => ?_) (fun c_42_6 => ?_)
        · have c_42_6 : v_28_2.toInt ≠ t.toInt := c_42_6
          obtain ⟨x_63_7, e_63_7⟩ : ∃ y : Int32, y = k + (1) := ⟨_, rfl⟩
          have t_63_7 : x_63_7.toInt = k.toInt + 1 := addT e_63_7 rfl rfl (by omega) (by omega)
          refine V_iinc (pc := 63) (v := x_63_7) (lo' := [(0, .ref (ad G 0)), (1, .ref (ad G (oj R 17 a))), (2, .int t), (3, .int s), (4, .int x_63_7), (5, .int v_28_2)]) 4 dX11_rankOf_63 rfl e_63_7.symm (by decide) rfl ?_
          refine V_goto (pc := 66) (tgt := 11) dX11_rankOf_66 (by decide) ?_
          refine V_lo (pc := 11) (lo' := [(0, .ref (ad G 0)), (1, .ref (ad G (oj R 17 a))), (2, .int t), (3, .int s), (4, .int x_63_7)]) [0, 1, 2, 3, 4] rfl ?_
          exact ih (m + 1) x_63_7 s (by omega) (by omega) (by unfold cnP; first | (rw [pIf_pos (by unfold rkP betP; first | exact ⟨fun q => by (have q1 : m = a := (by omega)); subst q1; omega, Or.inl (by omega)⟩ | exact ⟨fun q => by (have q1 : m = a := (by omega)); subst q1; rcases (by assumption : (_ ∧ _) ∨ (_ ∧ _)) with z | z <;> omega, Or.inr ⟨by omega, by assumption⟩⟩)]; omega) | (rw [pIf_neg (fun z => by unfold rkP betP at z; rcases z with ⟨z0, z1 | ⟨z1, z2⟩⟩ <;> first | omega | exact absurd z2 (by assumption))]; omega)) (by omega)
        · have c_42_6 : v_28_2.toInt = t.toInt := c_42_6
          refine V_aload_n (pc := 45) 0 dX11_rankOf_45 rfl rfl ?_
          refine V_aload_n (pc := 46) 0 dX11_rankOf_46 rfl rfl ?_
          refine V_getR (pc := 47) (j := 17) fk_X11_46_11 (wR hw (i := 0) (k := 7) (j := 17) rfl) dX11_rankOf_47 (wN hw (by decide)) (wS1 hw (by decide) rfl) ?_
          refine V_iload (pc := 50) 4 dX11_rankOf_50 rfl ?_
          refine V_aalk (pc := 52) (t := 4) (N := 8) (k := m) (j := (oj R 17 m)) dX11_rankOf_52 (wN hw (by decide)) (wS hw (by decide) rfl) (by decide) (by decide) hk (by omega) (hKK.2.2.1 m (by omega)).1 ?_
          refine V_aload_n (pc := 53) 1 dX11_rankOf_53 rfl rfl ?_
          refine V_callV (pc := 54) (As := [.ref (ad G (oj R 17 m)), .ref (ad G (oj R 17 a))]) (st := []) (c_X11_isBetterOfTie G X m (oj R 17 m) a (oj R 17 a) hw hC (hKK.2.2.1 m (by omega)) (hKK.2.2.1 a (by omega)) hY hV h0e) mf_X11_isBetterOfTie ml_X11_423 iv_X11_isBetterOfTie (wN hw (by decide)) (wS1 hw (by decide) rfl) (by decide) rfl dX11_rankOf_54 rfl rfl (by omega) (by omega) (by omega) (Nat.le_of_ble_eq_true rfl) (fun r_54_8 n_54_8 sh_54_8 I_54_8 L_54_8 R_54_8 hq_54_8 => ?_)
          obtain ⟨rfl, rfl, rfl, rfl, rfl, hq_54_8⟩ := hq_54_8
          rcases hq_54_8 with ⟨c_54_8, rfl⟩ | ⟨c_54_8, rfl⟩
          · have c_54_8 := c_54_8
            refine V_if_eq_f (pc := 57) (tgt := 63) dX11_rankOf_57 (by decide) (by decide) ?_
            obtain ⟨x_60_9, e_60_9⟩ : ∃ y : Int32, y = s + (1) := ⟨_, rfl⟩
            have t_60_9 : x_60_9.toInt = s.toInt + 1 := addT e_60_9 rfl rfl (by omega) (by omega)
            refine V_iinc (pc := 60) (v := x_60_9) (lo' := [(0, .ref (ad G 0)), (1, .ref (ad G (oj R 17 a))), (2, .int t), (3, .int x_60_9), (4, .int k), (5, .int v_28_2)]) 3 dX11_rankOf_60 rfl e_60_9.symm (by decide) rfl ?_
            obtain ⟨x_63_10, e_63_10⟩ : ∃ y : Int32, y = k + (1) := ⟨_, rfl⟩
            have t_63_10 : x_63_10.toInt = k.toInt + 1 := addT e_63_10 rfl rfl (by omega) (by omega)
            refine V_iinc (pc := 63) (v := x_63_10) (lo' := [(0, .ref (ad G 0)), (1, .ref (ad G (oj R 17 a))), (2, .int t), (3, .int x_60_9), (4, .int x_63_10), (5, .int v_28_2)]) 4 dX11_rankOf_63 rfl e_63_10.symm (by decide) rfl ?_
            refine V_goto (pc := 66) (tgt := 11) dX11_rankOf_66 (by decide) ?_
            refine V_lo (pc := 11) (lo' := [(0, .ref (ad G 0)), (1, .ref (ad G (oj R 17 a))), (2, .int t), (3, .int x_60_9), (4, .int x_63_10)]) [0, 1, 2, 3, 4] rfl ?_
            exact ih (m + 1) x_63_10 x_60_9 (by omega) (by omega) (by unfold cnP; first | (rw [pIf_pos (by unfold rkP betP; first | exact ⟨fun q => by (have q1 : m = a := (by omega)); subst q1; omega, Or.inl (by omega)⟩ | exact ⟨fun q => by (have q1 : m = a := (by omega)); subst q1; rcases (by assumption : (_ ∧ _) ∨ (_ ∧ _)) with z | z <;> omega, Or.inr ⟨by omega, by assumption⟩⟩)]; omega) | (rw [pIf_neg (fun z => by unfold rkP betP at z; rcases z with ⟨z0, z1 | ⟨z1, z2⟩⟩ <;> first | omega | exact absurd z2 (by assumption))]; omega)) (by omega)
          · have c_54_8 := c_54_8
            refine V_if_eq_t (pc := 57) (tgt := 63) dX11_rankOf_57 (by decide) (by decide) ?_
            obtain ⟨x_63_11, e_63_11⟩ : ∃ y : Int32, y = k + (1) := ⟨_, rfl⟩
            have t_63_11 : x_63_11.toInt = k.toInt + 1 := addT e_63_11 rfl rfl (by omega) (by omega)
            refine V_iinc (pc := 63) (v := x_63_11) (lo' := [(0, .ref (ad G 0)), (1, .ref (ad G (oj R 17 a))), (2, .int t), (3, .int s), (4, .int x_63_11), (5, .int v_28_2)]) 4 dX11_rankOf_63 rfl e_63_11.symm (by decide) rfl ?_
            refine V_goto (pc := 66) (tgt := 11) dX11_rankOf_66 (by decide) ?_
            refine V_lo (pc := 11) (lo' := [(0, .ref (ad G 0)), (1, .ref (ad G (oj R 17 a))), (2, .int t), (3, .int s), (4, .int x_63_11)]) [0, 1, 2, 3, 4] rfl ?_
            exact ih (m + 1) x_63_11 s (by omega) (by omega) (by unfold cnP; first | (rw [pIf_pos (by unfold rkP betP; first | exact ⟨fun q => by (have q1 : m = a := (by omega)); subst q1; omega, Or.inl (by omega)⟩ | exact ⟨fun q => by (have q1 : m = a := (by omega)); subst q1; rcases (by assumption : (_ ∧ _) ∨ (_ ∧ _)) with z | z <;> omega, Or.inr ⟨by omega, by assumption⟩⟩)]; omega) | (rw [pIf_neg (fun z => by unfold rkP betP at z; rcases z with ⟨z0, z1 | ⟨z1, z2⟩⟩ <;> first | omega | exact absurd z2 (by assumption))]; omega)) (by omega)
set_option maxRecDepth 100000 in
set_option maxHeartbeats 4000000 in
theorem c_X11_rankOf (G : vG) {n : Nat} {sh : vS} {I : vI} {L : vL} {R : vR} (X : vI) (a : Nat) (hw : WF n sh R) (hC : JC n sh I L R X) (hKK : JK n sh I R X) (ha : (a : Int) < (X 27 35).toInt) (hY : JW I X) (hV : JV X) (h0e : ∃ k, k < (X 27 27).toInt.toNat ∧ due0P X k) : CT G yX11_rankOf cX11_rankOf 6 (some .int) 7 0 0 [.ref (ad G 0), .ref (ad G (oj R 17 a))] n sh I L R (PI n sh L R (fun I' o => I = I' ∧ ∃ v : Int32, o = some (.int v) ∧ v.toInt = cnP (rkP X (a : Int)) (X 27 35).toInt.toNat + 1)) := by
  refine CT_of (own := RX11) (ini := false) (lo := [(0, .ref (ad G 0)), (1, .ref (ad G (oj R 17 a)))]) mf_X11_rankOf (Nat.le_of_ble_eq_true rfl) rfl (fun h => by first | rfl | cases h) rfl ?_
  have hk2 := hKK.2.1
  refine V_aload_n (pc := 0) 0 dX11_rankOf_0 rfl rfl ?_
  refine V_aload_n (pc := 1) 1 dX11_rankOf_1 rfl rfl ?_
  refine V_callV (pc := 2) (As := [.ref (ad G (oj R 17 a))]) (st := []) (c_X11_totalOf G X a (oj R 17 a) hw hC (hKK.2.2.1 a (by omega)) hY hV h0e) mf_X11_totalOf ml_X11_242 iv_X11_totalOf (wN hw (by decide)) (wS1 hw (by decide) rfl) (by decide) rfl dX11_rankOf_2 rfl rfl (by omega) (by omega) (by omega) (Nat.le_of_ble_eq_true rfl) (fun r_2_1 n_2_1 sh_2_1 I_2_1 L_2_1 R_2_1 hq_2_1 => ?_)
  obtain ⟨rfl, rfl, rfl, rfl, rfl, v_2_1, rfl, hv_2_1⟩ := hq_2_1
  refine V_istore_n (pc := 5) (lo' := [(0, .ref (ad G 0)), (1, .ref (ad G (oj R 17 a))), (2, .int v_2_1)]) dX11_rankOf_5 rfl (by decide) rfl ?_
  refine V_iconst (pc := 6) (v := 1) dX11_rankOf_6 rfl ?_
  refine V_istore_n (pc := 7) (lo' := [(0, .ref (ad G 0)), (1, .ref (ad G (oj R 17 a))), (2, .int v_2_1), (3, .int 1)]) dX11_rankOf_7 rfl (by decide) rfl ?_
  refine V_iconst (pc := 8) (v := 0) dX11_rankOf_8 rfl ?_
  refine V_istore (pc := 9) (lo' := [(0, .ref (ad G 0)), (1, .ref (ad G (oj R 17 a))), (2, .int v_2_1), (3, .int 1), (4, .int 0)]) dX11_rankOf_9 (by decide) rfl ?_
  exact l_X11_rankOf G X a v_2_1 hw hC hKK ha hY hV h0e (by omega) ((X 27 35).toInt.toNat + 1) 0 0 1 (by omega) rfl rfl (by omega)
