set_option maxRecDepth 100000 in
set_option maxHeartbeats 4000000 in
theorem l_X10_speedFrom (G : vG) {n : Nat} {sh : vS} {I : vI} {L : vL} {R : vR} (X : vI) (p : Int32) (hw : WF n sh R) (h27 : 0 ≤ (X 27 27).toInt ∧ (X 27 27).toInt ≤ 8) (hc6 : I 11 6 = X 27 27) (e45 : ∀ k, I 14 k = X 45 k) (e46 : ∀ k, I 15 k = X 46 k) : ∀ (f m : Nat) (k : Int32) (a : Int32) (hm : (m : Int) ≤ (X 27 27).toInt) (hk : k.toInt = (m : Int)) (ha : a = nwF X p.toInt m) (hf : (X 27 27).toInt < (m : Int) + f), V G RX10 cX10_speedFrom (some .int) false 0 0 0 4 (PI n sh L R (fun I' o => I = I' ∧ o = some (.int (nwF X p.toInt (X 27 27).toInt.toNat)))) 4 [(0, .ref (ad G 11)), (1, .int p), (2, .int a), (3, .int k)] [] 0 0 n sh I L R := by
  intro f
  induction f with
  | zero => intro m k a hm hk ha hf; omega
  | succ f ih =>
    intro m k a hm hk ha hf
    have hc6t : (I 11 6).toInt = (X 27 27).toInt := by rw [hc6]
    refine V_iload_n (pc := 4) 3 dX10_speedFrom_4 rfl rfl ?_
    refine V_aload_n (pc := 5) 0 dX10_speedFrom_5 rfl rfl ?_
    refine V_gI (pc := 6) (v := (I 11 6)) rfl fk_X10_31_10 dX10_speedFrom_6 (wN hw (by decide)) (wS1 hw (by decide) rfl) ?_
    refine V_icmp_ge (pc := 9) (tgt := 35) dX10_speedFrom_9 (by decide) (fun c_9_1 => ?_) (fun c_9_1 => ?_)
    · have c_9_1 : (I 11 6).toInt ≤ k.toInt := c_9_1
      refine V_iload_n (pc := 35) 2 dX10_speedFrom_35 rfl rfl ?_
      refine V_iret (pc := 36) rfl rfl dX10_speedFrom_36 (by omega) (by omega) ?_
      refine ⟨rfl, rfl, rfl, rfl, rfl, ?_⟩
      have e1 : (X 27 27).toInt.toNat = m := by omega
      rw [e1, ha]
    · have c_9_1 : k.toInt < (I 11 6).toInt := c_9_1
      refine V_aload_n (pc := 12) 0 dX10_speedFrom_12 rfl rfl ?_
      refine V_getR (pc := 13) (j := 14) fk_X10_18_10 (wR hw (i := 11) (k := 4) (j := 14) rfl) dX10_speedFrom_13 (wN hw (by decide)) (wS1 hw (by decide) rfl) ?_
      refine V_iload_n (pc := 16) 3 dX10_speedFrom_16 rfl rfl ?_
      refine V_ia (pc := 17) (k := m) (v := (I 14 m)) rfl dX10_speedFrom_17 (wN hw (by decide)) (wS hw (by decide) rfl) hk (by omega) ?_
      refine V_iload_n (pc := 18) 1 dX10_speedFrom_18 rfl rfl ?_
      refine V_icmp_ne (pc := 19) (tgt := 29) dX10_speedFrom_19 (by decide) (fun c_19_2 => ?_) (fun c_19_2 => ?_)
      · have c_19_2 : (I 14 m).toInt ≠ p.toInt := c_19_2
        obtain ⟨x_29_3, e_29_3⟩ : ∃ y : Int32, y = k + (1) := ⟨_, rfl⟩
        have t_29_3 : x_29_3.toInt = k.toInt + 1 := addT e_29_3 rfl rfl (by omega) (by omega)
        refine V_iinc (pc := 29) (v := x_29_3) (lo' := [(0, .ref (ad G 11)), (1, .int p), (2, .int a), (3, .int x_29_3)]) 3 dX10_speedFrom_29 rfl e_29_3.symm (by decide) rfl ?_
        refine V_goto (pc := 32) (tgt := 4) dX10_speedFrom_32 (by decide) ?_
        exact ih (m + 1) x_29_3 _ (by omega) (by omega) (by first | (rw [e46]; exact nwF_t (by rw [← e45]; omega)) | exact nwF_n ha (by rw [← e45]; omega)) (by omega)
      · have c_19_2 : (I 14 m).toInt = p.toInt := c_19_2
        refine V_aload_n (pc := 22) 0 dX10_speedFrom_22 rfl rfl ?_
        refine V_getR (pc := 23) (j := 15) fk_X10_21_10 (wR hw (i := 11) (k := 5) (j := 15) rfl) dX10_speedFrom_23 (wN hw (by decide)) (wS1 hw (by decide) rfl) ?_
        refine V_iload_n (pc := 26) 3 dX10_speedFrom_26 rfl rfl ?_
        refine V_ia (pc := 27) (k := m) (v := (I 15 m)) rfl dX10_speedFrom_27 (wN hw (by decide)) (wS hw (by decide) rfl) hk (by omega) ?_
        refine V_istore_n (pc := 28) (lo' := [(0, .ref (ad G 11)), (1, .int p), (2, .int (I 15 m)), (3, .int k)]) dX10_speedFrom_28 rfl (by decide) rfl ?_
        obtain ⟨x_29_4, e_29_4⟩ : ∃ y : Int32, y = k + (1) := ⟨_, rfl⟩
        have t_29_4 : x_29_4.toInt = k.toInt + 1 := addT e_29_4 rfl rfl (by omega) (by omega)
        refine V_iinc (pc := 29) (v := x_29_4) (lo' := [(0, .ref (ad G 11)), (1, .int p), (2, .int (I 15 m)), (3, .int x_29_4)]) 3 dX10_speedFrom_29 rfl e_29_4.symm (by decide) rfl ?_
        refine V_goto (pc := 32) (tgt := 4) dX10_speedFrom_32 (by decide) ?_
        exact ih (m + 1) x_29_4 _ (by omega) (by omega) (by first | (rw [e46]; exact nwF_t (by rw [← e45]; omega)) | exact nwF_n ha (by rw [← e45]; omega)) (by omega)
set_option maxRecDepth 100000 in
set_option maxHeartbeats 4000000 in
theorem c_X10_speedFrom (G : vG) {n : Nat} {sh : vS} {I : vI} {L : vL} {R : vR} (X : vI) (p : Int32) (hw : WF n sh R) (h27 : 0 ≤ (X 27 27).toInt ∧ (X 27 27).toInt ≤ 8) (hc6 : I 11 6 = X 27 27) (e45 : ∀ k, I 14 k = X 45 k) (e46 : ∀ k, I 15 k = X 46 k) : CT G yX10_speedFrom cX10_speedFrom 4 (some .int) 0 0 0 [.ref (ad G 11), .int p] n sh I L R (PI n sh L R (fun I' o => I = I' ∧ o = some (.int (nwF X p.toInt (X 27 27).toInt.toNat)))) := by
  refine CT_of (own := RX10) (ini := false) (lo := [(0, .ref (ad G 11)), (1, .int p)]) mf_X10_speedFrom (Nat.le_of_ble_eq_true rfl) rfl (fun h => by first | rfl | cases h) rfl ?_
  refine V_iconst (pc := 0) (v := 0) dX10_speedFrom_0 rfl ?_
  refine V_istore_n (pc := 1) (lo' := [(0, .ref (ad G 11)), (1, .int p), (2, .int 0)]) dX10_speedFrom_1 rfl (by decide) rfl ?_
  refine V_iconst (pc := 2) (v := 0) dX10_speedFrom_2 rfl ?_
  refine V_istore_n (pc := 3) (lo' := [(0, .ref (ad G 11)), (1, .int p), (2, .int 0), (3, .int 0)]) dX10_speedFrom_3 rfl (by decide) rfl ?_
  exact l_X10_speedFrom G X p hw h27 hc6 e45 e46 ((X 27 27).toInt.toNat + 1) 0 0 0 (by omega) rfl rfl (by omega)
set_option maxRecDepth 100000 in
set_option maxHeartbeats 4000000 in
theorem c_X10_hasFirstSpeed (G : vG) {n : Nat} {sh : vS} {I : vI} {L : vL} {R : vR} (X : vI) (hw : WF n sh R) (h27 : 0 ≤ (X 27 27).toInt ∧ (X 27 27).toInt ≤ 8) (hc6 : I 11 6 = X 27 27) (e45 : ∀ k, I 14 k = X 45 k) (e46 : ∀ k, I 15 k = X 46 k) (hv : ∀ k, k < (X 27 27).toInt.toNat → 1 ≤ (X 46 k).toInt ∧ (X 46 k).toInt ≤ 3000) : CT G yX10_hasFirstSpeed cX10_hasFirstSpeed 1 (some .boolean) 1 0 0 [.ref (ad G 11)] n sh I L R (PI n sh L R (fun I' o => I = I' ∧ rb o (∃ k, k < (X 27 27).toInt.toNat ∧ due0P X k))) := by
  refine CT_of (own := RX10) (ini := false) (lo := [(0, .ref (ad G 11))]) mf_X10_hasFirstSpeed (Nat.le_of_ble_eq_true rfl) rfl (fun h => by first | rfl | cases h) rfl ?_
  refine V_aload_n (pc := 0) 0 dX10_hasFirstSpeed_0 rfl rfl ?_
  refine V_iconst (pc := 1) (v := 0) dX10_hasFirstSpeed_1 rfl ?_
  refine V_callV (pc := 2) (As := [.int 0]) (st := []) (c_X10_speedFrom G X 0 hw (by assumption) (by assumption) (by assumption) (by assumption)) mf_X10_speedFrom ml_X10_34 iv_X10_speedFrom (wN hw (by decide)) (wS1 hw (by decide) rfl) (by decide) rfl dX10_hasFirstSpeed_2 rfl rfl (by omega) (by omega) (by omega) (Nat.le_of_ble_eq_true rfl) (fun r_2_1 n_2_1 sh_2_1 I_2_1 L_2_1 R_2_1 hq_2_1 => ?_)
  obtain ⟨rfl, rfl, rfl, rfl, rfl, rfl⟩ := hq_2_1
  refine V_if_le (pc := 5) (tgt := 12) dX10_hasFirstSpeed_5 (by decide) (fun c_5_2 => ?_) (fun c_5_2 => ?_)
  · have c_5_2 : (nwF X 0 (X 27 27).toInt.toNat).toInt ≤ 0 := c_5_2
    refine V_iconst (pc := 12) (v := 0) dX10_hasFirstSpeed_12 rfl ?_
    refine V_iret (pc := 13) rfl rfl dX10_hasFirstSpeed_13 (by omega) (by omega) ?_
    refine ⟨rfl, rfl, rfl, rfl, rfl, ?_⟩
    refine Or.inr ⟨fun z => ?_, rfl⟩
    obtain ⟨j1, j2, j3, j4⟩ := nwF_c X 0 _ z
    have j5 := hv j1 j2
    rw [← j4] at j5
    omega
  · have c_5_2 : 0 < (nwF X 0 (X 27 27).toInt.toNat).toInt := c_5_2
    refine V_iconst (pc := 8) (v := 1) dX10_hasFirstSpeed_8 rfl ?_
    refine V_goto (pc := 9) (tgt := 13) dX10_hasFirstSpeed_9 (by decide) ?_
    refine V_iret (pc := 13) rfl rfl dX10_hasFirstSpeed_13 (by omega) (by omega) ?_
    refine ⟨rfl, rfl, rfl, rfl, rfl, ?_⟩
    refine Or.inl ⟨?_, rfl⟩
    refine Classical.byContradiction fun z => ?_
    have z1 := nwF_0 (X := X) (a := 0) (X 27 27).toInt.toNat (fun k hk q => z ⟨k, hk, q⟩)
    have z2 : (nwF X 0 (X 27 27).toInt.toNat).toInt = 0 := by rw [z1]; rfl
    omega
set_option maxRecDepth 100000 in
set_option maxHeartbeats 4000000 in
theorem l_X10_endOfStretch (G : vG) {n : Nat} {sh : vS} {I : vI} {L : vL} {R : vR} (X : vI) (a p : Int32) (hw : WF n sh R) (h27 : 0 ≤ (X 27 27).toInt ∧ (X 27 27).toInt ≤ 8) (hc6 : I 11 6 = X 27 27) (e45 : ∀ k, I 14 k = X 45 k) (e46 : ∀ k, I 15 k = X 46 k) : ∀ (f m : Nat) (k : Int32) (x : Int32) (hm : (m : Int) ≤ (X 27 27).toInt) (hk : k.toInt = (m : Int)) (hx : x = nxF X a.toInt p m) (hf : (X 27 27).toInt < (m : Int) + f), V G RX10 cX10_endOfStretch (some .int) false 0 0 0 5 (PI n sh L R (fun I' o => I = I' ∧ o = some (.int (nxF X a.toInt p (X 27 27).toInt.toNat)))) 5 [(0, .ref (ad G 11)), (1, .int a), (2, .int p), (3, .int x), (4, .int k)] [] 0 0 n sh I L R := by
  intro f
  induction f with
  | zero => intro m k x hm hk hx hf; omega
  | succ f ih =>
    intro m k x hm hk hx hf
    have hc6t : (I 11 6).toInt = (X 27 27).toInt := by rw [hc6]
    refine V_iload (pc := 5) 4 dX10_endOfStretch_5 rfl ?_
    refine V_aload_n (pc := 7) 0 dX10_endOfStretch_7 rfl rfl ?_
    refine V_gI (pc := 8) (v := (I 11 6)) rfl fk_X10_31_10 dX10_endOfStretch_8 (wN hw (by decide)) (wS1 hw (by decide) rfl) ?_
    refine V_icmp_ge (pc := 11) (tgt := 50) dX10_endOfStretch_11 (by decide) (fun c_11_1 => ?_) (fun c_11_1 => ?_)
    · have c_11_1 : (I 11 6).toInt ≤ k.toInt := c_11_1
      refine V_iload_n (pc := 50) 3 dX10_endOfStretch_50 rfl rfl ?_
      refine V_iret (pc := 51) rfl rfl dX10_endOfStretch_51 (by omega) (by omega) ?_
      refine ⟨rfl, rfl, rfl, rfl, rfl, ?_⟩
      have e1 : (X 27 27).toInt.toNat = m := by omega
      rw [e1, hx]
    · have c_11_1 : k.toInt < (I 11 6).toInt := c_11_1
      refine V_aload_n (pc := 14) 0 dX10_endOfStretch_14 rfl rfl ?_
      refine V_getR (pc := 15) (j := 14) fk_X10_18_10 (wR hw (i := 11) (k := 4) (j := 14) rfl) dX10_endOfStretch_15 (wN hw (by decide)) (wS1 hw (by decide) rfl) ?_
      refine V_iload (pc := 18) 4 dX10_endOfStretch_18 rfl ?_
      refine V_ia (pc := 20) (k := m) (v := (I 14 m)) rfl dX10_endOfStretch_20 (wN hw (by decide)) (wS hw (by decide) rfl) hk (by omega) ?_
      refine V_iload_n (pc := 21) 1 dX10_endOfStretch_21 rfl rfl ?_
      refine V_icmp_le (pc := 22) (tgt := 44) dX10_endOfStretch_22 (by decide) (fun c_22_2 => ?_) (fun c_22_2 => ?_)
      · have c_22_2 : (I 14 m).toInt ≤ a.toInt := c_22_2
        obtain ⟨x_44_3, e_44_3⟩ : ∃ y : Int32, y = k + (1) := ⟨_, rfl⟩
        have t_44_3 : x_44_3.toInt = k.toInt + 1 := addT e_44_3 rfl rfl (by omega) (by omega)
        refine V_iinc (pc := 44) (v := x_44_3) (lo' := [(0, .ref (ad G 11)), (1, .int a), (2, .int p), (3, .int x), (4, .int x_44_3)]) 4 dX10_endOfStretch_44 rfl e_44_3.symm (by decide) rfl ?_
        refine V_goto (pc := 47) (tgt := 5) dX10_endOfStretch_47 (by decide) ?_
        exact ih (m + 1) x_44_3 _ (by omega) (by omega) (by first | (rw [e45]; exact nxF_t hx (by rw [← e45]; omega) (by rw [← e45]; omega)) | exact nxF_n hx (by rw [← e45]; omega)) (by omega)
      · have c_22_2 : a.toInt < (I 14 m).toInt := c_22_2
        refine V_aload_n (pc := 25) 0 dX10_endOfStretch_25 rfl rfl ?_
        refine V_getR (pc := 26) (j := 14) fk_X10_18_10 (wR hw (i := 11) (k := 4) (j := 14) rfl) dX10_endOfStretch_26 (wN hw (by decide)) (wS1 hw (by decide) rfl) ?_
        refine V_iload (pc := 29) 4 dX10_endOfStretch_29 rfl ?_
        refine V_ia (pc := 31) (k := m) (v := (I 14 m)) rfl dX10_endOfStretch_31 (wN hw (by decide)) (wS hw (by decide) rfl) hk (by omega) ?_
        refine V_iload_n (pc := 32) 3 dX10_endOfStretch_32 rfl rfl ?_
        refine V_icmp_ge (pc := 33) (tgt := 44) dX10_endOfStretch_33 (by decide) (fun c_33_4 => ?_) (fun c_33_4 => ?_)
        · have c_33_4 : x.toInt ≤ (I 14 m).toInt := c_33_4
          obtain ⟨x_44_5, e_44_5⟩ : ∃ y : Int32, y = k + (1) := ⟨_, rfl⟩
          have t_44_5 : x_44_5.toInt = k.toInt + 1 := addT e_44_5 rfl rfl (by omega) (by omega)
          refine V_iinc (pc := 44) (v := x_44_5) (lo' := [(0, .ref (ad G 11)), (1, .int a), (2, .int p), (3, .int x), (4, .int x_44_5)]) 4 dX10_endOfStretch_44 rfl e_44_5.symm (by decide) rfl ?_
          refine V_goto (pc := 47) (tgt := 5) dX10_endOfStretch_47 (by decide) ?_
          exact ih (m + 1) x_44_5 _ (by omega) (by omega) (by first | (rw [e45]; exact nxF_t hx (by rw [← e45]; omega) (by rw [← e45]; omega)) | exact nxF_n hx (by rw [← e45]; omega)) (by omega)
        · have c_33_4 : (I 14 m).toInt < x.toInt := c_33_4
          refine V_aload_n (pc := 36) 0 dX10_endOfStretch_36 rfl rfl ?_
          refine V_getR (pc := 37) (j := 14) fk_X10_18_10 (wR hw (i := 11) (k := 4) (j := 14) rfl) dX10_endOfStretch_37 (wN hw (by decide)) (wS1 hw (by decide) rfl) ?_
          refine V_iload (pc := 40) 4 dX10_endOfStretch_40 rfl ?_
          refine V_ia (pc := 42) (k := m) (v := (I 14 m)) rfl dX10_endOfStretch_42 (wN hw (by decide)) (wS hw (by decide) rfl) hk (by omega) ?_
          refine V_istore_n (pc := 43) (lo' := [(0, .ref (ad G 11)), (1, .int a), (2, .int p), (3, .int (I 14 m)), (4, .int k)]) dX10_endOfStretch_43 rfl (by decide) rfl ?_
          obtain ⟨x_44_6, e_44_6⟩ : ∃ y : Int32, y = k + (1) := ⟨_, rfl⟩
          have t_44_6 : x_44_6.toInt = k.toInt + 1 := addT e_44_6 rfl rfl (by omega) (by omega)
          refine V_iinc (pc := 44) (v := x_44_6) (lo' := [(0, .ref (ad G 11)), (1, .int a), (2, .int p), (3, .int (I 14 m)), (4, .int x_44_6)]) 4 dX10_endOfStretch_44 rfl e_44_6.symm (by decide) rfl ?_
          refine V_goto (pc := 47) (tgt := 5) dX10_endOfStretch_47 (by decide) ?_
          exact ih (m + 1) x_44_6 _ (by omega) (by omega) (by first | (rw [e45]; exact nxF_t hx (by rw [← e45]; omega) (by rw [← e45]; omega)) | exact nxF_n hx (by rw [← e45]; omega)) (by omega)
set_option maxRecDepth 100000 in
set_option maxHeartbeats 4000000 in
theorem c_X10_endOfStretch (G : vG) {n : Nat} {sh : vS} {I : vI} {L : vL} {R : vR} (X : vI) (a p : Int32) (hw : WF n sh R) (h27 : 0 ≤ (X 27 27).toInt ∧ (X 27 27).toInt ≤ 8) (hc6 : I 11 6 = X 27 27) (e45 : ∀ k, I 14 k = X 45 k) (e46 : ∀ k, I 15 k = X 46 k) : CT G yX10_endOfStretch cX10_endOfStretch 5 (some .int) 0 0 0 [.ref (ad G 11), .int a, .int p] n sh I L R (PI n sh L R (fun I' o => I = I' ∧ o = some (.int (nxF X a.toInt p (X 27 27).toInt.toNat)))) := by
  refine CT_of (own := RX10) (ini := false) (lo := [(0, .ref (ad G 11)), (1, .int a), (2, .int p)]) mf_X10_endOfStretch (Nat.le_of_ble_eq_true rfl) rfl (fun h => by first | rfl | cases h) rfl ?_
  refine V_iload_n (pc := 0) 2 dX10_endOfStretch_0 rfl rfl ?_
  refine V_istore_n (pc := 1) (lo' := [(0, .ref (ad G 11)), (1, .int a), (2, .int p), (3, .int p)]) dX10_endOfStretch_1 rfl (by decide) rfl ?_
  refine V_iconst (pc := 2) (v := 0) dX10_endOfStretch_2 rfl ?_
  refine V_istore (pc := 3) (lo' := [(0, .ref (ad G 11)), (1, .int a), (2, .int p), (3, .int p), (4, .int 0)]) dX10_endOfStretch_3 (by decide) rfl ?_
  exact l_X10_endOfStretch G X a p hw h27 hc6 e45 e46 ((X 27 27).toInt.toNat + 1) 0 0 p (by omega) rfl rfl (by omega)
set_option maxRecDepth 100000 in
set_option maxHeartbeats 4000000 in
theorem l_X10_dueAt (G : vG) {n : Nat} {sh : vS} {I : vI} {L : vL} {R : vR} (X : vI) (p : Int32) (hw : WF n sh R) (h27 : 0 ≤ (X 27 27).toInt ∧ (X 27 27).toInt ≤ 8) (hc6 : I 11 6 = X 27 27) (e45 : ∀ k, I 14 k = X 45 k) (e46 : ∀ k, I 15 k = X 46 k) (hv : ∀ k, k < (X 27 27).toInt.toNat → 1 ≤ (X 46 k).toInt ∧ (X 46 k).toInt ≤ 3000) (hp : 0 ≤ p.toInt ∧ p.toInt ≤ 200000) : ∀ (f : Nat) (a k : Int32) (s : Int64) (hk : k.toInt + (f : Int) = 8) (hk0 : 0 ≤ k.toInt) (hat : a.toInt < p.toInt → ∃ k, k < (X 27 27).toInt.toNat ∧ (X 45 k).toInt = a.toInt) (ha : 0 ≤ a.toInt ∧ a.toInt ≤ p.toInt) (hs : 0 ≤ s.toInt ∧ s.toInt ≤ 600 * a.toInt) (hT : s.toInt + dueF X p (f + 2) a.toInt = dueF X p 10 0) (hf : a.toInt < p.toInt → cntG X a.toInt (X 27 27).toInt.toNat + 1 ≤ f), V G RX10 cX10_dueAt (some .long) false 1 0 0 8 (PI n sh L R (fun I' o => I = I' ∧ ∃ v : Int64, o = some (.long v) ∧ (v.toInt = dueF X p 10 0 ∧ 0 ≤ v.toInt ∧ v.toInt ≤ 600 * p.toInt))) 8 [(0, .ref (ad G 11)), (1, .int p), (2, .long s), (4, .int a), (5, .int k)] [] 0 0 n sh I L R := by
  intro f
  induction f with
  | zero =>
    intro a k s hk hk0 hat ha hs hT hf
    rw [dueF_ge (f := 0 + 2) (a := a.toInt) (by omega)] at hT
    refine V_iload (pc := 8) 4 dX10_dueAt_8 rfl ?_
    refine V_bipush (pc := 10) (v := 8) dX10_dueAt_10 rfl ?_
    refine V_icmp_ge (pc := 12) (tgt := 70) dX10_dueAt_12 (by decide) (fun c_12_1 => ?_) (fun c_12_1 => ?_)
    · have c_12_1 : 8 ≤ k.toInt := c_12_1
      refine V_lload_n (pc := 70) 2 dX10_dueAt_70 rfl rfl ?_
      refine V_lret (pc := 71) rfl dX10_dueAt_71 (by omega) (by omega) ?_
      refine ⟨rfl, rfl, rfl, rfl, rfl, ?_⟩
      exact ⟨_, rfl, by omega, by omega, by omega⟩
    · have c_12_1 : k.toInt < 8 := c_12_1
      exfalso; omega
  | succ f ih =>
    intro a k s hk hk0 hat ha hs hT hf
    refine V_iload (pc := 8) 4 dX10_dueAt_8 rfl ?_
    refine V_bipush (pc := 10) (v := 8) dX10_dueAt_10 rfl ?_
    refine V_icmp_ge (pc := 12) (tgt := 70) dX10_dueAt_12 (by decide) (fun c_12_1 => ?_) (fun c_12_1 => ?_)
    · have c_12_1 : 8 ≤ k.toInt := c_12_1
      exfalso; omega
    · have c_12_1 : k.toInt < 8 := c_12_1
      refine V_iload (pc := 15) 3 dX10_dueAt_15 rfl ?_
      refine V_iload_n (pc := 17) 1 dX10_dueAt_17 rfl rfl ?_
      refine V_icmp_ge (pc := 18) (tgt := 70) dX10_dueAt_18 (by decide) (fun c_18_2 => ?_) (fun c_18_2 => ?_)
      · have c_18_2 : p.toInt ≤ a.toInt := c_18_2
        refine V_lload_n (pc := 70) 2 dX10_dueAt_70 rfl rfl ?_
        refine V_lret (pc := 71) rfl dX10_dueAt_71 (by omega) (by omega) ?_
        rw [dueF_ge (f := f + 1 + 2) (a := a.toInt) (by omega)] at hT
        refine ⟨rfl, rfl, rfl, rfl, rfl, ?_⟩
        exact ⟨_, rfl, by omega, by omega, by omega⟩
      · have c_18_2 : a.toInt < p.toInt := c_18_2
        obtain ⟨j1, j2, j3, j4⟩ := nwF_c X a.toInt _ (hat (by omega))
        have j5 := hv j1 j2
        rw [← j4] at j5
        obtain ⟨z1, z2, z3⟩ := nxF_c X a.toInt p (by omega) (X 27 27).toInt.toNat
        refine V_aload_n (pc := 21) 0 dX10_dueAt_21 rfl rfl ?_
        refine V_iload (pc := 22) 3 dX10_dueAt_22 rfl ?_
        refine V_iload_n (pc := 24) 1 dX10_dueAt_24 rfl rfl ?_
        refine V_callV (pc := 25) (As := [.int a, .int p]) (st := []) (c_X10_endOfStretch G X a p hw (by assumption) (by assumption) (by assumption) (by assumption)) mf_X10_endOfStretch ml_X10_38 iv_X10_endOfStretch (wN hw (by decide)) (wS1 hw (by decide) rfl) (by decide) rfl dX10_dueAt_25 rfl rfl (by omega) (by omega) (by omega) (Nat.le_of_ble_eq_true rfl) (fun r_25_3 n_25_3 sh_25_3 I_25_3 L_25_3 R_25_3 hq_25_3 => ?_)
        obtain ⟨rfl, rfl, rfl, rfl, rfl, rfl⟩ := hq_25_3
        refine V_istore (pc := 28) (lo' := [(0, .ref (ad G 11)), (1, .int p), (2, .long s), (4, .int a), (5, .int k), (6, .int (nxF X a.toInt p (X 27 27).toInt.toNat))]) dX10_dueAt_28 (by decide) rfl ?_
        refine V_aload_n (pc := 30) 0 dX10_dueAt_30 rfl rfl ?_
        refine V_iload (pc := 31) 3 dX10_dueAt_31 rfl ?_
        refine V_callV (pc := 33) (As := [.int a]) (st := []) (c_X10_speedFrom G X a hw (by assumption) (by assumption) (by assumption) (by assumption)) mf_X10_speedFrom ml_X10_34 iv_X10_speedFrom (wN hw (by decide)) (wS1 hw (by decide) rfl) (by decide) rfl dX10_dueAt_33 rfl rfl (by omega) (by omega) (by omega) (Nat.le_of_ble_eq_true rfl) (fun r_33_4 n_33_4 sh_33_4 I_33_4 L_33_4 R_33_4 hq_33_4 => ?_)
        obtain ⟨rfl, rfl, rfl, rfl, rfl, rfl⟩ := hq_33_4
        refine V_istore (pc := 36) (lo' := [(0, .ref (ad G 11)), (1, .int p), (2, .long s), (4, .int a), (5, .int k), (6, .int (nxF X a.toInt p (X 27 27).toInt.toNat)), (7, .int (nwF X a.toInt (X 27 27).toInt.toNat))]) dX10_dueAt_36 (by decide) rfl ?_
        refine V_iload (pc := 38) 6 dX10_dueAt_38 rfl ?_
        refine V_if_le (pc := 40) (tgt := 60) dX10_dueAt_40 (by decide) (fun c_40_5 => ?_) (fun c_40_5 => ?_)
        · have c_40_5 : (nwF X a.toInt (X 27 27).toInt.toNat).toInt ≤ 0 := c_40_5
          exfalso; omega
        · have c_40_5 : 0 < (nwF X a.toInt (X 27 27).toInt.toNat).toInt := c_40_5
          refine V_lload_n (pc := 43) 2 dX10_dueAt_43 rfl rfl ?_
          refine V_ldc2 (pc := 44) dX10_dueAt_44 kk_X10_42 ?_
          refine V_iload (pc := 47) 5 dX10_dueAt_47 rfl ?_
          refine V_iload (pc := 49) 3 dX10_dueAt_49 rfl ?_
          refine V_isub (pc := 51) dX10_dueAt_51 (fun x_51_6 e_51_6 => ?_)
          have t_51_6 : x_51_6.toInt = (nxF X a.toInt p (X 27 27).toInt.toNat).toInt - a.toInt := subT e_51_6 rfl rfl (by omega) (by omega)
          refine V_i2l (pc := 52) dX10_dueAt_52 (fun x_52_7 e_52_7 => ?_)
          have t_52_7 : x_52_7.toInt = x_51_6.toInt := i2lT e_52_7 rfl
          have b_52_7 := fb_rng x_51_6
          refine V_lmul (pc := 53) dX10_dueAt_53 (fun x_53_8 e_53_8 => ?_)
          have t_53_8 : x_53_8.toInt = 600 * x_52_7.toInt := lmulT e_53_8 rfl rfl (by omega) (by omega)
          refine V_iload (pc := 54) 6 dX10_dueAt_54 rfl ?_
          refine V_i2l (pc := 56) dX10_dueAt_56 (fun x_56_9 e_56_9 => ?_)
          have t_56_9 : x_56_9.toInt = (nwF X a.toInt (X 27 27).toInt.toNat).toInt := i2lT e_56_9 rfl
          have b_56_9 := fb_rng (nwF X a.toInt (X 27 27).toInt.toNat)
          refine V_ldiv (pc := 57) dX10_dueAt_57 (nzL (b := x_56_9.toInt) rfl (by omega)) (fun x_57_10 e_57_10 => ?_)
          have q_57_10 := ldivT e_57_10 rfl rfl (by omega) (by omega)
          have g_57_10 : x_53_8.toInt / x_56_9.toInt ≤ x_53_8.toInt := Int.ediv_le_self _ (by omega)
          have g2_57_10 : 0 ≤ x_53_8.toInt / x_56_9.toInt := Int.ediv_nonneg (by omega) (by omega)
          refine V_ladd (pc := 58) dX10_dueAt_58 (fun x_58_11 e_58_11 => ?_)
          have t_58_11 : x_58_11.toInt = s.toInt + x_57_10.toInt := laddT e_58_11 rfl rfl (by omega) (by omega)
          refine V_lstore_n (pc := 59) (lo' := [(0, .ref (ad G 11)), (1, .int p), (2, .long x_58_11), (4, .int a), (5, .int k), (6, .int (nxF X a.toInt p (X 27 27).toInt.toNat)), (7, .int (nwF X a.toInt (X 27 27).toInt.toNat))]) dX10_dueAt_59 rfl (by decide) rfl ?_
          refine V_iload (pc := 60) 5 dX10_dueAt_60 rfl ?_
          refine V_istore (pc := 62) (lo' := [(0, .ref (ad G 11)), (1, .int p), (2, .long x_58_11), (4, .int (nxF X a.toInt p (X 27 27).toInt.toNat)), (5, .int k), (6, .int (nxF X a.toInt p (X 27 27).toInt.toNat)), (7, .int (nwF X a.toInt (X 27 27).toInt.toNat))]) dX10_dueAt_62 (by decide) rfl ?_
          obtain ⟨x_64_12, e_64_12⟩ : ∃ y : Int32, y = k + (1) := ⟨_, rfl⟩
          have t_64_12 : x_64_12.toInt = k.toInt + 1 := addT e_64_12 rfl rfl (by omega) (by omega)
          refine V_iinc (pc := 64) (v := x_64_12) (lo' := [(0, .ref (ad G 11)), (1, .int p), (2, .long x_58_11), (4, .int (nxF X a.toInt p (X 27 27).toInt.toNat)), (5, .int x_64_12), (6, .int (nxF X a.toInt p (X 27 27).toInt.toNat)), (7, .int (nwF X a.toInt (X 27 27).toInt.toNat))]) 4 dX10_dueAt_64 rfl e_64_12.symm (by decide) rfl ?_
          refine V_goto (pc := 67) (tgt := 8) dX10_dueAt_67 (by decide) ?_
          refine V_lo (pc := 8) (lo' := [(0, .ref (ad G 11)), (1, .int p), (2, .long x_58_11), (4, .int (nxF X a.toInt p (X 27 27).toInt.toNat)), (5, .int x_64_12)]) [0, 1, 2, 3, 4] rfl ?_
          have hT2 := hT
          rw [dueF_lt (f := f + 2) (a := a.toInt) (by omega), Int.tdiv_eq_ediv_of_nonneg (by omega)] at hT2
          have u8 : 600 * ((nxF X a.toInt p (X 27 27).toInt.toNat).toInt - a.toInt) = x_53_8.toInt := by omega
          have u7 : (nwF X a.toInt (X 27 27).toInt.toNat).toInt = x_56_9.toInt := by omega
          rw [u8, u7] at hT2
          refine ih (nxF X a.toInt p (X 27 27).toInt.toNat) x_64_12 x_58_11 (by omega) (by omega) (fun z => z3.elim (fun q => by omega) id) (by omega) (by omega) (by omega) (fun z => ?_)
          rcases z3 with z3 | z3
          · omega
          · have := cntG_lt X z1 (X 27 27).toInt.toNat z3
            have := hf (by omega)
            omega
set_option maxRecDepth 100000 in
set_option maxHeartbeats 4000000 in
theorem c_X10_dueAt (G : vG) {n : Nat} {sh : vS} {I : vI} {L : vL} {R : vR} (X : vI) (p : Int32) (hw : WF n sh R) (h27 : 0 ≤ (X 27 27).toInt ∧ (X 27 27).toInt ≤ 8) (hc6 : I 11 6 = X 27 27) (e45 : ∀ k, I 14 k = X 45 k) (e46 : ∀ k, I 15 k = X 46 k) (hv : ∀ k, k < (X 27 27).toInt.toNat → 1 ≤ (X 46 k).toInt ∧ (X 46 k).toInt ≤ 3000) (hp : 0 ≤ p.toInt ∧ p.toInt ≤ 200000) (h0e : ∃ k, k < (X 27 27).toInt.toNat ∧ (X 45 k).toInt = 0) : CT G yX10_dueAt cX10_dueAt 8 (some .long) 1 0 0 [.ref (ad G 11), .int p] n sh I L R (PI n sh L R (fun I' o => I = I' ∧ ∃ v : Int64, o = some (.long v) ∧ (v.toInt = dueF X p 10 0 ∧ 0 ≤ v.toInt ∧ v.toInt ≤ 600 * p.toInt))) := by
  refine CT_of (own := RX10) (ini := false) (lo := [(0, .ref (ad G 11)), (1, .int p)]) mf_X10_dueAt (Nat.le_of_ble_eq_true rfl) rfl (fun h => by first | rfl | cases h) rfl ?_
  refine V_lconst (pc := 0) (v := 0) dX10_dueAt_0 rfl ?_
  refine V_lstore_n (pc := 1) (lo' := [(0, .ref (ad G 11)), (1, .int p), (2, .long 0)]) dX10_dueAt_1 rfl (by decide) rfl ?_
  refine V_iconst (pc := 2) (v := 0) dX10_dueAt_2 rfl ?_
  refine V_istore (pc := 3) (lo' := [(0, .ref (ad G 11)), (1, .int p), (2, .long 0), (4, .int 0)]) dX10_dueAt_3 (by decide) rfl ?_
  refine V_iconst (pc := 5) (v := 0) dX10_dueAt_5 rfl ?_
  refine V_istore (pc := 6) (lo' := [(0, .ref (ad G 11)), (1, .int p), (2, .long 0), (4, .int 0), (5, .int 0)]) dX10_dueAt_6 (by decide) rfl ?_
  exact l_X10_dueAt G X p hw h27 hc6 e45 e46 hv hp 8 0 0 0 (by decide) (by decide) (fun _ => h0e) ⟨Int.le_refl _, hp.1⟩ ⟨Int.le_refl _, Int.le_refl _⟩ (Int.zero_add _) (fun _ => by have := cntG_7 X (X 27 27).toInt.toNat h0e; show cntG X 0 _ + 1 ≤ 8; omega)
set_option maxRecDepth 100000 in
set_option maxHeartbeats 4000000 in
theorem l_X10_placeOfRoad (G : vG) {n : Nat} {sh : vS} {I : vI} {L : vL} {R : vR} (X : vI) (r : Int32) (hw : WF n sh R) (h24 : 0 ≤ (X 27 24).toInt ∧ (X 27 24).toInt ≤ 10) (hc2 : I 11 2 = X 27 24) (e44 : ∀ k, I 12 k = X 44 k) : ∀ (f m : Nat) (k : Int32) (hm : (m : Int) ≤ (X 27 24).toInt) (hk : k.toInt = (m : Int)) (hq : plF (X 44) r.toInt (X 27 24).toInt.toNat 0 = plF (X 44) r.toInt ((X 27 24).toInt.toNat - m) m) (hf : (X 27 24).toInt < (m : Int) + f), V G RX10 cX10_placeOfRoad (some .int) false 0 0 0 3 (PI n sh L R (fun I' o => I = I' ∧ ∃ v : Int32, o = some (.int v) ∧ v.toInt = plF (X 44) r.toInt (X 27 24).toInt.toNat 0)) 2 [(0, .ref (ad G 11)), (1, .int r), (2, .int k)] [] 0 0 n sh I L R := by
  intro f
  induction f with
  | zero => intro m k hm hk hq hf; omega
  | succ f ih =>
    intro m k hm hk hq hf
    have hc2t : (I 11 2).toInt = (X 27 24).toInt := by rw [hc2]
    have e44m := e44 m
    refine V_iload_n (pc := 2) 2 dX10_placeOfRoad_2 rfl rfl ?_
    refine V_aload_n (pc := 3) 0 dX10_placeOfRoad_3 rfl rfl ?_
    refine V_gI (pc := 4) (v := (I 11 2)) rfl fk_X10_24_10 dX10_placeOfRoad_4 (wN hw (by decide)) (wS1 hw (by decide) rfl) ?_
    refine V_icmp_ge (pc := 7) (tgt := 28) dX10_placeOfRoad_7 (by decide) (fun c_7_1 => ?_) (fun c_7_1 => ?_)
    · have c_7_1 : (I 11 2).toInt ≤ k.toInt := c_7_1
      refine V_bipush (pc := 28) (v := (-9)) dX10_placeOfRoad_28 rfl ?_
      refine V_iret (pc := 30) rfl rfl dX10_placeOfRoad_30 (by omega) (by omega) ?_
      refine ⟨rfl, rfl, rfl, rfl, rfl, _, rfl, ?_⟩
      rw [hq]
      have e1 : (X 27 24).toInt.toNat - m = 0 := by omega
      rw [e1]
      rfl
    · have c_7_1 : k.toInt < (I 11 2).toInt := c_7_1
      refine V_aload_n (pc := 10) 0 dX10_placeOfRoad_10 rfl rfl ?_
      refine V_getR (pc := 11) (j := 12) fk_X10_9_10 (wR hw (i := 11) (k := 0) (j := 12) rfl) dX10_placeOfRoad_11 (wN hw (by decide)) (wS1 hw (by decide) rfl) ?_
      refine V_iload_n (pc := 14) 2 dX10_placeOfRoad_14 rfl rfl ?_
      refine V_ia (pc := 15) (k := m) (v := (I 12 m)) rfl dX10_placeOfRoad_15 (wN hw (by decide)) (wS hw (by decide) rfl) hk (by omega) ?_
      refine V_iload_n (pc := 16) 1 dX10_placeOfRoad_16 rfl rfl ?_
      refine V_icmp_ne (pc := 17) (tgt := 22) dX10_placeOfRoad_17 (by decide) (fun c_17_2 => ?_) (fun c_17_2 => ?_)
      · have c_17_2 : (I 12 m).toInt ≠ r.toInt := c_17_2
        obtain ⟨x_22_3, e_22_3⟩ : ∃ y : Int32, y = k + (1) := ⟨_, rfl⟩
        have t_22_3 : x_22_3.toInt = k.toInt + 1 := addT e_22_3 rfl rfl (by omega) (by omega)
        refine V_iinc (pc := 22) (v := x_22_3) (lo' := [(0, .ref (ad G 11)), (1, .int r), (2, .int x_22_3)]) 2 dX10_placeOfRoad_22 rfl e_22_3.symm (by decide) rfl ?_
        refine V_goto (pc := 25) (tgt := 2) dX10_placeOfRoad_25 (by decide) ?_
        have e1 : (X 27 24).toInt.toNat - m = ((X 27 24).toInt.toNat - (m + 1)) + 1 := by omega
        rw [e1, plF_s, if_neg (by rw [← e44m]; omega)] at hq
        exact ih (m + 1) x_22_3 (by omega) (by omega) hq (by omega)
      · have c_17_2 : (I 12 m).toInt = r.toInt := c_17_2
        refine V_iload_n (pc := 20) 2 dX10_placeOfRoad_20 rfl rfl ?_
        refine V_iret (pc := 21) rfl rfl dX10_placeOfRoad_21 (by omega) (by omega) ?_
        refine ⟨rfl, rfl, rfl, rfl, rfl, _, rfl, ?_⟩
        rw [hq]
        have e1 : (X 27 24).toInt.toNat - m = ((X 27 24).toInt.toNat - (m + 1)) + 1 := by omega
        rw [e1, plF_s, if_pos (by rw [← e44m]; omega)]
        omega
set_option maxRecDepth 100000 in
set_option maxHeartbeats 4000000 in
theorem c_X10_placeOfRoad (G : vG) {n : Nat} {sh : vS} {I : vI} {L : vL} {R : vR} (X : vI) (r : Int32) (hw : WF n sh R) (h24 : 0 ≤ (X 27 24).toInt ∧ (X 27 24).toInt ≤ 10) (hc2 : I 11 2 = X 27 24) (e44 : ∀ k, I 12 k = X 44 k) : CT G yX10_placeOfRoad cX10_placeOfRoad 3 (some .int) 0 0 0 [.ref (ad G 11), .int r] n sh I L R (PI n sh L R (fun I' o => I = I' ∧ ∃ v : Int32, o = some (.int v) ∧ v.toInt = plF (X 44) r.toInt (X 27 24).toInt.toNat 0)) := by
  refine CT_of (own := RX10) (ini := false) (lo := [(0, .ref (ad G 11)), (1, .int r)]) mf_X10_placeOfRoad (Nat.le_of_ble_eq_true rfl) rfl (fun h => by first | rfl | cases h) rfl ?_
  refine V_iconst (pc := 0) (v := 0) dX10_placeOfRoad_0 rfl ?_
  refine V_istore_n (pc := 1) (lo' := [(0, .ref (ad G 11)), (1, .int r), (2, .int 0)]) dX10_placeOfRoad_1 rfl (by decide) rfl ?_
  exact l_X10_placeOfRoad G X r hw h24 hc2 e44 ((X 27 24).toInt.toNat + 1) 0 0 (by omega) rfl rfl (by omega)
set_option maxRecDepth 100000 in
set_option maxHeartbeats 4000000 in
theorem l_X10_roadUnder (G : vG) {n : Nat} {sh : vS} {I : vI} {L : vL} {R : vR} (X : vI) (p : Int32) (hw : WF n sh R) (h24 : 0 ≤ (X 27 24).toInt ∧ (X 27 24).toInt ≤ 10) (hc2 : I 11 2 = X 27 24) (e44 : ∀ k, I 12 k = X 44 k) (hen : ∀ m, m < (X 27 24).toInt.toNat → (I 13 m).toInt = psF X (m + 1)) (h0 : (X 27 24).toInt ≠ 0) : ∀ (f m : Nat) (k : Int32) (hm : (m : Int) ≤ (X 27 24).toInt) (hk : k.toInt = (m : Int)) (hr : raF X p.toInt (X 27 24).toInt.toNat (X 27 24).toInt.toNat 0 = raF X p.toInt (X 27 24).toInt.toNat ((X 27 24).toInt.toNat - m) m) (hf : (X 27 24).toInt < (m : Int) + f), V G RX10 cX10_roadUnder (some .int) false 0 0 0 3 (PI n sh L R (fun I' o => I = I' ∧ ∃ v : Int32, o = some (.int v) ∧ v.toInt = raF X p.toInt (X 27 24).toInt.toNat (X 27 24).toInt.toNat 0)) 2 [(0, .ref (ad G 11)), (1, .int p), (2, .int k)] [] 0 0 n sh I L R := by
  intro f
  induction f with
  | zero => intro m k hm hk hr hf; omega
  | succ f ih =>
    intro m k hm hk hr hf
    have hc2t : (I 11 2).toInt = (X 27 24).toInt := by rw [hc2]
    have e44m := e44 m
    refine V_iload_n (pc := 2) 2 dX10_roadUnder_2 rfl rfl ?_
    refine V_aload_n (pc := 3) 0 dX10_roadUnder_3 rfl rfl ?_
    refine V_gI (pc := 4) (v := (I 11 2)) rfl fk_X10_24_10 dX10_roadUnder_4 (wN hw (by decide)) (wS1 hw (by decide) rfl) ?_
    refine V_icmp_ge (pc := 7) (tgt := 33) dX10_roadUnder_7 (by decide) (fun c_7_1 => ?_) (fun c_7_1 => ?_)
    · have c_7_1 : (I 11 2).toInt ≤ k.toInt := c_7_1
      refine V_aload_n (pc := 33) 0 dX10_roadUnder_33 rfl rfl ?_
      refine V_gI (pc := 34) (v := (I 11 2)) rfl fk_X10_24_10 dX10_roadUnder_34 (wN hw (by decide)) (wS1 hw (by decide) rfl) ?_
      refine V_if_le (pc := 37) (tgt := 54) dX10_roadUnder_37 (by decide) (fun c_37_2 => ?_) (fun c_37_2 => ?_)
      · have c_37_2 : (I 11 2).toInt ≤ 0 := c_37_2
        refine V_bipush (pc := 54) (v := (-9)) dX10_roadUnder_54 rfl ?_
        refine V_iret (pc := 56) rfl rfl dX10_roadUnder_56 (by omega) (by omega) ?_
        exfalso; omega
      · have c_37_2 : 0 < (I 11 2).toInt := c_37_2
        refine V_aload_n (pc := 40) 0 dX10_roadUnder_40 rfl rfl ?_
        refine V_getR (pc := 41) (j := 12) fk_X10_9_10 (wR hw (i := 11) (k := 0) (j := 12) rfl) dX10_roadUnder_41 (wN hw (by decide)) (wS1 hw (by decide) rfl) ?_
        refine V_aload_n (pc := 44) 0 dX10_roadUnder_44 rfl rfl ?_
        refine V_gI (pc := 45) (v := (I 11 2)) rfl fk_X10_24_10 dX10_roadUnder_45 (wN hw (by decide)) (wS1 hw (by decide) rfl) ?_
        refine V_iconst (pc := 48) (v := 1) dX10_roadUnder_48 rfl ?_
        refine V_isub (pc := 49) dX10_roadUnder_49 (fun x_49_3 e_49_3 => ?_)
        have t_49_3 : x_49_3.toInt = (I 11 2).toInt - 1 := subT e_49_3 rfl rfl (by omega) (by omega)
        refine V_ia (pc := 50) (k := ((I 11 2).toInt - 1).toNat) (v := (I 12 ((I 11 2).toInt - 1).toNat)) rfl dX10_roadUnder_50 (wN hw (by decide)) (wS hw (by decide) rfl) (by omega) (by omega) ?_
        refine V_goto (pc := 51) (tgt := 56) dX10_roadUnder_51 (by decide) ?_
        refine V_iret (pc := 56) rfl rfl dX10_roadUnder_56 (by omega) (by omega) ?_
        refine ⟨rfl, rfl, rfl, rfl, rfl, _, rfl, ?_⟩
        rw [hr]
        have e1 : (X 27 24).toInt.toNat - m = 0 := by omega
        rw [e1]
        show _ = (X 44 ((X 27 24).toInt.toNat - 1)).toInt
        have e2 : (X 27 24).toInt.toNat - 1 = ((I 11 2).toInt - 1).toNat := by omega
        rw [e2, e44]
    · have c_7_1 : k.toInt < (I 11 2).toInt := c_7_1
      refine V_iload_n (pc := 10) 1 dX10_roadUnder_10 rfl rfl ?_
      refine V_aload_n (pc := 11) 0 dX10_roadUnder_11 rfl rfl ?_
      refine V_getR (pc := 12) (j := 13) fk_X10_15_10 (wR hw (i := 11) (k := 1) (j := 13) rfl) dX10_roadUnder_12 (wN hw (by decide)) (wS1 hw (by decide) rfl) ?_
      refine V_iload_n (pc := 15) 2 dX10_roadUnder_15 rfl rfl ?_
      refine V_ia (pc := 16) (k := m) (v := (I 13 m)) rfl dX10_roadUnder_16 (wN hw (by decide)) (wS hw (by decide) rfl) hk (by omega) ?_
      refine V_icmp_ge (pc := 17) (tgt := 27) dX10_roadUnder_17 (by decide) (fun c_17_4 => ?_) (fun c_17_4 => ?_)
      · have c_17_4 : (I 13 m).toInt ≤ p.toInt := c_17_4
        obtain ⟨x_27_5, e_27_5⟩ : ∃ y : Int32, y = k + (1) := ⟨_, rfl⟩
        have t_27_5 : x_27_5.toInt = k.toInt + 1 := addT e_27_5 rfl rfl (by omega) (by omega)
        refine V_iinc (pc := 27) (v := x_27_5) (lo' := [(0, .ref (ad G 11)), (1, .int p), (2, .int x_27_5)]) 2 dX10_roadUnder_27 rfl e_27_5.symm (by decide) rfl ?_
        refine V_goto (pc := 30) (tgt := 2) dX10_roadUnder_30 (by decide) ?_
        have e1 : (X 27 24).toInt.toNat - m = ((X 27 24).toInt.toNat - (m + 1)) + 1 := by omega
        rw [e1, raF_s, if_neg (by rw [← hen m (by omega)]; omega)] at hr
        exact ih (m + 1) x_27_5 (by omega) (by omega) hr (by omega)
      · have c_17_4 : p.toInt < (I 13 m).toInt := c_17_4
        refine V_aload_n (pc := 20) 0 dX10_roadUnder_20 rfl rfl ?_
        refine V_getR (pc := 21) (j := 12) fk_X10_9_10 (wR hw (i := 11) (k := 0) (j := 12) rfl) dX10_roadUnder_21 (wN hw (by decide)) (wS1 hw (by decide) rfl) ?_
        refine V_iload_n (pc := 24) 2 dX10_roadUnder_24 rfl rfl ?_
        refine V_ia (pc := 25) (k := m) (v := (I 12 m)) rfl dX10_roadUnder_25 (wN hw (by decide)) (wS hw (by decide) rfl) hk (by omega) ?_
        refine V_iret (pc := 26) rfl rfl dX10_roadUnder_26 (by omega) (by omega) ?_
        refine ⟨rfl, rfl, rfl, rfl, rfl, _, rfl, ?_⟩
        rw [hr]
        have e1 : (X 27 24).toInt.toNat - m = ((X 27 24).toInt.toNat - (m + 1)) + 1 := by omega
        rw [e1, raF_s, if_pos (by rw [← hen m (by omega)]; omega), e44m]
set_option maxRecDepth 100000 in
set_option maxHeartbeats 4000000 in
theorem c_X10_roadUnder (G : vG) {n : Nat} {sh : vS} {I : vI} {L : vL} {R : vR} (X : vI) (p : Int32) (hw : WF n sh R) (h24 : 0 ≤ (X 27 24).toInt ∧ (X 27 24).toInt ≤ 10) (hc2 : I 11 2 = X 27 24) (e44 : ∀ k, I 12 k = X 44 k) (hen : ∀ m, m < (X 27 24).toInt.toNat → (I 13 m).toInt = psF X (m + 1)) (h0 : (X 27 24).toInt ≠ 0) : CT G yX10_roadUnder cX10_roadUnder 3 (some .int) 0 0 0 [.ref (ad G 11), .int p] n sh I L R (PI n sh L R (fun I' o => I = I' ∧ ∃ v : Int32, o = some (.int v) ∧ v.toInt = raF X p.toInt (X 27 24).toInt.toNat (X 27 24).toInt.toNat 0)) := by
  refine CT_of (own := RX10) (ini := false) (lo := [(0, .ref (ad G 11)), (1, .int p)]) mf_X10_roadUnder (Nat.le_of_ble_eq_true rfl) rfl (fun h => by first | rfl | cases h) rfl ?_
  refine V_iconst (pc := 0) (v := 0) dX10_roadUnder_0 rfl ?_
  refine V_istore_n (pc := 1) (lo' := [(0, .ref (ad G 11)), (1, .int p), (2, .int 0)]) dX10_roadUnder_1 rfl (by decide) rfl ?_
  exact l_X10_roadUnder G X p hw h24 hc2 e44 hen h0 ((X 27 24).toInt.toNat + 1) 0 0 (by omega) rfl rfl (by omega)
set_option maxRecDepth 100000 in
set_option maxHeartbeats 4000000 in
theorem c_X10_begin (G : vG) {n : Nat} {sh : vS} {I : vI} {L : vL} {R : vR}  (hw : WF n sh R) : CT G yX10_begin cX10_begin 1 (none) 0 0 0 [.ref (ad G 11)] n sh I L R (PI n sh L R (fun I' r => up2 (up2 (up2 I 11 2 0) 11 3 0) 11 6 0 = I' ∧ r = none)) := by
  refine CT_of (own := RX10) (ini := false) (lo := [(0, .ref (ad G 11))]) mf_X10_begin (Nat.le_of_ble_eq_true rfl) rfl (fun h => by first | rfl | cases h) rfl ?_
  refine V_aload_n (pc := 0) 0 dX10_begin_0 rfl rfl ?_
  refine V_iconst (pc := 1) (v := 0) dX10_begin_1 rfl ?_
  refine V_putI (pc := 2) fw_X10_24_10 rfl rfl dX10_begin_2 (wN hw (by decide)) (wS1 hw (by decide) rfl) ?_
  refine V_aload_n (pc := 5) 0 dX10_begin_5 rfl rfl ?_
  refine V_iconst (pc := 6) (v := 0) dX10_begin_6 rfl ?_
  refine V_putI (pc := 7) fw_X10_28_10 rfl rfl dX10_begin_7 (wN hw (by decide)) (wS1 hw (by decide) rfl) ?_
  refine V_aload_n (pc := 10) 0 dX10_begin_10 rfl rfl ?_
  refine V_iconst (pc := 11) (v := 0) dX10_begin_11 rfl ?_
  refine V_putI (pc := 12) fw_X10_31_10 rfl rfl dX10_begin_12 (wN hw (by decide)) (wS1 hw (by decide) rfl) ?_
  refine V_vret (pc := 15) rfl dX10_begin_15 (by omega) (by omega) ?_
  exact ⟨rfl, rfl, rfl, rfl, rfl, rfl⟩
set_option maxRecDepth 100000 in
set_option maxHeartbeats 4000000 in
theorem c_X10_addSpeed (G : vG) {n : Nat} {sh : vS} {I : vI} {L : vL} {R : vR} (p v : Int32) (hw : WF n sh R) (h6 : 0 ≤ (I 11 6).toInt ∧ (I 11 6).toInt < 8) : CT G yX10_addSpeed cX10_addSpeed 3 (none) 0 0 0 [.ref (ad G 11), .int p, .int v] n sh I L R (PI n sh L R (fun I' r => up2 (up2 (up2 I 14 (I 11 6).toInt.toNat p) 15 (I 11 6).toInt.toNat v) 11 6 (I 11 6 + 1) = I' ∧ r = none)) := by
  refine CT_of (own := RX10) (ini := false) (lo := [(0, .ref (ad G 11)), (1, .int p), (2, .int v)]) mf_X10_addSpeed (Nat.le_of_ble_eq_true rfl) rfl (fun h => by first | rfl | cases h) rfl ?_
  refine V_aload_n (pc := 0) 0 dX10_addSpeed_0 rfl rfl ?_
  refine V_gI (pc := 1) (v := (I 11 6)) rfl fk_X10_31_10 dX10_addSpeed_1 (wN hw (by decide)) (wS1 hw (by decide) rfl) ?_
  refine V_bipush (pc := 4) (v := 8) dX10_addSpeed_4 rfl ?_
  refine V_icmp_ge (pc := 6) (tgt := 39) dX10_addSpeed_6 (by decide) (fun c_6_1 => ?_) (fun c_6_1 => ?_)
  · have c_6_1 : 8 ≤ (I 11 6).toInt := c_6_1
    refine V_vret (pc := 39) rfl dX10_addSpeed_39 (by omega) (by omega) ?_
    first | (subst_vars; exact ⟨rfl, rfl, rfl, rfl, rfl, rfl⟩) | (exfalso; omega)
  · have c_6_1 : (I 11 6).toInt < 8 := c_6_1
    refine V_aload_n (pc := 9) 0 dX10_addSpeed_9 rfl rfl ?_
    refine V_getR (pc := 10) (j := 14) fk_X10_18_10 (wR hw (i := 11) (k := 4) (j := 14) rfl) dX10_addSpeed_10 (wN hw (by decide)) (wS1 hw (by decide) rfl) ?_
    refine V_aload_n (pc := 13) 0 dX10_addSpeed_13 rfl rfl ?_
    refine V_gI (pc := 14) (v := (I 11 6)) rfl fk_X10_31_10 dX10_addSpeed_14 (wN hw (by decide)) (wS1 hw (by decide) rfl) ?_
    refine V_iload_n (pc := 17) 1 dX10_addSpeed_17 rfl rfl ?_
    refine V_iask (pc := 18) (k := (I 11 6).toInt.toNat) dX10_addSpeed_18 (wN hw (by decide)) (wS hw (by decide) rfl) (by omega) (by omega) ?_
    refine V_aload_n (pc := 19) 0 dX10_addSpeed_19 rfl rfl ?_
    refine V_getR (pc := 20) (j := 15) fk_X10_21_10 (wR hw (i := 11) (k := 5) (j := 15) rfl) dX10_addSpeed_20 (wN hw (by decide)) (wS1 hw (by decide) rfl) ?_
    refine V_aload_n (pc := 23) 0 dX10_addSpeed_23 rfl rfl ?_
    refine V_gI (pc := 24) (v := (I 11 6)) rfl fk_X10_31_10 dX10_addSpeed_24 (wN hw (by decide)) (wS1 hw (by decide) rfl) ?_
    refine V_iload_n (pc := 27) 2 dX10_addSpeed_27 rfl rfl ?_
    refine V_iask (pc := 28) (k := (I 11 6).toInt.toNat) dX10_addSpeed_28 (wN hw (by decide)) (wS hw (by decide) rfl) (by omega) (by omega) ?_
    refine V_aload_n (pc := 29) 0 dX10_addSpeed_29 rfl rfl ?_
    refine V_dup (pc := 30) dX10_addSpeed_30 rfl ?_
    refine V_gI (pc := 31) (v := (I 11 6)) rfl fk_X10_31_10 dX10_addSpeed_31 (wN hw (by decide)) (wS1 hw (by decide) rfl) ?_
    refine V_iconst (pc := 34) (v := 1) dX10_addSpeed_34 rfl ?_
    refine V_iadd (pc := 35) dX10_addSpeed_35 (fun x_35_2 e_35_2 => ?_)
    have t_35_2 : x_35_2.toInt = (I 11 6).toInt + 1 := addT e_35_2 rfl rfl (by omega) (by omega)
    refine V_putI (pc := 36) fw_X10_31_10 rfl rfl dX10_addSpeed_36 (wN hw (by decide)) (wS1 hw (by decide) rfl) ?_
    refine V_vret (pc := 39) rfl dX10_addSpeed_39 (by omega) (by omega) ?_
    first | (subst_vars; exact ⟨rfl, rfl, rfl, rfl, rfl, rfl⟩) | (exfalso; omega)
set_option maxRecDepth 100000 in
set_option maxHeartbeats 4000000 in
theorem c_X10_addRoad (G : vG) {n : Nat} {sh : vS} {I : vI} {L : vL} {R : vR} (r l : Int32) (hw : WF n sh R) (h2 : 0 ≤ (I 11 2).toInt ∧ (I 11 2).toInt < 10) : CT G yX10_addRoad cX10_addRoad 3 (none) 0 0 0 [.ref (ad G 11), .int r, .int l] n sh I L R (PI n sh L R (fun I' o => up2 (up2 (up2 (up2 I 11 3 (I 11 3 + l)) 12 (I 11 2).toInt.toNat r) 13 (I 11 2).toInt.toNat (I 11 3 + l)) 11 2 (I 11 2 + 1) = I' ∧ o = none)) := by
  refine CT_of (own := RX10) (ini := false) (lo := [(0, .ref (ad G 11)), (1, .int r), (2, .int l)]) mf_X10_addRoad (Nat.le_of_ble_eq_true rfl) rfl (fun h => by first | rfl | cases h) rfl ?_
  refine V_aload_n (pc := 0) 0 dX10_addRoad_0 rfl rfl ?_
  refine V_gI (pc := 1) (v := (I 11 2)) rfl fk_X10_24_10 dX10_addRoad_1 (wN hw (by decide)) (wS1 hw (by decide) rfl) ?_
  refine V_bipush (pc := 4) (v := 10) dX10_addRoad_4 rfl ?_
  refine V_icmp_ge (pc := 6) (tgt := 52) dX10_addRoad_6 (by decide) (fun c_6_1 => ?_) (fun c_6_1 => ?_)
  · have c_6_1 : 10 ≤ (I 11 2).toInt := c_6_1
    refine V_vret (pc := 52) rfl dX10_addRoad_52 (by omega) (by omega) ?_
    first | (subst_vars; exact ⟨rfl, rfl, rfl, rfl, rfl, rfl⟩) | (exfalso; omega)
  · have c_6_1 : (I 11 2).toInt < 10 := c_6_1
    refine V_aload_n (pc := 9) 0 dX10_addRoad_9 rfl rfl ?_
    refine V_dup (pc := 10) dX10_addRoad_10 rfl ?_
    refine V_gI (pc := 11) (v := (I 11 3)) rfl fk_X10_28_10 dX10_addRoad_11 (wN hw (by decide)) (wS1 hw (by decide) rfl) ?_
    refine V_iload_n (pc := 14) 2 dX10_addRoad_14 rfl rfl ?_
    refine V_iadd (pc := 15) dX10_addRoad_15 (fun x_15_2 e_15_2 => ?_)
    refine V_putI (pc := 16) fw_X10_28_10 rfl rfl dX10_addRoad_16 (wN hw (by decide)) (wS1 hw (by decide) rfl) ?_
    refine V_aload_n (pc := 19) 0 dX10_addRoad_19 rfl rfl ?_
    refine V_getR (pc := 20) (j := 12) fk_X10_9_10 (wR hw (i := 11) (k := 0) (j := 12) rfl) dX10_addRoad_20 (wN hw (by decide)) (wS1 hw (by decide) rfl) ?_
    refine V_aload_n (pc := 23) 0 dX10_addRoad_23 rfl rfl ?_
    refine V_gI (pc := 24) (v := (I 11 2)) rfl fk_X10_24_10 dX10_addRoad_24 (wN hw (by decide)) (wS1 hw (by decide) rfl) ?_
    refine V_iload_n (pc := 27) 1 dX10_addRoad_27 rfl rfl ?_
    refine V_iask (pc := 28) (k := (I 11 2).toInt.toNat) dX10_addRoad_28 (wN hw (by decide)) (wS hw (by decide) rfl) (by omega) (by omega) ?_
    refine V_aload_n (pc := 29) 0 dX10_addRoad_29 rfl rfl ?_
    refine V_getR (pc := 30) (j := 13) fk_X10_15_10 (wR hw (i := 11) (k := 1) (j := 13) rfl) dX10_addRoad_30 (wN hw (by decide)) (wS1 hw (by decide) rfl) ?_
    refine V_aload_n (pc := 33) 0 dX10_addRoad_33 rfl rfl ?_
    refine V_gI (pc := 34) (v := (I 11 2)) rfl fk_X10_24_10 dX10_addRoad_34 (wN hw (by decide)) (wS1 hw (by decide) rfl) ?_
    refine V_aload_n (pc := 37) 0 dX10_addRoad_37 rfl rfl ?_
    refine V_gI (pc := 38) (v := x_15_2) rfl fk_X10_28_10 dX10_addRoad_38 (wN hw (by decide)) (wS1 hw (by decide) rfl) ?_
    refine V_iask (pc := 41) (k := (I 11 2).toInt.toNat) dX10_addRoad_41 (wN hw (by decide)) (wS hw (by decide) rfl) (by omega) (by omega) ?_
    refine V_aload_n (pc := 42) 0 dX10_addRoad_42 rfl rfl ?_
    refine V_dup (pc := 43) dX10_addRoad_43 rfl ?_
    refine V_gI (pc := 44) (v := (I 11 2)) rfl fk_X10_24_10 dX10_addRoad_44 (wN hw (by decide)) (wS1 hw (by decide) rfl) ?_
    refine V_iconst (pc := 47) (v := 1) dX10_addRoad_47 rfl ?_
    refine V_iadd (pc := 48) dX10_addRoad_48 (fun x_48_3 e_48_3 => ?_)
    have t_48_3 : x_48_3.toInt = (I 11 2).toInt + 1 := addT e_48_3 rfl rfl (by omega) (by omega)
    refine V_putI (pc := 49) fw_X10_24_10 rfl rfl dX10_addRoad_49 (wN hw (by decide)) (wS1 hw (by decide) rfl) ?_
    refine V_vret (pc := 52) rfl dX10_addRoad_52 (by omega) (by omega) ?_
    first | (subst_vars; exact ⟨rfl, rfl, rfl, rfl, rfl, rfl⟩) | (exfalso; omega)
