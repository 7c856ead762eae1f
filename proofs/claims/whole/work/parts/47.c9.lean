set_option maxRecDepth 100000 in
set_option maxHeartbeats 4000000 in
theorem l_X1_forgetTheWay (G : vG) {n : Nat} {sh : vS} {I : vI} {L : vL} {R : vR} (j : Nat) (hw : WF n sh R) (hj : j < n) (hcj : (sh j).1 = 1 ∨ (sh j).1 = 5 ∨ (sh j).1 = 4) (hr : R j 2 = some (j + 1) ∧ R j 3 = some (j + 2) ∧ R j 5 = some (j + 3)) (hl : j + 1 < n ∧ j + 2 < n ∧ j + 3 < n) (hs : sh (j + 1) = (13, 8) ∧ sh (j + 2) = (13, 8) ∧ sh (j + 3) = (13, 8)) : ∀ (f m : Nat) (k : Int32) (J : vI) (hm : (m : Int) ≤ (8 : Int)) (hk : k.toInt = (m : Int)) (hJ : J = fgF I j m) (hf : (8 : Int) < (m : Int) + f), V G RX1 cX1_forgetTheWay (none) false 0 0 0 2 (PI n sh L R (fun I' r => fgF I j 8 = I' ∧ r = none)) 7 [(0, .ref (ad G j)), (1, .int k)] [] 0 0 n sh J L R := by
  intro f
  induction f with
  | zero => intro m k J hm hk hJ hf; omega
  | succ f ih =>
    intro m k J hm hk hJ hf
    refine V_iload_n (pc := 7) 1 dX1_forgetTheWay_7 rfl rfl ?_
    refine V_bipush (pc := 8) (v := 8) dX1_forgetTheWay_8 rfl ?_
    refine V_icmp_ge (pc := 10) (tgt := 33) dX1_forgetTheWay_10 (by decide) (fun c_10_1 => ?_) (fun c_10_1 => ?_)
    · have c_10_1 : 8 ≤ k.toInt := c_10_1
      refine V_vret (pc := 33) rfl dX1_forgetTheWay_33 (by omega) (by omega) ?_
      have e1 : m = 8 := by omega
      subst e1
      exact ⟨rfl, rfl, rfl, rfl, hJ.symm, rfl⟩
    · have c_10_1 : k.toInt < 8 := c_10_1
      refine V_aload_n (pc := 13) 0 dX1_forgetTheWay_13 rfl rfl ?_
      refine V_getR (pc := 14) (j := (j + 2)) (fk_X1_15_s hcj) hr.2.1 dX1_forgetTheWay_14 hj rfl ?_
      refine V_iload_n (pc := 17) 1 dX1_forgetTheWay_17 rfl rfl ?_
      refine V_iconst (pc := 18) (v := 0) dX1_forgetTheWay_18 rfl ?_
      refine V_iask (pc := 19) (k := m) dX1_forgetTheWay_19 hl.2.1 hs.2.1 hk (by omega) ?_
      refine V_aload_n (pc := 20) 0 dX1_forgetTheWay_20 rfl rfl ?_
      refine V_getR (pc := 21) (j := (j + 3)) (fk_X1_18_s hcj) hr.2.2 dX1_forgetTheWay_21 hj rfl ?_
      refine V_iload_n (pc := 24) 1 dX1_forgetTheWay_24 rfl rfl ?_
      refine V_iconst (pc := 25) (v := 0) dX1_forgetTheWay_25 rfl ?_
      refine V_iask (pc := 26) (k := m) dX1_forgetTheWay_26 hl.2.2 hs.2.2 hk (by omega) ?_
      obtain ⟨x_27_2, e_27_2⟩ : ∃ y : Int32, y = k + (1) := ⟨_, rfl⟩
      have t_27_2 : x_27_2.toInt = k.toInt + 1 := addT e_27_2 rfl rfl (by omega) (by omega)
      refine V_iinc (pc := 27) (v := x_27_2) (lo' := [(0, .ref (ad G j)), (1, .int x_27_2)]) 1 dX1_forgetTheWay_27 rfl e_27_2.symm (by decide) rfl ?_
      refine V_goto (pc := 30) (tgt := 7) dX1_forgetTheWay_30 (by decide) ?_
      exact ih (m + 1) x_27_2 _ (by omega) (by omega) (by subst hJ; rfl) (by omega)
set_option maxRecDepth 100000 in
set_option maxHeartbeats 4000000 in
theorem c_X1_forgetTheWay (G : vG) {n : Nat} {sh : vS} {I : vI} {L : vL} {R : vR} (j : Nat) (hw : WF n sh R) (hj : j < n) (hcj : (sh j).1 = 1 ∨ (sh j).1 = 5 ∨ (sh j).1 = 4) (hr : R j 2 = some (j + 1) ∧ R j 3 = some (j + 2) ∧ R j 5 = some (j + 3)) (hl : j + 1 < n ∧ j + 2 < n ∧ j + 3 < n) (hs : sh (j + 1) = (13, 8) ∧ sh (j + 2) = (13, 8) ∧ sh (j + 3) = (13, 8)) : CT G yX1_forgetTheWay cX1_forgetTheWay 2 (none) 0 0 0 [.ref (ad G j)] n sh I L R (PI n sh L R (fun I' r => fgF I j 8 = I' ∧ r = none)) := by
  refine CT_of (own := RX1) (ini := false) (lo := [(0, .ref (ad G j))]) mf_X1_forgetTheWay (Nat.le_of_ble_eq_true rfl) rfl (fun h => by first | rfl | cases h) rfl ?_
  refine V_aload_n (pc := 0) 0 dX1_forgetTheWay_0 rfl rfl ?_
  refine V_iconst (pc := 1) (v := 0) dX1_forgetTheWay_1 rfl ?_
  refine V_putI (pc := 2) (fw_X1_28_s hcj) rfl rfl dX1_forgetTheWay_2 hj rfl ?_
  refine V_iconst (pc := 5) (v := 0) dX1_forgetTheWay_5 rfl ?_
  refine V_istore_n (pc := 6) (lo' := [(0, .ref (ad G j)), (1, .int 0)]) dX1_forgetTheWay_6 rfl (by decide) rfl ?_
  exact l_X1_forgetTheWay G j hw hj hcj hr hl hs 9 0 0 _ (by omega) rfl rfl (by omega)
set_option maxRecDepth 100000 in
set_option maxHeartbeats 4000000 in
theorem l_X0_become (G : vG) {n : Nat} {sh : vS} {I : vI} {L : vL} {R : vR} (X : vI) (q fn : Nat) (fr n0 : Int32) (hw : WF n sh R) (hq : q < 4) (hfr : fr.toInt = (fn : Int)) (h0 : 0 ≤ n0.toInt) (h32 : (fn : Int) + n0.toInt ≤ 32) (hcl : ∀ y : Nat, (y : Int) < n0.toInt → I (20 + 2 * q) (fn + y) = X 36 (32 * q + fn + y)) (h8 : n0.toInt ≤ 8) : ∀ (f m : Nat) (k : Int32) (J : vI) (hm : (m : Int) ≤ n0.toInt) (hk : k.toInt = (m : Int)) (hJ : J = (cpF I 3 0 (fun x => X 36 (32 * q + fn + x)) m)) (hf : n0.toInt < (m : Int) + f), V G RX0 cX0_become (none) false 0 0 0 5 (PI n sh L R (fun I' r => up2 (cpF I 3 0 (fun x => X 36 (32 * q + fn + x)) n0.toInt.toNat) 2 1 n0 = I' ∧ r = none)) 3 [(0, .ref (ad G 2)), (1, .ref (ad G (20 + 2 * q))), (2, .int fr), (3, .int n0), (4, .int k)] [] 0 0 n sh J L R := by
  intro f
  induction f with
  | zero => intro m k J hm hk hJ hf; omega
  | succ f ih =>
    intro m k J hm hk hJ hf
    have eJ : (m : Int) < n0.toInt → J (20 + 2 * q) (fn + m) = X 36 (32 * q + fn + m) := fun z => by rw [hJ, cpF_o (by omega)]; exact hcl m z
    refine V_iload (pc := 3) 4 dX0_become_3 rfl ?_
    refine V_iload_n (pc := 5) 3 dX0_become_5 rfl rfl ?_
    refine V_icmp_ge (pc := 6) (tgt := 28) dX0_become_6 (by decide) (fun c_6_1 => ?_) (fun c_6_1 => ?_)
    · have c_6_1 : n0.toInt ≤ k.toInt := c_6_1
      refine V_aload_n (pc := 28) 0 dX0_become_28 rfl rfl ?_
      refine V_iload_n (pc := 29) 3 dX0_become_29 rfl rfl ?_
      refine V_putI (pc := 30) fw_X0_15_0 rfl rfl dX0_become_30 (wN hw (by decide)) (wS1 hw (by decide) rfl) ?_
      refine V_vret (pc := 33) rfl dX0_become_33 (by omega) (by omega) ?_
      have e1 : n0.toInt.toNat = m := by omega
      rw [e1, ← hJ]
      exact ⟨rfl, rfl, rfl, rfl, rfl, rfl⟩
    · have c_6_1 : k.toInt < n0.toInt := c_6_1
      refine V_aload_n (pc := 9) 0 dX0_become_9 rfl rfl ?_
      refine V_getR (pc := 10) (j := 3) fk_X0_9_0 (wR hw (i := 2) (k := 0) (j := 3) rfl) dX0_become_10 (wN hw (by decide)) (wS1 hw (by decide) rfl) ?_
      refine V_iload (pc := 13) 4 dX0_become_13 rfl ?_
      refine V_aload_n (pc := 15) 1 dX0_become_15 rfl rfl ?_
      refine V_iload_n (pc := 16) 2 dX0_become_16 rfl rfl ?_
      refine V_iload (pc := 17) 4 dX0_become_17 rfl ?_
      refine V_iadd (pc := 19) dX0_become_19 (fun x_19_2 e_19_2 => ?_)
      have t_19_2 : x_19_2.toInt = fr.toInt + k.toInt := addT e_19_2 rfl rfl (by omega) (by omega)
      refine V_ia (pc := 20) (k := (fn + m)) (v := (J (20 + 2 * q) (fn + m))) rfl dX0_become_20 (wSo hw hq).1.2 (wSo hw hq).2.2.1 (by omega) (by omega) ?_
      refine V_iask (pc := 21) (k := m) dX0_become_21 (wN hw (by decide)) (wS hw (by decide) rfl) hk (by omega) ?_
      obtain ⟨x_22_3, e_22_3⟩ : ∃ y : Int32, y = k + (1) := ⟨_, rfl⟩
      have t_22_3 : x_22_3.toInt = k.toInt + 1 := addT e_22_3 rfl rfl (by omega) (by omega)
      refine V_iinc (pc := 22) (v := x_22_3) (lo' := [(0, .ref (ad G 2)), (1, .ref (ad G (20 + 2 * q))), (2, .int fr), (3, .int n0), (4, .int x_22_3)]) 4 dX0_become_22 rfl e_22_3.symm (by decide) rfl ?_
      refine V_goto (pc := 25) (tgt := 3) dX0_become_25 (by decide) ?_
      exact ih (m + 1) x_22_3 _ (by omega) (by omega) (by rw [eJ (by omega)]; subst hJ; show _ = up2 (cpF _ _ _ _ m) _ _ _; simp) (by omega)
set_option maxRecDepth 100000 in
set_option maxHeartbeats 4000000 in
theorem c_X0_become (G : vG) {n : Nat} {sh : vS} {I : vI} {L : vL} {R : vR} (X : vI) (q fn : Nat) (fr n0 : Int32) (hw : WF n sh R) (hq : q < 4) (hfr : fr.toInt = (fn : Int)) (h0 : 0 ≤ n0.toInt) (h32 : (fn : Int) + n0.toInt ≤ 32) (hcl : ∀ y : Nat, (y : Int) < n0.toInt → I (20 + 2 * q) (fn + y) = X 36 (32 * q + fn + y)) (h8 : n0.toInt ≤ 8) : CT G yX0_become cX0_become 5 (none) 0 0 0 [.ref (ad G 2), .ref (ad G (20 + 2 * q)), .int fr, .int n0] n sh I L R (PI n sh L R (fun I' r => up2 (cpF I 3 0 (fun x => X 36 (32 * q + fn + x)) n0.toInt.toNat) 2 1 n0 = I' ∧ r = none)) := by
  refine CT_of (own := RX0) (ini := false) (lo := [(0, .ref (ad G 2)), (1, .ref (ad G (20 + 2 * q))), (2, .int fr), (3, .int n0)]) mf_X0_become (Nat.le_of_ble_eq_true rfl) rfl (fun h => by first | rfl | cases h) rfl ?_
  refine V_iconst (pc := 0) (v := 0) dX0_become_0 rfl ?_
  refine V_istore (pc := 1) (lo' := [(0, .ref (ad G 2)), (1, .ref (ad G (20 + 2 * q))), (2, .int fr), (3, .int n0), (4, .int 0)]) dX0_become_1 (by decide) rfl ?_
  exact l_X0_become G X q fn fr n0 hw hq hfr h0 h32 hcl h8 (n0.toInt.toNat + 1) 0 0 _ (by omega) rfl rfl (by omega)
set_option maxRecDepth 100000 in
set_option maxHeartbeats 4000000 in
theorem l_X11_areBookSpots (G : vG) {n : Nat} {sh : vS} {I : vI} {L : vL} {R : vR} (X : vI) (q fn : Nat) (fr n0 : Int32) (hw : WF n sh R) (hq : q < 4) (hfr : fr.toInt = (fn : Int)) (h0 : 0 ≤ n0.toInt) (h32 : (fn : Int) + n0.toInt ≤ 32) (hcl : ∀ y : Nat, (y : Int) < n0.toInt → I (20 + 2 * q) (fn + y) = X 36 (32 * q + fn + y)) : ∀ (f m : Nat) (p : Int32) (hm : (m : Int) ≤ n0.toInt) (hk : p.toInt = ((fn + m : Nat) : Int)) (hy : ∀ y : Nat, y < m → bkP X ((32 * q + fn : Nat) : Int) y) (hf : n0.toInt < (m : Int) + f), V G RX11 cX11_areBookSpots (some .boolean) false 2 0 0 4 (PI n sh L R (fun I' o => I = I' ∧ rb o (∀ y : Nat, (y : Int) < n0.toInt → bkP X ((32 * q + fn : Nat) : Int) y))) 2 [(0, .ref (ad G (20 + 2 * q))), (1, .int fr), (2, .int n0), (3, .int p)] [] 0 0 n sh I L R := by
  intro f
  induction f with
  | zero => intro m p hm hk hy hf; omega
  | succ f ih =>
    intro m p hm hk hy hf
    have n1 : (((32 * q + fn : Nat) : Int) + (m : Int)).toNat = 32 * q + fn + m := by omega
    have n2 : ((((32 * q + fn : Nat) : Int) + (m : Int)) - 1).toNat = 32 * q + fn + m - 1 := by omega
    have e1 : (m : Int) < n0.toInt → (I (20 + 2 * q) (fn + m)).toInt = (X 36 (32 * q + fn + m)).toInt := fun z => by rw [hcl m z]
    have e2 : 0 < m → (m : Int) < n0.toInt → (I (20 + 2 * q) (fn + m - 1)).toInt = (X 36 (32 * q + fn + m - 1)).toInt := fun z1 z2 => by
      have := hcl (m - 1) (by omega)
      rw [show fn + (m - 1) = fn + m - 1 by omega, show 32 * q + fn + (m - 1) = 32 * q + fn + m - 1 by omega] at this
      rw [this]
    refine V_iload_n (pc := 2) 3 dX11_areBookSpots_2 rfl rfl ?_
    refine V_iload_n (pc := 3) 1 dX11_areBookSpots_3 rfl rfl ?_
    refine V_iload_n (pc := 4) 2 dX11_areBookSpots_4 rfl rfl ?_
    refine V_iadd (pc := 5) dX11_areBookSpots_5 (fun x_5_1 e_5_1 => ?_)
    have t_5_1 : x_5_1.toInt = fr.toInt + n0.toInt := addT e_5_1 rfl rfl (by omega) (by omega)
    refine V_icmp_ge (pc := 6) (tgt := 42) dX11_areBookSpots_6 (by decide) (fun c_6_2 => ?_) (fun c_6_2 => ?_)
    · have c_6_2 : x_5_1.toInt ≤ p.toInt := c_6_2
      refine V_iconst (pc := 42) (v := 1) dX11_areBookSpots_42 rfl ?_
      refine V_iret (pc := 43) rfl rfl dX11_areBookSpots_43 (by omega) (by omega) ?_
      refine ⟨rfl, rfl, rfl, rfl, rfl, ?_⟩
      exact Or.inl ⟨fun y hy0 => hy y (by omega), rfl⟩
    · have c_6_2 : p.toInt < x_5_1.toInt := c_6_2
      refine V_aload_n (pc := 9) 0 dX11_areBookSpots_9 rfl rfl ?_
      refine V_iload_n (pc := 10) 3 dX11_areBookSpots_10 rfl rfl ?_
      refine V_ia (pc := 11) (k := (fn + m)) (v := (I (20 + 2 * q) (fn + m))) rfl dX11_areBookSpots_11 (wSo hw hq).1.2 (wSo hw hq).2.2.1 hk (by omega) ?_
      refine V_callS (pc := 12) (As := [.int (I (20 + 2 * q) (fn + m))]) (st := []) (c_X11_isSpot G (I (20 + 2 * q) (fn + m))) mf_X11_isSpot ml_X11_57 st_X11_isSpot dX11_areBookSpots_12 rfl rfl (by omega) (by omega) (by omega) (Nat.le_of_ble_eq_true rfl) (fun r_12_3 n_12_3 sh_12_3 I_12_3 L_12_3 R_12_3 hq_12_3 => ?_)
      obtain ⟨rfl, rfl, rfl, rfl, rfl, hq_12_3⟩ := hq_12_3
      rcases hq_12_3 with ⟨c_12_3, rfl⟩ | ⟨c_12_3, rfl⟩
      · have c_12_3 : 0 ≤ (I (20 + 2 * q) (fn + m)).toInt ∧ (I (20 + 2 * q) (fn + m)).toInt ≤ 9 := c_12_3
        refine V_if_eq_f (pc := 15) (tgt := 34) dX11_areBookSpots_15 (by decide) (by decide) ?_
        refine V_iload_n (pc := 18) 3 dX11_areBookSpots_18 rfl rfl ?_
        refine V_iload_n (pc := 19) 1 dX11_areBookSpots_19 rfl rfl ?_
        refine V_icmp_le (pc := 20) (tgt := 36) dX11_areBookSpots_20 (by decide) (fun c_20_4 => ?_) (fun c_20_4 => ?_)
        · have c_20_4 : p.toInt ≤ fr.toInt := c_20_4
          obtain ⟨x_36_5, e_36_5⟩ : ∃ y : Int32, y = p + (1) := ⟨_, rfl⟩
          have t_36_5 : x_36_5.toInt = p.toInt + 1 := addT e_36_5 rfl rfl (by omega) (by omega)
          refine V_iinc (pc := 36) (v := x_36_5) (lo' := [(0, .ref (ad G (20 + 2 * q))), (1, .int fr), (2, .int n0), (3, .int x_36_5)]) 3 dX11_areBookSpots_36 rfl e_36_5.symm (by decide) rfl ?_
          refine V_goto (pc := 39) (tgt := 2) dX11_areBookSpots_39 (by decide) ?_
          exact ih (m + 1) x_36_5 (by omega) (by omega) (fun y hy0 => by
            rcases (show y < m ∨ y = m by omega) with z | z
            · exact hy y z
            · subst z
              unfold bkP
              rw [n1, n2, ← e1 (by omega)]
              refine ⟨by omega, ?_⟩
              by_cases q0 : y = 0
              · exact Or.inl q0
              · rw [← e2 (by omega) (by omega)]; omega) (by omega)
        · have c_20_4 : fr.toInt < p.toInt := c_20_4
          refine V_aload_n (pc := 23) 0 dX11_areBookSpots_23 rfl rfl ?_
          refine V_iload_n (pc := 24) 3 dX11_areBookSpots_24 rfl rfl ?_
          refine V_ia (pc := 25) (k := (fn + m)) (v := (I (20 + 2 * q) (fn + m))) rfl dX11_areBookSpots_25 (wSo hw hq).1.2 (wSo hw hq).2.2.1 hk (by omega) ?_
          refine V_aload_n (pc := 26) 0 dX11_areBookSpots_26 rfl rfl ?_
          refine V_iload_n (pc := 27) 3 dX11_areBookSpots_27 rfl rfl ?_
          refine V_iconst (pc := 28) (v := 1) dX11_areBookSpots_28 rfl ?_
          refine V_isub (pc := 29) dX11_areBookSpots_29 (fun x_29_6 e_29_6 => ?_)
          have t_29_6 : x_29_6.toInt = p.toInt - 1 := subT e_29_6 rfl rfl (by omega) (by omega)
          refine V_ia (pc := 30) (k := (fn + m - 1)) (v := (I (20 + 2 * q) (fn + m - 1))) rfl dX11_areBookSpots_30 (wSo hw hq).1.2 (wSo hw hq).2.2.1 (by omega) (by omega) ?_
          refine V_icmp_ne (pc := 31) (tgt := 36) dX11_areBookSpots_31 (by decide) (fun c_31_7 => ?_) (fun c_31_7 => ?_)
          · have c_31_7 : (I (20 + 2 * q) (fn + m)).toInt ≠ (I (20 + 2 * q) (fn + m - 1)).toInt := c_31_7
            obtain ⟨x_36_8, e_36_8⟩ : ∃ y : Int32, y = p + (1) := ⟨_, rfl⟩
            have t_36_8 : x_36_8.toInt = p.toInt + 1 := addT e_36_8 rfl rfl (by omega) (by omega)
            refine V_iinc (pc := 36) (v := x_36_8) (lo' := [(0, .ref (ad G (20 + 2 * q))), (1, .int fr), (2, .int n0), (3, .int x_36_8)]) 3 dX11_areBookSpots_36 rfl e_36_8.symm (by decide) rfl ?_
            refine V_goto (pc := 39) (tgt := 2) dX11_areBookSpots_39 (by decide) ?_
            exact ih (m + 1) x_36_8 (by omega) (by omega) (fun y hy0 => by
              rcases (show y < m ∨ y = m by omega) with z | z
              · exact hy y z
              · subst z
                unfold bkP
                rw [n1, n2, ← e1 (by omega)]
                refine ⟨by omega, ?_⟩
                by_cases q0 : y = 0
                · exact Or.inl q0
                · rw [← e2 (by omega) (by omega)]; omega) (by omega)
          · have c_31_7 : (I (20 + 2 * q) (fn + m)).toInt = (I (20 + 2 * q) (fn + m - 1)).toInt := c_31_7
            refine V_iconst (pc := 34) (v := 0) dX11_areBookSpots_34 rfl ?_
            refine V_iret (pc := 35) rfl rfl dX11_areBookSpots_35 (by omega) (by omega) ?_
            refine ⟨rfl, rfl, rfl, rfl, rfl, ?_⟩
            refine Or.inr ⟨fun z => ?_, rfl⟩
            have z1 := z m (by omega)
            unfold bkP at z1
            rw [n1, n2, ← e1 (by omega)] at z1
            by_cases q0 : m = 0
            · omega
            · rw [← e2 (by omega) (by omega)] at z1; omega
      · have c_12_3 : ¬ (0 ≤ (I (20 + 2 * q) (fn + m)).toInt ∧ (I (20 + 2 * q) (fn + m)).toInt ≤ 9) := c_12_3
        refine V_if_eq_t (pc := 15) (tgt := 34) dX11_areBookSpots_15 (by decide) (by decide) ?_
        refine V_iconst (pc := 34) (v := 0) dX11_areBookSpots_34 rfl ?_
        refine V_iret (pc := 35) rfl rfl dX11_areBookSpots_35 (by omega) (by omega) ?_
        refine ⟨rfl, rfl, rfl, rfl, rfl, ?_⟩
        refine Or.inr ⟨fun z => ?_, rfl⟩
        have z1 := z m (by omega)
        unfold bkP at z1
        rw [n1, n2, ← e1 (by omega)] at z1
        by_cases q0 : m = 0
        · omega
        · rw [← e2 (by omega) (by omega)] at z1; omega
set_option maxRecDepth 100000 in
set_option maxHeartbeats 4000000 in
theorem c_X11_areBookSpots (G : vG) {n : Nat} {sh : vS} {I : vI} {L : vL} {R : vR} (X : vI) (q fn : Nat) (fr n0 : Int32) (hw : WF n sh R) (hq : q < 4) (hfr : fr.toInt = (fn : Int)) (h0 : 0 ≤ n0.toInt) (h32 : (fn : Int) + n0.toInt ≤ 32) (hcl : ∀ y : Nat, (y : Int) < n0.toInt → I (20 + 2 * q) (fn + y) = X 36 (32 * q + fn + y)) : CT G yX11_areBookSpots cX11_areBookSpots 4 (some .boolean) 2 0 0 [.ref (ad G (20 + 2 * q)), .int fr, .int n0] n sh I L R (PI n sh L R (fun I' o => I = I' ∧ rb o (∀ y : Nat, (y : Int) < n0.toInt → bkP X ((32 * q + fn : Nat) : Int) y))) := by
  refine CT_of (own := RX11) (ini := false) (lo := [(0, .ref (ad G (20 + 2 * q))), (1, .int fr), (2, .int n0)]) mf_X11_areBookSpots (Nat.le_of_ble_eq_true rfl) rfl (fun h => by first | rfl | cases h) rfl ?_
  refine V_iload_n (pc := 0) 1 dX11_areBookSpots_0 rfl rfl ?_
  refine V_istore_n (pc := 1) (lo' := [(0, .ref (ad G (20 + 2 * q))), (1, .int fr), (2, .int n0), (3, .int fr)]) dX11_areBookSpots_1 rfl (by decide) rfl ?_
  exact l_X11_areBookSpots G X q fn fr n0 hw hq hfr h0 h32 hcl (n0.toInt.toNat + 1) 0 _ (by omega) (by omega) (fun y z => absurd z (Nat.not_lt_zero y)) (by omega)
set_option maxRecDepth 100000 in
set_option maxHeartbeats 4000000 in
theorem c_X8_isInRow (G : vG) {n : Nat} {sh : vS} {I : vI} {L : vL} {R : vR} (r : Int32) (rn : Nat) (hw : WF n sh R) (hr : r.toInt = (rn : Int)) (h16 : rn < 16) : CT G yX8_isInRow cX8_isInRow 2 (some .boolean) 0 0 0 [.ref (ad G 4), .int r] n sh I L R (PI n sh L R (fun I' o => I = I' ∧ rb o (bt (I 4 6) rn = true))) := by
  refine CT_of (own := RX8) (ini := false) (lo := [(0, .ref (ad G 4)), (1, .int r)]) mf_X8_isInRow (Nat.le_of_ble_eq_true rfl) rfl (fun h => by first | rfl | cases h) rfl ?_
  refine V_aload_n (pc := 0) 0 dX8_isInRow_0 rfl rfl ?_
  refine V_gI (pc := 1) (v := (I 4 6)) rfl fk_X8_34_8 dX8_isInRow_1 (wN hw (by decide)) (wS1 hw (by decide) rfl) ?_
  refine V_iload_n (pc := 4) 1 dX8_isInRow_4 rfl rfl ?_
  refine V_ishr (pc := 5) dX8_isInRow_5 (fun x_5_1 e_5_1 => ?_)
  refine V_iconst (pc := 6) (v := 1) dX8_isInRow_6 rfl ?_
  refine V_iand (pc := 7) dX8_isInRow_7 (fun x_7_2 e_7_2 => ?_)
  refine V_if_eq (pc := 8) (tgt := 15) dX8_isInRow_8 (by decide) (fun c_8_3 => ?_) (fun c_8_3 => ?_)
  · have c_8_3 : x_7_2.toInt = 0 := c_8_3
    refine V_iconst (pc := 15) (v := 0) dX8_isInRow_15 rfl ?_
    refine V_iret (pc := 16) rfl rfl dX8_isInRow_16 (by omega) (by omega) ?_
    have hz := mk_test hr h16 e_5_1 e_7_2
    refine ⟨rfl, rfl, rfl, rfl, rfl, ?_⟩
    refine Or.inr ⟨?_, rfl⟩
    rw [hz.mp (by omega)]
    exact Bool.noConfusion
  · have c_8_3 : x_7_2.toInt ≠ 0 := c_8_3
    refine V_iconst (pc := 11) (v := 1) dX8_isInRow_11 rfl ?_
    refine V_goto (pc := 12) (tgt := 16) dX8_isInRow_12 (by decide) ?_
    refine V_iret (pc := 16) rfl rfl dX8_isInRow_16 (by omega) (by omega) ?_
    have hz := mk_test hr h16 e_5_1 e_7_2
    refine ⟨rfl, rfl, rfl, rfl, rfl, ?_⟩
    refine Or.inl ⟨?_, rfl⟩
    cases hb : bt (I 4 6) rn
    · exact absurd (hz.mpr hb) (by omega)
    · rfl
set_option maxRecDepth 100000 in
set_option maxHeartbeats 4000000 in
theorem c_X8_isTooLong (G : vG) {n : Nat} {sh : vS} {I : vI} {L : vL} {R : vR} (s : Int32) (hw : WF n sh R) : CT G yX8_isTooLong cX8_isTooLong 2 (some .boolean) 0 0 0 [.ref (ad G 4), .int s] n sh I L R (PI n sh L R (fun I' o => I = I' ∧ rb o (0 < (I 4 12).toInt ∧ (I 4 11).toInt < s.toInt))) := by
  refine CT_of (own := RX8) (ini := false) (lo := [(0, .ref (ad G 4)), (1, .int s)]) mf_X8_isTooLong (Nat.le_of_ble_eq_true rfl) rfl (fun h => by first | rfl | cases h) rfl ?_
  refine V_aload_n (pc := 0) 0 dX8_isTooLong_0 rfl rfl ?_
  refine V_gI (pc := 1) (v := (I 4 12)) rfl fk_X8_45_8 dX8_isTooLong_1 (wN hw (by decide)) (wS1 hw (by decide) rfl) ?_
  refine V_if_le (pc := 4) (tgt := 19) dX8_isTooLong_4 (by decide) (fun c_4_1 => ?_) (fun c_4_1 => ?_)
  · have c_4_1 : (I 4 12).toInt ≤ 0 := c_4_1
    refine V_iconst (pc := 19) (v := 0) dX8_isTooLong_19 rfl ?_
    refine V_iret (pc := 20) rfl rfl dX8_isTooLong_20 (by omega) (by omega) ?_
    exact ⟨rfl, rfl, rfl, rfl, rfl, Or.inr ⟨by omega, rfl⟩⟩
  · have c_4_1 : 0 < (I 4 12).toInt := c_4_1
    refine V_iload_n (pc := 7) 1 dX8_isTooLong_7 rfl rfl ?_
    refine V_aload_n (pc := 8) 0 dX8_isTooLong_8 rfl rfl ?_
    refine V_gI (pc := 9) (v := (I 4 11)) rfl fk_X8_61_8 dX8_isTooLong_9 (wN hw (by decide)) (wS1 hw (by decide) rfl) ?_
    refine V_icmp_le (pc := 12) (tgt := 19) dX8_isTooLong_12 (by decide) (fun c_12_2 => ?_) (fun c_12_2 => ?_)
    · have c_12_2 : s.toInt ≤ (I 4 11).toInt := c_12_2
      refine V_iconst (pc := 19) (v := 0) dX8_isTooLong_19 rfl ?_
      refine V_iret (pc := 20) rfl rfl dX8_isTooLong_20 (by omega) (by omega) ?_
      exact ⟨rfl, rfl, rfl, rfl, rfl, Or.inr ⟨by omega, rfl⟩⟩
    · have c_12_2 : (I 4 11).toInt < s.toInt := c_12_2
      refine V_iconst (pc := 15) (v := 1) dX8_isTooLong_15 rfl ?_
      refine V_goto (pc := 16) (tgt := 20) dX8_isTooLong_16 (by decide) ?_
      refine V_iret (pc := 20) rfl rfl dX8_isTooLong_20 (by omega) (by omega) ?_
      exact ⟨rfl, rfl, rfl, rfl, rfl, Or.inl ⟨by omega, rfl⟩⟩
set_option maxRecDepth 100000 in
set_option maxHeartbeats 4000000 in
theorem l_X8_found (G : vG) {n : Nat} {sh : vS} {I : vI} {L : vL} {R : vR} (c s : Int32) (hw : WF n sh R) (hc : 0 ≤ c.toInt ∧ c.toInt ≤ 10) (h12 : (I 4 12).toInt < 1000000) (hn : ¬ (0 < (I 4 12).toInt ∧ s.toInt = (I 4 11).toInt)) : ∀ (f m : Nat) (k : Int32) (J : vI) (hm : (m : Int) ≤ c.toInt) (hk : k.toInt = (m : Int)) (hJ : J = (cpF (up2 (up2 (up2 I 4 12 1) 4 11 s) 4 10 c) 10 0 (fun k => I 9 k) m)) (hf : c.toInt < (m : Int) + f), V G RX8 cX8_found (none) false 0 0 0 4 (PI n sh L R (fun I' o => (((0 < (I 4 12).toInt ∧ s.toInt = (I 4 11).toInt) ∧ ∃ v : Int32, v.toInt = (I 4 12).toInt + 1 ∧ up2 I 4 12 v = I') ∨ (¬ (0 < (I 4 12).toInt ∧ s.toInt = (I 4 11).toInt) ∧ (cpF (up2 (up2 (up2 I 4 12 1) 4 11 s) 4 10 c) 10 0 (fun k => I 9 k) c.toInt.toNat) = I')) ∧ o = none)) 43 [(0, .ref (ad G 4)), (1, .int c), (2, .int s), (3, .int k)] [] 0 0 n sh J L R := by
  intro f
  induction f with
  | zero => intro m k J hm hk hJ hf; omega
  | succ f ih =>
    intro m k J hm hk hJ hf
    have eJ : J 9 m = I 9 m := by rw [hJ, cpF_o (by omega)]; rfl
    refine V_iload_n (pc := 43) 3 dX8_found_43 rfl rfl ?_
    refine V_iload_n (pc := 44) 1 dX8_found_44 rfl rfl ?_
    refine V_icmp_ge (pc := 45) (tgt := 66) dX8_found_45 (by decide) (fun c_45_1 => ?_) (fun c_45_1 => ?_)
    · have c_45_1 : c.toInt ≤ k.toInt := c_45_1
      refine V_vret (pc := 66) rfl dX8_found_66 (by omega) (by omega) ?_
      have e1 : c.toInt.toNat = m := by omega
      rw [e1, ← hJ]
      exact ⟨rfl, rfl, rfl, rfl, Or.inr ⟨hn, rfl⟩, rfl⟩
    · have c_45_1 : k.toInt < c.toInt := c_45_1
      refine V_aload_n (pc := 48) 0 dX8_found_48 rfl rfl ?_
      refine V_getR (pc := 49) (j := 10) fk_X8_27_8 (wR hw (i := 4) (k := 9) (j := 10) rfl) dX8_found_49 (wN hw (by decide)) (wS1 hw (by decide) rfl) ?_
      refine V_iload_n (pc := 52) 3 dX8_found_52 rfl rfl ?_
      refine V_aload_n (pc := 53) 0 dX8_found_53 rfl rfl ?_
      refine V_getR (pc := 54) (j := 9) fk_X8_24_8 (wR hw (i := 4) (k := 5) (j := 9) rfl) dX8_found_54 (wN hw (by decide)) (wS1 hw (by decide) rfl) ?_
      refine V_iload_n (pc := 57) 3 dX8_found_57 rfl rfl ?_
      refine V_ia (pc := 58) (k := m) (v := (J 9 m)) rfl dX8_found_58 (wN hw (by decide)) (wS hw (by decide) rfl) hk (by omega) ?_
      refine V_iask (pc := 59) (k := m) dX8_found_59 (wN hw (by decide)) (wS hw (by decide) rfl) hk (by omega) ?_
      obtain ⟨x_60_2, e_60_2⟩ : ∃ y : Int32, y = k + (1) := ⟨_, rfl⟩
      have t_60_2 : x_60_2.toInt = k.toInt + 1 := addT e_60_2 rfl rfl (by omega) (by omega)
      refine V_iinc (pc := 60) (v := x_60_2) (lo' := [(0, .ref (ad G 4)), (1, .int c), (2, .int s), (3, .int x_60_2)]) 3 dX8_found_60 rfl e_60_2.symm (by decide) rfl ?_
      refine V_goto (pc := 63) (tgt := 43) dX8_found_63 (by decide) ?_
      exact ih (m + 1) x_60_2 _ (by omega) (by omega) (by rw [eJ]; subst hJ; show _ = up2 (cpF _ _ _ _ m) _ _ _; simp) (by omega)
set_option maxRecDepth 100000 in
set_option maxHeartbeats 4000000 in
theorem c_X8_found (G : vG) {n : Nat} {sh : vS} {I : vI} {L : vL} {R : vR} (c s : Int32) (hw : WF n sh R) (hc : 0 ≤ c.toInt ∧ c.toInt ≤ 10) (h12 : (I 4 12).toInt < 1000000) : CT G yX8_found cX8_found 4 (none) 0 0 0 [.ref (ad G 4), .int c, .int s] n sh I L R (PI n sh L R (fun I' o => (((0 < (I 4 12).toInt ∧ s.toInt = (I 4 11).toInt) ∧ ∃ v : Int32, v.toInt = (I 4 12).toInt + 1 ∧ up2 I 4 12 v = I') ∨ (¬ (0 < (I 4 12).toInt ∧ s.toInt = (I 4 11).toInt) ∧ (cpF (up2 (up2 (up2 I 4 12 1) 4 11 s) 4 10 c) 10 0 (fun k => I 9 k) c.toInt.toNat) = I')) ∧ o = none)) := by
  refine CT_of (own := RX8) (ini := false) (lo := [(0, .ref (ad G 4)), (1, .int c), (2, .int s)]) mf_X8_found (Nat.le_of_ble_eq_true rfl) rfl (fun h => by first | rfl | cases h) rfl ?_
  refine V_aload_n (pc := 0) 0 dX8_found_0 rfl rfl ?_
  refine V_gI (pc := 1) (v := (I 4 12)) rfl fk_X8_45_8 dX8_found_1 (wN hw (by decide)) (wS1 hw (by decide) rfl) ?_
  refine V_if_le (pc := 4) (tgt := 26) dX8_found_4 (by decide) (fun c_4_1 => ?_) (fun c_4_1 => ?_)
  · have c_4_1 : (I 4 12).toInt ≤ 0 := c_4_1
    refine V_aload_n (pc := 26) 0 dX8_found_26 rfl rfl ?_
    refine V_iconst (pc := 27) (v := 1) dX8_found_27 rfl ?_
    refine V_putI (pc := 28) fw_X8_45_8 rfl rfl dX8_found_28 (wN hw (by decide)) (wS1 hw (by decide) rfl) ?_
    refine V_aload_n (pc := 31) 0 dX8_found_31 rfl rfl ?_
    refine V_iload_n (pc := 32) 2 dX8_found_32 rfl rfl ?_
    refine V_putI (pc := 33) fw_X8_61_8 rfl rfl dX8_found_33 (wN hw (by decide)) (wS1 hw (by decide) rfl) ?_
    refine V_aload_n (pc := 36) 0 dX8_found_36 rfl rfl ?_
    refine V_iload_n (pc := 37) 1 dX8_found_37 rfl rfl ?_
    refine V_putI (pc := 38) fw_X8_64_8 rfl rfl dX8_found_38 (wN hw (by decide)) (wS1 hw (by decide) rfl) ?_
    refine V_iconst (pc := 41) (v := 0) dX8_found_41 rfl ?_
    refine V_istore_n (pc := 42) (lo' := [(0, .ref (ad G 4)), (1, .int c), (2, .int s), (3, .int 0)]) dX8_found_42 rfl (by decide) rfl ?_
    exact l_X8_found G c s hw hc h12 (by omega) (c.toInt.toNat + 1) 0 0 _ (by omega) rfl rfl (by omega)
  · have c_4_1 : 0 < (I 4 12).toInt := c_4_1
    refine V_iload_n (pc := 7) 2 dX8_found_7 rfl rfl ?_
    refine V_aload_n (pc := 8) 0 dX8_found_8 rfl rfl ?_
    refine V_gI (pc := 9) (v := (I 4 11)) rfl fk_X8_61_8 dX8_found_9 (wN hw (by decide)) (wS1 hw (by decide) rfl) ?_
    refine V_icmp_ne (pc := 12) (tgt := 26) dX8_found_12 (by decide) (fun c_12_2 => ?_) (fun c_12_2 => ?_)
    · have c_12_2 : s.toInt ≠ (I 4 11).toInt := c_12_2
      refine V_aload_n (pc := 26) 0 dX8_found_26 rfl rfl ?_
      refine V_iconst (pc := 27) (v := 1) dX8_found_27 rfl ?_
      refine V_putI (pc := 28) fw_X8_45_8 rfl rfl dX8_found_28 (wN hw (by decide)) (wS1 hw (by decide) rfl) ?_
      refine V_aload_n (pc := 31) 0 dX8_found_31 rfl rfl ?_
      refine V_iload_n (pc := 32) 2 dX8_found_32 rfl rfl ?_
      refine V_putI (pc := 33) fw_X8_61_8 rfl rfl dX8_found_33 (wN hw (by decide)) (wS1 hw (by decide) rfl) ?_
      refine V_aload_n (pc := 36) 0 dX8_found_36 rfl rfl ?_
      refine V_iload_n (pc := 37) 1 dX8_found_37 rfl rfl ?_
      refine V_putI (pc := 38) fw_X8_64_8 rfl rfl dX8_found_38 (wN hw (by decide)) (wS1 hw (by decide) rfl) ?_
      refine V_iconst (pc := 41) (v := 0) dX8_found_41 rfl ?_
      refine V_istore_n (pc := 42) (lo' := [(0, .ref (ad G 4)), (1, .int c), (2, .int s), (3, .int 0)]) dX8_found_42 rfl (by decide) rfl ?_
      exact l_X8_found G c s hw hc h12 (by omega) (c.toInt.toNat + 1) 0 0 _ (by omega) rfl rfl (by omega)
    · have c_12_2 : s.toInt = (I 4 11).toInt := c_12_2
      refine V_aload_n (pc := 15) 0 dX8_found_15 rfl rfl ?_
      refine V_dup (pc := 16) dX8_found_16 rfl ?_
      refine V_gI (pc := 17) (v := (I 4 12)) rfl fk_X8_45_8 dX8_found_17 (wN hw (by decide)) (wS1 hw (by decide) rfl) ?_
      refine V_iconst (pc := 20) (v := 1) dX8_found_20 rfl ?_
      refine V_iadd (pc := 21) dX8_found_21 (fun x_21_3 e_21_3 => ?_)
      have t_21_3 : x_21_3.toInt = (I 4 12).toInt + 1 := addT e_21_3 rfl rfl (by omega) (by omega)
      refine V_putI (pc := 22) fw_X8_45_8 rfl rfl dX8_found_22 (wN hw (by decide)) (wS1 hw (by decide) rfl) ?_
      refine V_vret (pc := 25) rfl dX8_found_25 (by omega) (by omega) ?_
      exact ⟨rfl, rfl, rfl, rfl, Or.inl ⟨⟨by omega, by omega⟩, _, by omega, rfl⟩, rfl⟩
set_option maxRecDepth 100000 in
set_option maxHeartbeats 4000000 in
theorem c_X8_addExit (G : vG) {n : Nat} {sh : vS} {I : vI} {L : vL} {R : vR} (X : vI) (s r j : Nat) (sv rv : Int32) (hw : WF n sh R) (hsv : sv.toInt = (s : Int)) (hrv : rv.toInt = (r : Int)) (h10 : s < 10) (h16 : r < 16) (hR : RD n sh I R X r j) (hX : (I 5 s).toInt = (cE X (s : Int) r : Int)) : CT G yX8_addExit cX8_addExit 6 (none) 5 0 0 [.ref (ad G 4), .int sv, .int rv, .ref (ad G j)] n sh I L R (PI n sh L R (fun I' o => ((leadsF X r (s : Int) < 0 ∧ I = I') ∨ (¬ leadsF X r (s : Int) < 0 ∧ ∃ ve vc : Int32, ve.toInt = leadsF X r (s : Int) ∧ vc.toInt = (cE X (s : Int) r : Int) + 1 ∧ aeF I X s r rv ve vc = I')) ∧ o = none)) := by
  refine CT_of (own := RX8) (ini := false) (lo := [(0, .ref (ad G 4)), (1, .int sv), (2, .int rv), (3, .ref (ad G j))]) mf_X8_addExit (Nat.le_of_ble_eq_true rfl) rfl (fun h => by first | rfl | cases h) rfl ?_
  have hle := cE_le X (s : Int) r
  have h56 := hR.2.1
  have hlen : I j 2 = X 30 r := hR.2.2.2.2.1.2.2.1
  refine V_aload_n (pc := 0) 3 dX8_addExit_0 rfl rfl ?_
  refine V_iload_n (pc := 1) 1 dX8_addExit_1 rfl rfl ?_
  refine V_endF (pc := 2) (st := []) (s := sv) hw hR ov_X8_52_7 ov_X8_52_6 ov_X8_52_3 dX8_addExit_2 (by omega) (by omega) (by omega) (Nat.le_of_ble_eq_true rfl) (fun v_2_1 hv_2_1 => ?_)
  rw [hsv] at hv_2_1
  have hl_2_1 := le_2 hv_2_1
  refine V_istore (pc := 5) (lo' := [(0, .ref (ad G 4)), (1, .int sv), (2, .int rv), (3, .ref (ad G j)), (4, .int v_2_1)]) dX8_addExit_5 (by decide) rfl ?_
  refine V_iload (pc := 7) 4 dX8_addExit_7 rfl ?_
  refine V_bipush (pc := 9) (v := (-9)) dX8_addExit_9 rfl ?_
  refine V_icmp_ne (pc := 11) (tgt := 15) dX8_addExit_11 (by decide) (fun c_11_2 => ?_) (fun c_11_2 => ?_)
  · have c_11_2 : v_2_1.toInt ≠ (-9) := c_11_2
    refine V_iload_n (pc := 15) 1 dX8_addExit_15 rfl rfl ?_
    refine V_bipush (pc := 16) (v := 16) dX8_addExit_16 rfl ?_
    refine V_imul (pc := 18) dX8_addExit_18 (fun x_18_3 e_18_3 => ?_)
    have t_18_3 : x_18_3.toInt = sv.toInt * 16 := mulT e_18_3 rfl rfl (by omega) (by omega)
    refine V_aload_n (pc := 19) 0 dX8_addExit_19 rfl rfl ?_
    refine V_getR (pc := 20) (j := 5) fk_X8_9_8 (wR hw (i := 4) (k := 0) (j := 5) rfl) dX8_addExit_20 (wN hw (by decide)) (wS1 hw (by decide) rfl) ?_
    refine V_iload_n (pc := 23) 1 dX8_addExit_23 rfl rfl ?_
    refine V_ia (pc := 24) (k := s) (v := (I 5 s)) rfl dX8_addExit_24 (wN hw (by decide)) (wS hw (by decide) rfl) hsv (by omega) ?_
    refine V_iadd (pc := 25) dX8_addExit_25 (fun x_25_4 e_25_4 => ?_)
    have t_25_4 : x_25_4.toInt = x_18_3.toInt + (I 5 s).toInt := addT e_25_4 rfl rfl (by omega) (by omega)
    refine V_istore (pc := 26) (lo' := [(0, .ref (ad G 4)), (1, .int sv), (2, .int rv), (3, .ref (ad G j)), (4, .int v_2_1), (5, .int x_25_4)]) dX8_addExit_26 (by decide) rfl ?_
    refine V_aload_n (pc := 28) 0 dX8_addExit_28 rfl rfl ?_
    refine V_getR (pc := 29) (j := 6) fk_X8_15_8 (wR hw (i := 4) (k := 1) (j := 6) rfl) dX8_addExit_29 (wN hw (by decide)) (wS1 hw (by decide) rfl) ?_
    refine V_iload (pc := 32) 5 dX8_addExit_32 rfl ?_
    refine V_iload_n (pc := 34) 2 dX8_addExit_34 rfl rfl ?_
    refine V_iask (pc := 35) (k := (16 * s + cE X (s : Int) r)) dX8_addExit_35 (wN hw (by decide)) (wS hw (by decide) rfl) (by omega) (by omega) ?_
    refine V_aload_n (pc := 36) 0 dX8_addExit_36 rfl rfl ?_
    refine V_getR (pc := 37) (j := 7) fk_X8_18_8 (wR hw (i := 4) (k := 2) (j := 7) rfl) dX8_addExit_37 (wN hw (by decide)) (wS1 hw (by decide) rfl) ?_
    refine V_iload (pc := 40) 5 dX8_addExit_40 rfl ?_
    refine V_iload (pc := 42) 4 dX8_addExit_42 rfl ?_
    refine V_iask (pc := 44) (k := (16 * s + cE X (s : Int) r)) dX8_addExit_44 (wN hw (by decide)) (wS hw (by decide) rfl) (by omega) (by omega) ?_
    refine V_aload_n (pc := 45) 0 dX8_addExit_45 rfl rfl ?_
    refine V_getR (pc := 46) (j := 8) fk_X8_21_8 (wR hw (i := 4) (k := 3) (j := 8) rfl) dX8_addExit_46 (wN hw (by decide)) (wS1 hw (by decide) rfl) ?_
    refine V_iload (pc := 49) 5 dX8_addExit_49 rfl ?_
    refine V_aload_n (pc := 51) 3 dX8_addExit_51 rfl rfl ?_
    refine V_gI (pc := 52) (v := (I j 2)) (by simp [up2, show ¬ j = 5 by omega, show ¬ j = 6 by omega, show ¬ j = 7 by omega, show ¬ j = 8 by omega]) (fk_X8_58_s (rdcl hR)) dX8_addExit_52 hR.2.2.1 rfl ?_
    refine V_iask (pc := 55) (k := (16 * s + cE X (s : Int) r)) dX8_addExit_55 (wN hw (by decide)) (wS hw (by decide) rfl) (by omega) (by omega) ?_
    refine V_aload_n (pc := 56) 0 dX8_addExit_56 rfl rfl ?_
    refine V_getR (pc := 57) (j := 5) fk_X8_9_8 (wR hw (i := 4) (k := 0) (j := 5) rfl) dX8_addExit_57 (wN hw (by decide)) (wS1 hw (by decide) rfl) ?_
    refine V_iload_n (pc := 60) 1 dX8_addExit_60 rfl rfl ?_
    refine V_dup2 (pc := 61) dX8_addExit_61 rfl rfl ?_
    refine V_ia (pc := 62) (k := s) (v := (I 5 s)) rfl dX8_addExit_62 (wN hw (by decide)) (wS hw (by decide) rfl) hsv (by omega) ?_
    refine V_iconst (pc := 63) (v := 1) dX8_addExit_63 rfl ?_
    refine V_iadd (pc := 64) dX8_addExit_64 (fun x_64_5 e_64_5 => ?_)
    have t_64_5 : x_64_5.toInt = (I 5 s).toInt + 1 := addT e_64_5 rfl rfl (by omega) (by omega)
    refine V_iask (pc := 65) (k := s) dX8_addExit_65 (wN hw (by decide)) (wS hw (by decide) rfl) hsv (by omega) ?_
    refine V_vret (pc := 66) rfl dX8_addExit_66 (by omega) (by omega) ?_
    have h9 : (-9 : Int32).toInt = -9 := rfl
    exact ⟨rfl, rfl, rfl, rfl, Or.inr ⟨by omega, v_2_1, x_64_5, by omega, by omega, by unfold aeF; rw [← hlen]⟩, rfl⟩
  · have c_11_2 : v_2_1.toInt = (-9) := c_11_2
    refine V_vret (pc := 14) rfl dX8_addExit_14 (by omega) (by omega) ?_
    exact ⟨rfl, rfl, rfl, rfl, Or.inl ⟨by omega, rfl⟩, rfl⟩
