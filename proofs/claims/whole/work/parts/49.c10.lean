set_option maxRecDepth 100000 in
set_option maxHeartbeats 4000000 in
theorem l_X8_begin_in (G : vG) {n : Nat} {sh : vS} {I : vI} {L : vL} {R : vR} {post : PT} (X : vI) (s : Nat) (sv : Int32) (hw : WF n sh R) (c : Int32) (hcN : c.toInt = (X 27 1).toInt) (hR : JRd n sh I R X) (hsv : sv.toInt = (s : Int)) (h10 : s < 10) (K : ∀ J : vI, bfr I J → (∀ q, q < s → ExR J X q (X 27 1).toInt.toNat) → ExR J X s (X 27 1).toInt.toNat → V G RX8 cX8_begin (none) false 6 0 0 6 post 70 [(0, .ref (ad G 4)), (1, .ref (ad G 1)), (2, .int c), (3, .ref (ad G 2)), (4, .int sv)] [] 0 0 n sh J L R) : ∀ (f m : Nat) (k : Int32) (J : vI) (hm : (m : Int) ≤ (X 27 1).toInt) (hk : k.toInt = (m : Int)) (hb : bfr I J) (hE0 : ∀ q, q < s → ExR J X q (X 27 1).toInt.toNat) (hE : ExR J X s m) (hf : (X 27 1).toInt < (m : Int) + f), V G RX8 cX8_begin (none) false 6 0 0 6 post 46 [(0, .ref (ad G 4)), (1, .ref (ad G 1)), (2, .int c), (3, .ref (ad G 2)), (4, .int sv), (5, .int k)] [] 0 0 n sh J L R := by
  intro f
  induction f with
  | zero => intro m k J hm hk hb hE0 hE hf; omega
  | succ f ih =>
    intro m k J hm hk hb hE0 hE hf
    have hN := hR.2.1
    refine V_iload (pc := 46) 5 dX8_begin_46 rfl ?_
    refine V_iload_n (pc := 48) 2 dX8_begin_48 rfl rfl ?_
    refine V_icmp_ge (pc := 49) (tgt := 70) dX8_begin_49 (by decide) (fun c_49_1 => ?_) (fun c_49_1 => ?_)
    · have c_49_1 : c.toInt ≤ k.toInt := c_49_1
      refine V_lo (pc := 70) (lo' := [(0, .ref (ad G 4)), (1, .ref (ad G 1)), (2, .int c), (3, .ref (ad G 2)), (4, .int sv)]) [0, 1, 2, 3, 4] rfl ?_
      have e1 : (X 27 1).toInt.toNat = m := by omega
      exact K _ hb hE0 (by rw [e1]; exact hE)
    · have c_49_1 : k.toInt < c.toInt := c_49_1
      refine V_aload_n (pc := 52) 0 dX8_begin_52 rfl rfl ?_
      refine V_iload (pc := 53) 4 dX8_begin_53 rfl ?_
      refine V_iload (pc := 55) 5 dX8_begin_55 rfl ?_
      refine V_aload_n (pc := 57) 1 dX8_begin_57 rfl rfl ?_
      refine V_iload (pc := 58) 5 dX8_begin_58 rfl ?_
      refine V_aalk (pc := 60) (t := 2) (N := 16) (k := m) (j := (oj R 1 m)) dX8_begin_60 (wN hw (by decide)) (wS hw (by decide) rfl) (by decide) (by decide) hk (by omega) (hR.2.2.1 m (by omega)).1 ?_
      refine V_callV (pc := 61) (As := [.int sv, .int k, .ref (ad G (oj R 1 m))]) (st := []) (c_X8_addExit G X s m (oj R 1 m) sv k hw hsv hk h10 (by omega) (RD_fr (hR.2.2.1 m (by omega)) (bfr_56 hb) rfl) hE.1) mf_X8_addExit ml_X8_48 iv_X8_addExit (wN hw (by decide)) (wS1 hw (by decide) rfl) (by decide) rfl dX8_begin_61 rfl rfl (by omega) (by omega) (by omega) (Nat.le_of_ble_eq_true rfl) (fun r_61_2 n_61_2 sh_61_2 I_61_2 L_61_2 R_61_2 hq_61_2 => ?_)
      obtain ⟨rfl, rfl, rfl, rfl, hq_61_2, rfl⟩ := hq_61_2
      rcases hq_61_2 with ⟨hlt, rfl⟩ | ⟨hge, ve, vc, hve, hvc, rfl⟩
      · skip
        obtain ⟨x_64_3, e_64_3⟩ : ∃ y : Int32, y = k + (1) := ⟨_, rfl⟩
        have t_64_3 : x_64_3.toInt = k.toInt + 1 := addT e_64_3 rfl rfl (by omega) (by omega)
        refine V_iinc (pc := 64) (v := x_64_3) (lo' := [(0, .ref (ad G 4)), (1, .ref (ad G 1)), (2, .int c), (3, .ref (ad G 2)), (4, .int sv), (5, .int x_64_3)]) 5 dX8_begin_64 rfl e_64_3.symm (by decide) rfl ?_
        refine V_goto (pc := 67) (tgt := 46) dX8_begin_67 (by decide) ?_
        exact ih (m + 1) x_64_3 _ (by omega) (by omega) hb hE0 (ExR_f hE hlt) (by omega)
      · skip
        obtain ⟨x_64_4, e_64_4⟩ : ∃ y : Int32, y = k + (1) := ⟨_, rfl⟩
        have t_64_4 : x_64_4.toInt = k.toInt + 1 := addT e_64_4 rfl rfl (by omega) (by omega)
        refine V_iinc (pc := 64) (v := x_64_4) (lo' := [(0, .ref (ad G 4)), (1, .ref (ad G 1)), (2, .int c), (3, .ref (ad G 2)), (4, .int sv), (5, .int x_64_4)]) 5 dX8_begin_64 rfl e_64_4.symm (by decide) rfl ?_
        refine V_goto (pc := 67) (tgt := 46) dX8_begin_67 (by decide) ?_
        exact ih (m + 1) x_64_4 _ (by omega) (by omega) (bfr_a hb) (fun q hq => ExR_o (hE0 q hq) (by omega) (by omega) (by omega)) (ExR_s hE hge hk hve hvc) (by omega)
set_option maxRecDepth 100000 in
set_option maxHeartbeats 4000000 in
theorem l_X8_begin (G : vG) {n : Nat} {sh : vS} {I : vI} {L : vL} {R : vR} (X : vI) (hw : WF n sh R) (c : Int32) (hcN : c.toInt = (X 27 1).toInt) (hR : JRd n sh I R X) : ∀ (f m : Nat) (k : Int32) (J : vI) (hm : (m : Int) ≤ (10 : Int)) (hk : k.toInt = (m : Int)) (hb : bfr I J) (hE0 : ∀ q, q < m → ExR J X q (X 27 1).toInt.toNat) (hf : (10 : Int) < (m : Int) + f), V G RX8 cX8_begin (none) false 6 0 0 6 (PI n sh L R (fun I' o => BG I I' X ∧ o = none)) 28 [(0, .ref (ad G 4)), (1, .ref (ad G 1)), (2, .int c), (3, .ref (ad G 2)), (4, .int k)] [] 0 0 n sh J L R := by
  intro f
  induction f with
  | zero => intro m k J hm hk hb hE0 hf; omega
  | succ f ih =>
    intro m k J hm hk hb hE0 hf
    refine V_iload (pc := 28) 4 dX8_begin_28 rfl ?_
    refine V_bipush (pc := 30) (v := 10) dX8_begin_30 rfl ?_
    refine V_icmp_ge (pc := 32) (tgt := 76) dX8_begin_32 (by decide) (fun c_32_1 => ?_) (fun c_32_1 => ?_)
    · have c_32_1 : 10 ≤ k.toInt := c_32_1
      refine V_vret (pc := 76) rfl dX8_begin_76 (by omega) (by omega) ?_
      exact ⟨rfl, rfl, rfl, rfl, ⟨fun q hq => hE0 q (by omega), hb⟩, rfl⟩
    · have c_32_1 : k.toInt < 10 := c_32_1
      refine V_aload_n (pc := 35) 0 dX8_begin_35 rfl rfl ?_
      refine V_getR (pc := 36) (j := 5) fk_X8_9_8 (wR hw (i := 4) (k := 0) (j := 5) rfl) dX8_begin_36 (wN hw (by decide)) (wS1 hw (by decide) rfl) ?_
      refine V_iload (pc := 39) 4 dX8_begin_39 rfl ?_
      refine V_iconst (pc := 41) (v := 0) dX8_begin_41 rfl ?_
      refine V_iask (pc := 42) (k := m) dX8_begin_42 (wN hw (by decide)) (wS hw (by decide) rfl) hk (by omega) ?_
      refine V_iconst (pc := 43) (v := 0) dX8_begin_43 rfl ?_
      refine V_istore (pc := 44) (lo' := [(0, .ref (ad G 4)), (1, .ref (ad G 1)), (2, .int c), (3, .ref (ad G 2)), (4, .int k), (5, .int 0)]) dX8_begin_44 (by decide) rfl ?_
      refine l_X8_begin_in G X m k hw c hcN hR hk (by omega) (fun J2 hb2 hE2 hE3 => ?_) ((X 27 1).toInt.toNat + 1) 0 0 _ (by have := hR.2.1; omega) rfl (bfr_z hb) (fun q hq => ExR_z (hE0 q hq) (by omega)) ExR_0 (by omega)
      obtain ⟨x_70_2, e_70_2⟩ : ∃ y : Int32, y = k + (1) := ⟨_, rfl⟩
      have t_70_2 : x_70_2.toInt = k.toInt + 1 := addT e_70_2 rfl rfl (by omega) (by omega)
      refine V_iinc (pc := 70) (v := x_70_2) (lo' := [(0, .ref (ad G 4)), (1, .ref (ad G 1)), (2, .int c), (3, .ref (ad G 2)), (4, .int x_70_2)]) 4 dX8_begin_70 rfl e_70_2.symm (by decide) rfl ?_
      refine V_goto (pc := 73) (tgt := 28) dX8_begin_73 (by decide) ?_
      exact ih (m + 1) x_70_2 _ (by omega) (by omega) hb2 (fun q hq => by
        rcases (show q < m ∨ q = m by omega) with z | z
        · exact hE2 q z
        · rw [z]; exact hE3) (by omega)
set_option maxRecDepth 100000 in
set_option maxHeartbeats 4000000 in
theorem c_X8_begin (G : vG) {n : Nat} {sh : vS} {I : vI} {L : vL} {R : vR} (X : vI) (c : Int32) (hw : WF n sh R) (hcN : c.toInt = (X 27 1).toInt) (hR : JRd n sh I R X) : CT G yX8_begin cX8_begin 6 (none) 6 0 0 [.ref (ad G 4), .ref (ad G 1), .int c, .ref (ad G 2)] n sh I L R (PI n sh L (up2 R 4 4 (some 2)) (fun I' o => BG (up2 (up2 (up2 (up2 I 4 6 0) 4 7 0) 4 8 0) 4 12 0) I' X ∧ o = none)) := by
  refine CT_of (own := RX8) (ini := false) (lo := [(0, .ref (ad G 4)), (1, .ref (ad G 1)), (2, .int c), (3, .ref (ad G 2))]) mf_X8_begin (Nat.le_of_ble_eq_true rfl) rfl (fun h => by first | rfl | cases h) rfl ?_
  refine V_aload_n (pc := 0) 0 dX8_begin_0 rfl rfl ?_
  refine V_aload_n (pc := 1) 3 dX8_begin_1 rfl rfl ?_
  refine V_putR (pc := 2) fw_X8_30_8 rfl rfl dX8_begin_2 (wN hw (by decide)) (wS1 hw (by decide) rfl) ?_
  refine V_aload_n (pc := 5) 0 dX8_begin_5 rfl rfl ?_
  refine V_iconst (pc := 6) (v := 0) dX8_begin_6 rfl ?_
  refine V_putI (pc := 7) fw_X8_34_8 rfl rfl dX8_begin_7 (wN hw (by decide)) (wS1 hw (by decide) rfl) ?_
  refine V_aload_n (pc := 10) 0 dX8_begin_10 rfl rfl ?_
  refine V_iconst (pc := 11) (v := 0) dX8_begin_11 rfl ?_
  refine V_putI (pc := 12) fw_X8_38_8 rfl rfl dX8_begin_12 (wN hw (by decide)) (wS1 hw (by decide) rfl) ?_
  refine V_aload_n (pc := 15) 0 dX8_begin_15 rfl rfl ?_
  refine V_iconst (pc := 16) (v := 0) dX8_begin_16 rfl ?_
  refine V_putI (pc := 17) fw_X8_41_8 rfl rfl dX8_begin_17 (wN hw (by decide)) (wS1 hw (by decide) rfl) ?_
  refine V_aload_n (pc := 20) 0 dX8_begin_20 rfl rfl ?_
  refine V_iconst (pc := 21) (v := 0) dX8_begin_21 rfl ?_
  refine V_putI (pc := 22) fw_X8_45_8 rfl rfl dX8_begin_22 (wN hw (by decide)) (wS1 hw (by decide) rfl) ?_
  refine V_iconst (pc := 25) (v := 0) dX8_begin_25 rfl ?_
  refine V_istore (pc := 26) (lo' := [(0, .ref (ad G 4)), (1, .ref (ad G 1)), (2, .int c), (3, .ref (ad G 2)), (4, .int 0)]) dX8_begin_26 (by decide) rfl ?_
  exact l_X8_begin G X (WF_s hw) c hcN (JRd_fr (J := (up2 (up2 (up2 (up2 I 4 6 0) 4 7 0) 4 8 0) 4 12 0)) (R' := (up2 R 4 4 (some 2))) hR rfl (fun a ha => by repeat rw [up2_o (by omega)]) (by rw [up2_o (by omega)])) 11 0 0 _ (by omega) rfl bfr_r (fun q hq => absurd hq (Nat.not_lt_zero q)) (by omega)
