set_option maxRecDepth 100000 in
set_option maxHeartbeats 4000000 in
theorem l_X11_isControlAt (G : vG) {n : Nat} {sh : vS} {I : vI} {L : vL} {R : vR} (X : vI) (p : Int32) (hw : WF n sh R) (hC : JC n sh I L R X) : ∀ (f m : Nat) (k : Int32) (hm : (m : Int) ≤ (X 27 30).toInt) (hk : k.toInt = (m : Int)) (he : exE (X 47) p.toInt m = false) (hf : (X 27 30).toInt < (m : Int) + f), V G RX11 cX11_isControlAt (some .boolean) false 0 0 0 3 (PI n sh L R (fun I' o => I = I' ∧ rb o (exE (X 47) p.toInt (X 27 30).toInt.toNat = true))) 2 [(0, .ref (ad G 0)), (1, .int p), (2, .int k)] [] 0 0 n sh I L R := by
  intro f
  induction f with
  | zero => intro m k hm hk he hf; omega
  | succ f ih =>
    intro m k hm hk he hf
    have hC1 : (I 0 6).toInt = (X 27 30).toInt := by rw [hC.1]
    have hC2 := hC.2.1
    have cm := cdF hC m
    refine V_iload_n (pc := 2) 2 dX11_isControlAt_2 rfl rfl ?_
    refine V_aload_n (pc := 3) 0 dX11_isControlAt_3 rfl rfl ?_
    refine V_gI (pc := 4) (v := (I 0 6)) rfl fk_X11_186_11 dX11_isControlAt_4 (wN hw (by decide)) (wS1 hw (by decide) rfl) ?_
    refine V_icmp_ge (pc := 7) (tgt := 31) dX11_isControlAt_7 (by decide) (fun c_7_1 => ?_) (fun c_7_1 => ?_)
    · have c_7_1 : (I 0 6).toInt ≤ k.toInt := c_7_1
      refine V_iconst (pc := 31) (v := 0) dX11_isControlAt_31 rfl ?_
      refine V_iret (pc := 32) rfl rfl dX11_isControlAt_32 (by omega) (by omega) ?_
      refine ⟨rfl, rfl, rfl, rfl, rfl, ?_⟩
      have e1 : (X 27 30).toInt.toNat = m := by omega
      rw [e1]
      exact Or.inr ⟨by rw [he]; exact Bool.noConfusion, rfl⟩
    · have c_7_1 : k.toInt < (I 0 6).toInt := c_7_1
      refine V_aload_n (pc := 10) 0 dX11_isControlAt_10 rfl rfl ?_
      refine V_getR (pc := 11) (j := 16) fk_X11_40_11 (wR hw (i := 0) (k := 5) (j := 16) rfl) dX11_isControlAt_11 (wN hw (by decide)) (wS1 hw (by decide) rfl) ?_
      refine V_iload_n (pc := 14) 2 dX11_isControlAt_14 rfl rfl ?_
      refine V_aalk (pc := 15) (t := 3) (N := 8) (k := m) (j := (oj R 16 m)) dX11_isControlAt_15 (wN hw (by decide)) (wS hw (by decide) rfl) (by decide) (by decide) hk (by omega) (hC.2.2.1 m (by omega)).1 ?_
      refine V_gI (pc := 16) (v := (I (oj R 16 m) 0)) rfl fk_X11_367_2 dX11_isControlAt_16 (hC.2.2.1 m (by omega)).2.2.1 (by rw [(hC.2.2.1 m (by omega)).2.2.2.1]) ?_
      refine V_iload_n (pc := 19) 1 dX11_isControlAt_19 rfl rfl ?_
      refine V_icmp_ne (pc := 20) (tgt := 25) dX11_isControlAt_20 (by decide) (fun c_20_2 => ?_) (fun c_20_2 => ?_)
      · have c_20_2 : (I (oj R 16 m) 0).toInt ≠ p.toInt := c_20_2
        obtain ⟨x_25_3, e_25_3⟩ : ∃ y : Int32, y = k + (1) := ⟨_, rfl⟩
        have t_25_3 : x_25_3.toInt = k.toInt + 1 := addT e_25_3 rfl rfl (by omega) (by omega)
        refine V_iinc (pc := 25) (v := x_25_3) (lo' := [(0, .ref (ad G 0)), (1, .int p), (2, .int x_25_3)]) 2 dX11_isControlAt_25 rfl e_25_3.symm (by decide) rfl ?_
        refine V_goto (pc := 28) (tgt := 2) dX11_isControlAt_28 (by decide) ?_
        exact ih (m + 1) x_25_3 (by omega) (by omega) (by unfold exE; rw [he, decide_eq_false (by omega)]; rfl) (by omega)
      · have c_20_2 : (I (oj R 16 m) 0).toInt = p.toInt := c_20_2
        refine V_iconst (pc := 23) (v := 1) dX11_isControlAt_23 rfl ?_
        refine V_iret (pc := 24) rfl rfl dX11_isControlAt_24 (by omega) (by omega) ?_
        refine ⟨rfl, rfl, rfl, rfl, rfl, ?_⟩
        exact Or.inl ⟨(exE_i _ _ _).mpr ⟨m, by omega, by omega⟩, rfl⟩
set_option maxRecDepth 100000 in
set_option maxHeartbeats 4000000 in
theorem c_X11_isControlAt (G : vG) {n : Nat} {sh : vS} {I : vI} {L : vL} {R : vR} (X : vI) (p : Int32) (hw : WF n sh R) (hC : JC n sh I L R X) : CT G yX11_isControlAt cX11_isControlAt 3 (some .boolean) 0 0 0 [.ref (ad G 0), .int p] n sh I L R (PI n sh L R (fun I' o => I = I' ∧ rb o (exE (X 47) p.toInt (X 27 30).toInt.toNat = true))) := by
  refine CT_of (own := RX11) (ini := false) (lo := [(0, .ref (ad G 0)), (1, .int p)]) mf_X11_isControlAt (Nat.le_of_ble_eq_true rfl) rfl (fun h => by first | rfl | cases h) rfl ?_
  refine V_iconst (pc := 0) (v := 0) dX11_isControlAt_0 rfl ?_
  refine V_istore_n (pc := 1) (lo' := [(0, .ref (ad G 0)), (1, .int p), (2, .int 0)]) dX11_isControlAt_1 rfl (by decide) rfl ?_
  exact l_X11_isControlAt G X p hw hC ((X 27 30).toInt.toNat + 1) 0 0 (by have := hC.2.1; omega) rfl rfl (by omega)
set_option maxRecDepth 100000 in
set_option maxHeartbeats 4000000 in
theorem l_X11_isOutOfOrder (G : vG) {n : Nat} {sh : vS} {I : vI} {L : vL} {R : vR} (X : vI) (a j cn : Nat) (c : Int32) (hw : WF n sh R) (hC : JC n sh I L R X) (hK : KD n sh I R X a j) (hcn : c.toInt = (cn : Int)) (hcl : (cn : Int) < (X 27 30).toInt) : ∀ (f m : Nat) (k : Int32) (hm : (m : Int) ≤ (X 27 30).toInt) (hk : k.toInt = (m : Int)) (hn : ∀ q, q < m → ¬ oooP X (a : Int) (cn : Int) q) (hf : (X 27 30).toInt < (m : Int) + f), V G RX11 cX11_isOutOfOrder (some .boolean) false 1 0 0 4 (PI n sh L R (fun I' o => I = I' ∧ rb o (ooo X (a : Int) (cn : Int)))) 2 [(0, .ref (ad G 0)), (1, .ref (ad G j)), (2, .int c), (3, .int k)] [] 0 0 n sh I L R := by
  intro f
  induction f with
  | zero => intro m k hm hk hn hf; omega
  | succ f ih =>
    intro m k hm hk hn hf
    have hC1 : (I 0 6).toInt = (X 27 30).toInt := by rw [hC.1]
    have hC2 := hC.2.1
    have cm := cdF hC m
    have cc := cdF hC cn
    have ko := fun z : m < 8 => koF hK m cn z (by omega)
    have kd := fun z : m < 8 => kdF hK m z
    refine V_iload_n (pc := 2) 3 dX11_isOutOfOrder_2 rfl rfl ?_
    refine V_aload_n (pc := 3) 0 dX11_isOutOfOrder_3 rfl rfl ?_
    refine V_gI (pc := 4) (v := (I 0 6)) rfl fk_X11_186_11 dX11_isOutOfOrder_4 (wN hw (by decide)) (wS1 hw (by decide) rfl) ?_
    refine V_icmp_ge (pc := 7) (tgt := 74) dX11_isOutOfOrder_7 (by decide) (fun c_7_1 => ?_) (fun c_7_1 => ?_)
    · have c_7_1 : (I 0 6).toInt ≤ k.toInt := c_7_1
      refine V_iconst (pc := 74) (v := 0) dX11_isOutOfOrder_74 rfl ?_
      refine V_iret (pc := 75) rfl rfl dX11_isOutOfOrder_75 (by omega) (by omega) ?_
      refine ⟨rfl, rfl, rfl, rfl, rfl, ?_⟩
      refine Or.inr ⟨fun ⟨q, q1, q2⟩ => hn q (by omega) q2, rfl⟩
    · have c_7_1 : k.toInt < (I 0 6).toInt := c_7_1
      refine V_aload_n (pc := 10) 0 dX11_isOutOfOrder_10 rfl rfl ?_
      refine V_getR (pc := 11) (j := 16) fk_X11_40_11 (wR hw (i := 0) (k := 5) (j := 16) rfl) dX11_isOutOfOrder_11 (wN hw (by decide)) (wS1 hw (by decide) rfl) ?_
      refine V_iload_n (pc := 14) 3 dX11_isOutOfOrder_14 rfl rfl ?_
      refine V_aalk (pc := 15) (t := 3) (N := 8) (k := m) (j := (oj R 16 m)) dX11_isOutOfOrder_15 (wN hw (by decide)) (wS hw (by decide) rfl) (by decide) (by decide) hk (by omega) (hC.2.2.1 m (by omega)).1 ?_
      refine V_gI (pc := 16) (v := (I (oj R 16 m) 1)) rfl fk_X11_210_2 dX11_isOutOfOrder_16 (hC.2.2.1 m (by omega)).2.2.1 (by rw [(hC.2.2.1 m (by omega)).2.2.2.1]) ?_
      refine V_if_ne (pc := 19) (tgt := 68) dX11_isOutOfOrder_19 (by decide) (fun c_19_2 => ?_) (fun c_19_2 => ?_)
      · have c_19_2 : (I (oj R 16 m) 1).toInt ≠ 0 := c_19_2
        obtain ⟨x_68_3, e_68_3⟩ : ∃ y : Int32, y = k + (1) := ⟨_, rfl⟩
        have t_68_3 : x_68_3.toInt = k.toInt + 1 := addT e_68_3 rfl rfl (by omega) (by omega)
        refine V_iinc (pc := 68) (v := x_68_3) (lo' := [(0, .ref (ad G 0)), (1, .ref (ad G j)), (2, .int c), (3, .int x_68_3)]) 3 dX11_isOutOfOrder_68 rfl e_68_3.symm (by decide) rfl ?_
        refine V_goto (pc := 71) (tgt := 2) dX11_isOutOfOrder_71 (by decide) ?_
        exact ih (m + 1) x_68_3 (by omega) (by omega) (fun q hq => by
          rcases (show q < m ∨ q = m by omega) with z | z
          · exact hn q z
          · subst z
            unfold oooP
            rw [i8, i8, Int.toNat_natCast]
            omega) (by omega)
      · have c_19_2 : (I (oj R 16 m) 1).toInt = 0 := c_19_2
        refine V_aload_n (pc := 22) 0 dX11_isOutOfOrder_22 rfl rfl ?_
        refine V_getR (pc := 23) (j := 16) fk_X11_40_11 (wR hw (i := 0) (k := 5) (j := 16) rfl) dX11_isOutOfOrder_23 (wN hw (by decide)) (wS1 hw (by decide) rfl) ?_
        refine V_iload_n (pc := 26) 3 dX11_isOutOfOrder_26 rfl rfl ?_
        refine V_aalk (pc := 27) (t := 3) (N := 8) (k := m) (j := (oj R 16 m)) dX11_isOutOfOrder_27 (wN hw (by decide)) (wS hw (by decide) rfl) (by decide) (by decide) hk (by omega) (hC.2.2.1 m (by omega)).1 ?_
        refine V_gI (pc := 28) (v := (I (oj R 16 m) 0)) rfl fk_X11_367_2 dX11_isOutOfOrder_28 (hC.2.2.1 m (by omega)).2.2.1 (by rw [(hC.2.2.1 m (by omega)).2.2.2.1]) ?_
        refine V_aload_n (pc := 31) 0 dX11_isOutOfOrder_31 rfl rfl ?_
        refine V_getR (pc := 32) (j := 16) fk_X11_40_11 (wR hw (i := 0) (k := 5) (j := 16) rfl) dX11_isOutOfOrder_32 (wN hw (by decide)) (wS1 hw (by decide) rfl) ?_
        refine V_iload_n (pc := 35) 2 dX11_isOutOfOrder_35 rfl rfl ?_
        refine V_aalk (pc := 36) (t := 3) (N := 8) (k := cn) (j := (oj R 16 cn)) dX11_isOutOfOrder_36 (wN hw (by decide)) (wS hw (by decide) rfl) (by decide) (by decide) hcn (by omega) (hC.2.2.1 cn (by omega)).1 ?_
        refine V_gI (pc := 37) (v := (I (oj R 16 cn) 0)) rfl fk_X11_367_2 dX11_isOutOfOrder_37 (hC.2.2.1 cn (by omega)).2.2.1 (by rw [(hC.2.2.1 cn (by omega)).2.2.2.1]) ?_
        refine V_icmp_le (pc := 40) (tgt := 68) dX11_isOutOfOrder_40 (by decide) (fun c_40_4 => ?_) (fun c_40_4 => ?_)
        · have c_40_4 : (I (oj R 16 m) 0).toInt ≤ (I (oj R 16 cn) 0).toInt := c_40_4
          obtain ⟨x_68_5, e_68_5⟩ : ∃ y : Int32, y = k + (1) := ⟨_, rfl⟩
          have t_68_5 : x_68_5.toInt = k.toInt + 1 := addT e_68_5 rfl rfl (by omega) (by omega)
          refine V_iinc (pc := 68) (v := x_68_5) (lo' := [(0, .ref (ad G 0)), (1, .ref (ad G j)), (2, .int c), (3, .int x_68_5)]) 3 dX11_isOutOfOrder_68 rfl e_68_5.symm (by decide) rfl ?_
          refine V_goto (pc := 71) (tgt := 2) dX11_isOutOfOrder_71 (by decide) ?_
          exact ih (m + 1) x_68_5 (by omega) (by omega) (fun q hq => by
            rcases (show q < m ∨ q = m by omega) with z | z
            · exact hn q z
            · subst z
              unfold oooP
              rw [i8, i8, Int.toNat_natCast]
              omega) (by omega)
        · have c_40_4 : (I (oj R 16 cn) 0).toInt < (I (oj R 16 m) 0).toInt := c_40_4
          refine V_aload_n (pc := 43) 1 dX11_isOutOfOrder_43 rfl rfl ?_
          refine V_iload_n (pc := 44) 3 dX11_isOutOfOrder_44 rfl rfl ?_
          rcases (kdS hK).1.2 with hsj | hsj | hsj
          · refine V_callO (pc := 45) (As := [.int k]) (st := []) (c_X1_isClockedAt G j k hw (kdS hK).1.1 (kdS hK).1.2 (kdS hK).2.1 (kdS hK).2.2.1 (kdS hK).2.2.2 (by omega)) mf_X1_isClockedAt ov_X11_225_1 (kdS hK).1.1 hsj (by decide) rfl dX11_isOutOfOrder_45 rfl rfl (by omega) (by omega) (by omega) (Nat.le_of_ble_eq_true rfl) (fun r_45_7 n_45_7 sh_45_7 I_45_7 L_45_7 R_45_7 hq_45_7 => ?_)
            obtain ⟨rfl, rfl, rfl, rfl, rfl, hq_45_7⟩ := hq_45_7
            have eq_45_7 : k.toInt.toNat = m := by omega
            rw [eq_45_7] at hq_45_7
            rcases hq_45_7 with ⟨c_45_7, rfl⟩ | ⟨c_45_7, rfl⟩
            · skip
              refine V_if_eq_f (pc := 48) (tgt := 68) dX11_isOutOfOrder_48 (by decide) (by decide) ?_
              refine V_aload_n (pc := 51) 1 dX11_isOutOfOrder_51 rfl rfl ?_
              refine V_getR (pc := 52) (j := (j + 2)) (fk_X11_420_s (kdS hK).1.2) (kdS hK).2.1.2.1 dX11_isOutOfOrder_52 (kdS hK).1.1 rfl ?_
              refine V_iload_n (pc := 55) 3 dX11_isOutOfOrder_55 rfl rfl ?_
              refine V_ia (pc := 56) (k := m) (v := (I (j + 2) m)) rfl dX11_isOutOfOrder_56 (kdS hK).2.2.1.2.1 (kdS hK).2.2.2.2.1 hk (by omega) ?_
              refine V_aload_n (pc := 57) 1 dX11_isOutOfOrder_57 rfl rfl ?_
              refine V_getR (pc := 58) (j := (j + 2)) (fk_X11_420_s (kdS hK).1.2) (kdS hK).2.1.2.1 dX11_isOutOfOrder_58 (kdS hK).1.1 rfl ?_
              refine V_iload_n (pc := 61) 2 dX11_isOutOfOrder_61 rfl rfl ?_
              refine V_ia (pc := 62) (k := cn) (v := (I (j + 2) cn)) rfl dX11_isOutOfOrder_62 (kdS hK).2.2.1.2.1 (kdS hK).2.2.2.2.1 hcn (by omega) ?_
              refine V_icmp_ge (pc := 63) (tgt := 68) dX11_isOutOfOrder_63 (by decide) (fun c_63_8 => ?_) (fun c_63_8 => ?_)
              · have c_63_8 : (I (j + 2) cn).toInt ≤ (I (j + 2) m).toInt := c_63_8
                obtain ⟨x_68_9, e_68_9⟩ : ∃ y : Int32, y = k + (1) := ⟨_, rfl⟩
                have t_68_9 : x_68_9.toInt = k.toInt + 1 := addT e_68_9 rfl rfl (by omega) (by omega)
                refine V_iinc (pc := 68) (v := x_68_9) (lo' := [(0, .ref (ad G 0)), (1, .ref (ad G j)), (2, .int c), (3, .int x_68_9)]) 3 dX11_isOutOfOrder_68 rfl e_68_9.symm (by decide) rfl ?_
                refine V_goto (pc := 71) (tgt := 2) dX11_isOutOfOrder_71 (by decide) ?_
                exact ih (m + 1) x_68_9 (by omega) (by omega) (fun q hq => by
                  rcases (show q < m ∨ q = m by omega) with z | z
                  · exact hn q z
                  · subst z
                    unfold oooP
                    rw [i8, i8, Int.toNat_natCast]
                    omega) (by omega)
              · have c_63_8 : (I (j + 2) m).toInt < (I (j + 2) cn).toInt := c_63_8
                refine V_iconst (pc := 66) (v := 1) dX11_isOutOfOrder_66 rfl ?_
                refine V_iret (pc := 67) rfl rfl dX11_isOutOfOrder_67 (by omega) (by omega) ?_
                refine ⟨rfl, rfl, rfl, rfl, rfl, ?_⟩
                refine Or.inl ⟨⟨m, by omega, ?_⟩, rfl⟩
                unfold oooP
                rw [i8, i8, Int.toNat_natCast]
                omega
            · skip
              refine V_if_eq_t (pc := 48) (tgt := 68) dX11_isOutOfOrder_48 (by decide) (by decide) ?_
              obtain ⟨x_68_10, e_68_10⟩ : ∃ y : Int32, y = k + (1) := ⟨_, rfl⟩
              have t_68_10 : x_68_10.toInt = k.toInt + 1 := addT e_68_10 rfl rfl (by omega) (by omega)
              refine V_iinc (pc := 68) (v := x_68_10) (lo' := [(0, .ref (ad G 0)), (1, .ref (ad G j)), (2, .int c), (3, .int x_68_10)]) 3 dX11_isOutOfOrder_68 rfl e_68_10.symm (by decide) rfl ?_
              refine V_goto (pc := 71) (tgt := 2) dX11_isOutOfOrder_71 (by decide) ?_
              exact ih (m + 1) x_68_10 (by omega) (by omega) (fun q hq => by
                rcases (show q < m ∨ q = m by omega) with z | z
                · exact hn q z
                · subst z
                  unfold oooP
                  rw [i8, i8, Int.toNat_natCast]
                  omega) (by omega)
          · refine V_callO (pc := 45) (As := [.int k]) (st := []) (c_X1_isClockedAt G j k hw (kdS hK).1.1 (kdS hK).1.2 (kdS hK).2.1 (kdS hK).2.2.1 (kdS hK).2.2.2 (by omega)) mf_X1_isClockedAt ov_X11_225_5 (kdS hK).1.1 hsj (by decide) rfl dX11_isOutOfOrder_45 rfl rfl (by omega) (by omega) (by omega) (Nat.le_of_ble_eq_true rfl) (fun r_45_11 n_45_11 sh_45_11 I_45_11 L_45_11 R_45_11 hq_45_11 => ?_)
            obtain ⟨rfl, rfl, rfl, rfl, rfl, hq_45_11⟩ := hq_45_11
            have eq_45_11 : k.toInt.toNat = m := by omega
            rw [eq_45_11] at hq_45_11
            rcases hq_45_11 with ⟨c_45_11, rfl⟩ | ⟨c_45_11, rfl⟩
            · skip
              refine V_if_eq_f (pc := 48) (tgt := 68) dX11_isOutOfOrder_48 (by decide) (by decide) ?_
              refine V_aload_n (pc := 51) 1 dX11_isOutOfOrder_51 rfl rfl ?_
              refine V_getR (pc := 52) (j := (j + 2)) (fk_X11_420_s (kdS hK).1.2) (kdS hK).2.1.2.1 dX11_isOutOfOrder_52 (kdS hK).1.1 rfl ?_
              refine V_iload_n (pc := 55) 3 dX11_isOutOfOrder_55 rfl rfl ?_
              refine V_ia (pc := 56) (k := m) (v := (I (j + 2) m)) rfl dX11_isOutOfOrder_56 (kdS hK).2.2.1.2.1 (kdS hK).2.2.2.2.1 hk (by omega) ?_
              refine V_aload_n (pc := 57) 1 dX11_isOutOfOrder_57 rfl rfl ?_
              refine V_getR (pc := 58) (j := (j + 2)) (fk_X11_420_s (kdS hK).1.2) (kdS hK).2.1.2.1 dX11_isOutOfOrder_58 (kdS hK).1.1 rfl ?_
              refine V_iload_n (pc := 61) 2 dX11_isOutOfOrder_61 rfl rfl ?_
              refine V_ia (pc := 62) (k := cn) (v := (I (j + 2) cn)) rfl dX11_isOutOfOrder_62 (kdS hK).2.2.1.2.1 (kdS hK).2.2.2.2.1 hcn (by omega) ?_
              refine V_icmp_ge (pc := 63) (tgt := 68) dX11_isOutOfOrder_63 (by decide) (fun c_63_12 => ?_) (fun c_63_12 => ?_)
              · have c_63_12 : (I (j + 2) cn).toInt ≤ (I (j + 2) m).toInt := c_63_12
                obtain ⟨x_68_13, e_68_13⟩ : ∃ y : Int32, y = k + (1) := ⟨_, rfl⟩
                have t_68_13 : x_68_13.toInt = k.toInt + 1 := addT e_68_13 rfl rfl (by omega) (by omega)
                refine V_iinc (pc := 68) (v := x_68_13) (lo' := [(0, .ref (ad G 0)), (1, .ref (ad G j)), (2, .int c), (3, .int x_68_13)]) 3 dX11_isOutOfOrder_68 rfl e_68_13.symm (by decide) rfl ?_
                refine V_goto (pc := 71) (tgt := 2) dX11_isOutOfOrder_71 (by decide) ?_
                exact ih (m + 1) x_68_13 (by omega) (by omega) (fun q hq => by
                  rcases (show q < m ∨ q = m by omega) with z | z
                  · exact hn q z
                  · subst z
                    unfold oooP
                    rw [i8, i8, Int.toNat_natCast]
                    omega) (by omega)
              · have c_63_12 : (I (j + 2) m).toInt < (I (j + 2) cn).toInt := c_63_12
                refine V_iconst (pc := 66) (v := 1) dX11_isOutOfOrder_66 rfl ?_
                refine V_iret (pc := 67) rfl rfl dX11_isOutOfOrder_67 (by omega) (by omega) ?_
                refine ⟨rfl, rfl, rfl, rfl, rfl, ?_⟩
                refine Or.inl ⟨⟨m, by omega, ?_⟩, rfl⟩
                unfold oooP
                rw [i8, i8, Int.toNat_natCast]
                omega
            · skip
              refine V_if_eq_t (pc := 48) (tgt := 68) dX11_isOutOfOrder_48 (by decide) (by decide) ?_
              obtain ⟨x_68_14, e_68_14⟩ : ∃ y : Int32, y = k + (1) := ⟨_, rfl⟩
              have t_68_14 : x_68_14.toInt = k.toInt + 1 := addT e_68_14 rfl rfl (by omega) (by omega)
              refine V_iinc (pc := 68) (v := x_68_14) (lo' := [(0, .ref (ad G 0)), (1, .ref (ad G j)), (2, .int c), (3, .int x_68_14)]) 3 dX11_isOutOfOrder_68 rfl e_68_14.symm (by decide) rfl ?_
              refine V_goto (pc := 71) (tgt := 2) dX11_isOutOfOrder_71 (by decide) ?_
              exact ih (m + 1) x_68_14 (by omega) (by omega) (fun q hq => by
                rcases (show q < m ∨ q = m by omega) with z | z
                · exact hn q z
                · subst z
                  unfold oooP
                  rw [i8, i8, Int.toNat_natCast]
                  omega) (by omega)
          · refine V_callO (pc := 45) (As := [.int k]) (st := []) (c_X1_isClockedAt G j k hw (kdS hK).1.1 (kdS hK).1.2 (kdS hK).2.1 (kdS hK).2.2.1 (kdS hK).2.2.2 (by omega)) mf_X1_isClockedAt ov_X11_225_4 (kdS hK).1.1 hsj (by decide) rfl dX11_isOutOfOrder_45 rfl rfl (by omega) (by omega) (by omega) (Nat.le_of_ble_eq_true rfl) (fun r_45_15 n_45_15 sh_45_15 I_45_15 L_45_15 R_45_15 hq_45_15 => ?_)
            obtain ⟨rfl, rfl, rfl, rfl, rfl, hq_45_15⟩ := hq_45_15
            have eq_45_15 : k.toInt.toNat = m := by omega
            rw [eq_45_15] at hq_45_15
            rcases hq_45_15 with ⟨c_45_15, rfl⟩ | ⟨c_45_15, rfl⟩
            · skip
              refine V_if_eq_f (pc := 48) (tgt := 68) dX11_isOutOfOrder_48 (by decide) (by decide) ?_
              refine V_aload_n (pc := 51) 1 dX11_isOutOfOrder_51 rfl rfl ?_
              refine V_getR (pc := 52) (j := (j + 2)) (fk_X11_420_s (kdS hK).1.2) (kdS hK).2.1.2.1 dX11_isOutOfOrder_52 (kdS hK).1.1 rfl ?_
              refine V_iload_n (pc := 55) 3 dX11_isOutOfOrder_55 rfl rfl ?_
              refine V_ia (pc := 56) (k := m) (v := (I (j + 2) m)) rfl dX11_isOutOfOrder_56 (kdS hK).2.2.1.2.1 (kdS hK).2.2.2.2.1 hk (by omega) ?_
              refine V_aload_n (pc := 57) 1 dX11_isOutOfOrder_57 rfl rfl ?_
              refine V_getR (pc := 58) (j := (j + 2)) (fk_X11_420_s (kdS hK).1.2) (kdS hK).2.1.2.1 dX11_isOutOfOrder_58 (kdS hK).1.1 rfl ?_
              refine V_iload_n (pc := 61) 2 dX11_isOutOfOrder_61 rfl rfl ?_
              refine V_ia (pc := 62) (k := cn) (v := (I (j + 2) cn)) rfl dX11_isOutOfOrder_62 (kdS hK).2.2.1.2.1 (kdS hK).2.2.2.2.1 hcn (by omega) ?_
              refine V_icmp_ge (pc := 63) (tgt := 68) dX11_isOutOfOrder_63 (by decide) (fun c_63_16 => ?_) (fun c_63_16 => ?_)
              · have c_63_16 : (I (j + 2) cn).toInt ≤ (I (j + 2) m).toInt := c_63_16
                obtain ⟨x_68_17, e_68_17⟩ : ∃ y : Int32, y = k + (1) := ⟨_, rfl⟩
                have t_68_17 : x_68_17.toInt = k.toInt + 1 := addT e_68_17 rfl rfl (by omega) (by omega)
                refine V_iinc (pc := 68) (v := x_68_17) (lo' := [(0, .ref (ad G 0)), (1, .ref (ad G j)), (2, .int c), (3, .int x_68_17)]) 3 dX11_isOutOfOrder_68 rfl e_68_17.symm (by decide) rfl ?_
                refine V_goto (pc := 71) (tgt := 2) dX11_isOutOfOrder_71 (by decide) ?_
                exact ih (m + 1) x_68_17 (by omega) (by omega) (fun q hq => by
                  rcases (show q < m ∨ q = m by omega) with z | z
                  · exact hn q z
                  · subst z
                    unfold oooP
                    rw [i8, i8, Int.toNat_natCast]
                    omega) (by omega)
              · have c_63_16 : (I (j + 2) m).toInt < (I (j + 2) cn).toInt := c_63_16
                refine V_iconst (pc := 66) (v := 1) dX11_isOutOfOrder_66 rfl ?_
                refine V_iret (pc := 67) rfl rfl dX11_isOutOfOrder_67 (by omega) (by omega) ?_
                refine ⟨rfl, rfl, rfl, rfl, rfl, ?_⟩
                refine Or.inl ⟨⟨m, by omega, ?_⟩, rfl⟩
                unfold oooP
                rw [i8, i8, Int.toNat_natCast]
                omega
            · skip
              refine V_if_eq_t (pc := 48) (tgt := 68) dX11_isOutOfOrder_48 (by decide) (by decide) ?_
              obtain ⟨x_68_18, e_68_18⟩ : ∃ y : Int32, y = k + (1) := ⟨_, rfl⟩
              have t_68_18 : x_68_18.toInt = k.toInt + 1 := addT e_68_18 rfl rfl (by omega) (by omega)
              refine V_iinc (pc := 68) (v := x_68_18) (lo' := [(0, .ref (ad G 0)), (1, .ref (ad G j)), (2, .int c), (3, .int x_68_18)]) 3 dX11_isOutOfOrder_68 rfl e_68_18.symm (by decide) rfl ?_
              refine V_goto (pc := 71) (tgt := 2) dX11_isOutOfOrder_71 (by decide) ?_
              exact ih (m + 1) x_68_18 (by omega) (by omega) (fun q hq => by
                rcases (show q < m ∨ q = m by omega) with z | z
                · exact hn q z
                · subst z
                  unfold oooP
                  rw [i8, i8, Int.toNat_natCast]
                  omega) (by omega)
set_option maxRecDepth 100000 in
set_option maxHeartbeats 4000000 in
theorem c_X11_isOutOfOrder (G : vG) {n : Nat} {sh : vS} {I : vI} {L : vL} {R : vR} (X : vI) (a j cn : Nat) (c : Int32) (hw : WF n sh R) (hC : JC n sh I L R X) (hK : KD n sh I R X a j) (hcn : c.toInt = (cn : Int)) (hcl : (cn : Int) < (X 27 30).toInt) : CT G yX11_isOutOfOrder cX11_isOutOfOrder 4 (some .boolean) 1 0 0 [.ref (ad G 0), .ref (ad G j), .int c] n sh I L R (PI n sh L R (fun I' o => I = I' ∧ rb o (ooo X (a : Int) (cn : Int)))) := by
  refine CT_of (own := RX11) (ini := false) (lo := [(0, .ref (ad G 0)), (1, .ref (ad G j)), (2, .int c)]) mf_X11_isOutOfOrder (Nat.le_of_ble_eq_true rfl) rfl (fun h => by first | rfl | cases h) rfl ?_
  refine V_iconst (pc := 0) (v := 0) dX11_isOutOfOrder_0 rfl ?_
  refine V_istore_n (pc := 1) (lo' := [(0, .ref (ad G 0)), (1, .ref (ad G j)), (2, .int c), (3, .int 0)]) dX11_isOutOfOrder_1 rfl (by decide) rfl ?_
  exact l_X11_isOutOfOrder G X a j cn c hw hC hK hcn hcl ((X 27 30).toInt.toNat + 1) 0 0 (by have := hC.2.1; omega) rfl (fun q z => absurd z (Nat.not_lt_zero q)) (by omega)
set_option maxRecDepth 100000 in
set_option maxHeartbeats 4000000 in
theorem l_X11_carriedTo (G : vG) {n : Nat} {sh : vS} {I : vI} {L : vL} {R : vR} (X : vI) (a j cn : Nat) (p : Int32) (hw : WF n sh R) (hC : JC n sh I L R X) (hK : KD n sh I R X a j) (hpl : p.toInt = (X 47 cn).toInt) : ∀ (f m : Nat) (k : Int32) (s : Int32) (hm : (m : Int) ≤ (X 27 30).toInt) (hk : k.toInt = (m : Int)) (hs : s.toInt = carF X (a : Int) (cn : Int) m ∧ 0 ≤ s.toInt ∧ s.toInt ≤ 600 * (m : Int)) (hf : (X 27 30).toInt < (m : Int) + f), V G RX11 cX11_carriedTo (some .int) false 1 0 0 5 (PI n sh L R (fun I' o => I = I' ∧ ∃ v : Int32, o = some (.int v) ∧ (v.toInt = min (carF X (a : Int) (cn : Int) (X 27 30).toInt.toNat) 1500 ∧ 0 ≤ v.toInt ∧ v.toInt ≤ 1500))) 5 [(0, .ref (ad G 0)), (1, .ref (ad G j)), (2, .int p), (3, .int s), (4, .int k)] [] 0 0 n sh I L R := by
  intro f
  induction f with
  | zero => intro m k s hm hk hs hf; omega
  | succ f ih =>
    intro m k s hm hk hs hf
    have hC1 : (I 0 6).toInt = (X 27 30).toInt := by rw [hC.1]
    have hC2 := hC.2.1
    have cm := cdF hC m
    have kd := fun z : m < 8 => kdF hK m z
    refine V_iload (pc := 5) 4 dX11_carriedTo_5 rfl ?_
    refine V_aload_n (pc := 7) 0 dX11_carriedTo_7 rfl rfl ?_
    refine V_gI (pc := 8) (v := (I 0 6)) rfl fk_X11_186_11 dX11_carriedTo_8 (wN hw (by decide)) (wS1 hw (by decide) rfl) ?_
    refine V_icmp_ge (pc := 11) (tgt := 50) dX11_carriedTo_11 (by decide) (fun c_11_1 => ?_) (fun c_11_1 => ?_)
    · have c_11_1 : (I 0 6).toInt ≤ k.toInt := c_11_1
      refine V_iload_n (pc := 50) 3 dX11_carriedTo_50 rfl rfl ?_
      refine V_sipush (pc := 51) (v := 1500) dX11_carriedTo_51 rfl ?_
      refine V_mmin (pc := 54) mml_X11_393 dX11_carriedTo_54 (by omega) (by omega) (by omega) (Nat.le_of_ble_eq_true rfl) (fun x_54_2 e_54_2 => ?_)
      have t_54_2 : x_54_2.toInt = min s.toInt 1500 := minT e_54_2 rfl rfl
      refine V_iret (pc := 57) rfl rfl dX11_carriedTo_57 (by omega) (by omega) ?_
      refine ⟨rfl, rfl, rfl, rfl, rfl, ?_⟩
      have e1 : (X 27 30).toInt.toNat = m := by omega
      rw [e1]
      exact ⟨_, rfl, by omega, by omega, by omega⟩
    · have c_11_1 : k.toInt < (I 0 6).toInt := c_11_1
      refine V_aload_n (pc := 14) 0 dX11_carriedTo_14 rfl rfl ?_
      refine V_getR (pc := 15) (j := 16) fk_X11_40_11 (wR hw (i := 0) (k := 5) (j := 16) rfl) dX11_carriedTo_15 (wN hw (by decide)) (wS1 hw (by decide) rfl) ?_
      refine V_iload (pc := 18) 4 dX11_carriedTo_18 rfl ?_
      refine V_aalk (pc := 20) (t := 3) (N := 8) (k := m) (j := (oj R 16 m)) dX11_carriedTo_20 (wN hw (by decide)) (wS hw (by decide) rfl) (by decide) (by decide) hk (by omega) (hC.2.2.1 m (by omega)).1 ?_
      refine V_gI (pc := 21) (v := (I (oj R 16 m) 0)) rfl fk_X11_367_2 dX11_carriedTo_21 (hC.2.2.1 m (by omega)).2.2.1 (by rw [(hC.2.2.1 m (by omega)).2.2.2.1]) ?_
      refine V_iload_n (pc := 24) 2 dX11_carriedTo_24 rfl rfl ?_
      refine V_icmp_gt (pc := 25) (tgt := 44) dX11_carriedTo_25 (by decide) (fun c_25_3 => ?_) (fun c_25_3 => ?_)
      · have c_25_3 : p.toInt < (I (oj R 16 m) 0).toInt := c_25_3
        obtain ⟨x_44_4, e_44_4⟩ : ∃ y : Int32, y = k + (1) := ⟨_, rfl⟩
        have t_44_4 : x_44_4.toInt = k.toInt + 1 := addT e_44_4 rfl rfl (by omega) (by omega)
        refine V_iinc (pc := 44) (v := x_44_4) (lo' := [(0, .ref (ad G 0)), (1, .ref (ad G j)), (2, .int p), (3, .int s), (4, .int x_44_4)]) 4 dX11_carriedTo_44 rfl e_44_4.symm (by decide) rfl ?_
        refine V_goto (pc := 47) (tgt := 5) dX11_carriedTo_47 (by decide) ?_
        exact ih (m + 1) x_44_4 s (by omega) (by omega) (by unfold carF; rw [i8, Int.toNat_natCast]; (repeat' split) <;> omega) (by omega)
      · have c_25_3 : (I (oj R 16 m) 0).toInt ≤ p.toInt := c_25_3
        refine V_iload_n (pc := 28) 3 dX11_carriedTo_28 rfl rfl ?_
        refine V_aload_n (pc := 29) 1 dX11_carriedTo_29 rfl rfl ?_
        refine V_getR (pc := 30) (j := (j + 3)) (fk_X11_231_s (kdS hK).1.2) (kdS hK).2.1.2.2 dX11_carriedTo_30 (kdS hK).1.1 rfl ?_
        refine V_iload (pc := 33) 4 dX11_carriedTo_33 rfl ?_
        refine V_ia (pc := 35) (k := m) (v := (I (j + 3) m)) rfl dX11_carriedTo_35 (kdS hK).2.2.1.2.2 (kdS hK).2.2.2.2.2 hk (by omega) ?_
        refine V_sipush (pc := 36) (v := 600) dX11_carriedTo_36 rfl ?_
        refine V_mmin (pc := 39) mml_X11_393 dX11_carriedTo_39 (by omega) (by omega) (by omega) (Nat.le_of_ble_eq_true rfl) (fun x_39_5 e_39_5 => ?_)
        have t_39_5 : x_39_5.toInt = min (I (j + 3) m).toInt 600 := minT e_39_5 rfl rfl
        refine V_iadd (pc := 42) dX11_carriedTo_42 (fun x_42_6 e_42_6 => ?_)
        have t_42_6 : x_42_6.toInt = s.toInt + x_39_5.toInt := addT e_42_6 rfl rfl (by omega) (by omega)
        refine V_istore_n (pc := 43) (lo' := [(0, .ref (ad G 0)), (1, .ref (ad G j)), (2, .int p), (3, .int x_42_6), (4, .int k)]) dX11_carriedTo_43 rfl (by decide) rfl ?_
        obtain ⟨x_44_7, e_44_7⟩ : ∃ y : Int32, y = k + (1) := ⟨_, rfl⟩
        have t_44_7 : x_44_7.toInt = k.toInt + 1 := addT e_44_7 rfl rfl (by omega) (by omega)
        refine V_iinc (pc := 44) (v := x_44_7) (lo' := [(0, .ref (ad G 0)), (1, .ref (ad G j)), (2, .int p), (3, .int x_42_6), (4, .int x_44_7)]) 4 dX11_carriedTo_44 rfl e_44_7.symm (by decide) rfl ?_
        refine V_goto (pc := 47) (tgt := 5) dX11_carriedTo_47 (by decide) ?_
        exact ih (m + 1) x_44_7 x_42_6 (by omega) (by omega) (by unfold carF; rw [i8, Int.toNat_natCast]; (repeat' split) <;> omega) (by omega)
set_option maxRecDepth 100000 in
set_option maxHeartbeats 4000000 in
theorem c_X11_carriedTo (G : vG) {n : Nat} {sh : vS} {I : vI} {L : vL} {R : vR} (X : vI) (a j cn : Nat) (p : Int32) (hw : WF n sh R) (hC : JC n sh I L R X) (hK : KD n sh I R X a j) (hpl : p.toInt = (X 47 cn).toInt) : CT G yX11_carriedTo cX11_carriedTo 5 (some .int) 1 0 0 [.ref (ad G 0), .ref (ad G j), .int p] n sh I L R (PI n sh L R (fun I' o => I = I' ∧ ∃ v : Int32, o = some (.int v) ∧ (v.toInt = min (carF X (a : Int) (cn : Int) (X 27 30).toInt.toNat) 1500 ∧ 0 ≤ v.toInt ∧ v.toInt ≤ 1500))) := by
  refine CT_of (own := RX11) (ini := false) (lo := [(0, .ref (ad G 0)), (1, .ref (ad G j)), (2, .int p)]) mf_X11_carriedTo (Nat.le_of_ble_eq_true rfl) rfl (fun h => by first | rfl | cases h) rfl ?_
  refine V_iconst (pc := 0) (v := 0) dX11_carriedTo_0 rfl ?_
  refine V_istore_n (pc := 1) (lo' := [(0, .ref (ad G 0)), (1, .ref (ad G j)), (2, .int p), (3, .int 0)]) dX11_carriedTo_1 rfl (by decide) rfl ?_
  refine V_iconst (pc := 2) (v := 0) dX11_carriedTo_2 rfl ?_
  refine V_istore (pc := 3) (lo' := [(0, .ref (ad G 0)), (1, .ref (ad G j)), (2, .int p), (3, .int 0), (4, .int 0)]) dX11_carriedTo_3 (by decide) rfl ?_
  exact l_X11_carriedTo G X a j cn p hw hC hK hpl ((X 27 30).toInt.toNat + 1) 0 0 0 (by have := hC.2.1; omega) rfl ⟨rfl, by decide, by decide⟩ (by omega)
