set_option maxRecDepth 100000 in
set_option maxHeartbeats 4000000 in
theorem sr_all (G : vG) {n : Nat} {sh : vS} {L : vL} {R : vR} {post : PT} (E : vI) (hw : WF n sh R) (hE : SE E) : ∀ D c, Cl53 G n sh L R post E D c := by
  intro D
  induction D with
  | succ D ihD =>
    intro c d w s fo su r0 I hDd hrc hM K
    obtain ⟨q1, q2⟩ := hrc.resolve_left (by omega)
    have h1 := hE.1
    refine sr_53 G I d r0 hw hM.2.1 (by omega) (by rw [hM.1 27 1 rfl]; exact h1) q2 (by omega) (fun x hx => ?_)
    exact sr_90 G E hw hE D ihD c d w s fo su r0 I x hDd q1 hM hx K
  | zero =>
    intro c d w s fo su r0 I hDd hrc hM K
    obtain ⟨hSF, hd, hrow, hs, hfo, hsu, hSB, bs, bf, bu⟩ := id hM
    have h1 := hE.1
    have e27 := hSF 27 1 rfl
    rw [← e27] at h1
    have hd10 : d = 10 := by omega
    refine V_aload_n (pc := 53) 0 dX12_search_53 rfl rfl ?_
    refine V_gI (pc := 54) (v := (I 27 19)) rfl fk_X12_164_12 dX12_search_54 (wN hw (by decide)) (wS1 hw (by decide) rfl) ?_
    refine V_if_lt (pc := 57) (tgt := 360) dX12_search_57 (by decide) (fun c_57_1 => ?_) (fun c_57_1 => ?_)
    · have c_57_1 : (I 27 19).toInt < 0 := c_57_1
      exfalso; omega
    · have c_57_1 : 0 ≤ (I 27 19).toInt := c_57_1
      refine V_aload_n (pc := 60) 0 dX12_search_60 rfl rfl ?_
      refine V_gI (pc := 61) (v := (I 27 19)) rfl fk_X12_164_12 dX12_search_61 (wN hw (by decide)) (wS1 hw (by decide) rfl) ?_
      refine V_bipush (pc := 64) (v := 10) dX12_search_64 rfl ?_
      refine V_icmp_ne (pc := 66) (tgt := 76) dX12_search_66 (by decide) (fun c_66_2 => ?_) (fun c_66_2 => ?_)
      · have c_66_2 : (I 27 19).toInt ≠ 10 := c_66_2
        exfalso; omega
      · have c_66_2 : (I 27 19).toInt = 10 := c_66_2
        refine V_aload_n (pc := 69) 0 dX12_search_69 rfl rfl ?_
        refine V_gI (pc := 70) (v := (I 27 1)) rfl fk_X12_108_12 dX12_search_70 (wN hw (by decide)) (wS1 hw (by decide) rfl) ?_
        refine V_goto (pc := 73) (tgt := 87) dX12_search_73 (by decide) ?_
        refine V_istore_n (pc := 87) (lo' := [(0, .ref (ad G 27)), (1, .int (I 27 1))]) dX12_search_87 rfl (by decide) rfl ?_
        refine V_iconst (pc := 88) (v := (-1)) dX12_search_88 rfl ?_
        refine V_istore_n (pc := 89) (lo' := [(0, .ref (ad G 27)), (1, .int (I 27 1)), (2, .int (-1))]) dX12_search_89 rfl (by decide) rfl ?_
        refine V_iload_n (pc := 90) 1 dX12_search_90 rfl rfl ?_
        refine V_aload_n (pc := 91) 0 dX12_search_91 rfl rfl ?_
        refine V_gI (pc := 92) (v := (I 27 1)) rfl fk_X12_108_12 dX12_search_92 (wN hw (by decide)) (wS1 hw (by decide) rfl) ?_
        refine V_icmp_ge (pc := 95) (tgt := 184) dX12_search_95 (by decide) (fun c_95_3 => ?_) (fun c_95_3 => ?_)
        · have c_95_3 : (I 27 1).toInt ≤ (I 27 1).toInt := c_95_3
          refine V_iload_n (pc := 184) 2 dX12_search_184 rfl rfl ?_
          refine V_if_ge_f (pc := 185) (tgt := 201) dX12_search_185 (by decide) (by decide) ?_
          refine V_aload_n (pc := 188) 0 dX12_search_188 rfl rfl ?_
          refine V_dup (pc := 189) dX12_search_189 rfl ?_
          refine V_gI (pc := 190) (v := (I 27 19)) rfl fk_X12_164_12 dX12_search_190 (wN hw (by decide)) (wS1 hw (by decide) rfl) ?_
          refine V_iconst (pc := 193) (v := 1) dX12_search_193 rfl ?_
          refine V_isub (pc := 194) dX12_search_194 (fun x_194_4 e_194_4 => ?_)
          have t_194_4 : x_194_4.toInt = (I 27 19).toInt - 1 := subT e_194_4 rfl rfl (by omega) (by omega)
          refine V_putI (pc := 195) fw_X12_164_12 rfl rfl dX12_search_195 (wN hw (by decide)) (wS1 hw (by decide) rfl) ?_
          refine V_goto (pc := 198) (tgt := 357) dX12_search_198 (by decide) ?_
          refine V_goto (pc := 357) (tgt := 53) dX12_search_357 (by decide) ?_
          refine V_lo (pc := 53) (lo' := [(0, .ref (ad G 27))]) [0] rfl ?_
          exact (K (up2 I 27 19 x_194_4) false rfl (SF_up hSF rfl) (fun k hk => ⟨rfl, rfl, rfl, rfl⟩) hSB).1 rfl (by simp only [up2_e]; omega)
        · have c_95_3 : (I 27 1).toInt < (I 27 1).toInt := c_95_3
          exfalso; omega
set_option maxRecDepth 100000 in
set_option maxHeartbeats 4000000 in
theorem c_X12_search (G : vG) {n : Nat} {sh : vS} {I : vI} {L : vL} {R : vR}  (hw : WF n sh R) (hE : SE I) (hb0 : 0 ≤ (I 38 0).toInt ∧ (I 38 0).toInt ≤ 9) : CT G yX12_search cX12_search 3 (some .boolean) 3 0 0 [.ref (ad G 27)] n sh I L R (PI n sh L R (fun I' r => SF I I' ∧ SB (sgM I') ∧ ∃ sp : Bool, srF I = (sgM I', sp) ∧ rb r (sp = false))) := by
  refine CT_of (own := RX12) (ini := false) (lo := [(0, .ref (ad G 27))]) mf_X12_search (Nat.le_of_ble_eq_true rfl) rfl (fun h => by first | rfl | cases h) rfl ?_
  refine V_aload_n (pc := 0) 0 dX12_search_0 rfl rfl ?_
  refine V_iconst (pc := 1) (v := 0) dX12_search_1 rfl ?_
  refine V_putI (pc := 2) fw_X12_176_12 rfl rfl dX12_search_2 (wN hw (by decide)) (wS1 hw (by decide) rfl) ?_
  refine V_aload_n (pc := 5) 0 dX12_search_5 rfl rfl ?_
  refine V_iconst (pc := 6) (v := (-1)) dX12_search_6 rfl ?_
  refine V_putI (pc := 7) fw_X12_167_12 rfl rfl dX12_search_7 (wN hw (by decide)) (wS1 hw (by decide) rfl) ?_
  refine V_aload_n (pc := 10) 0 dX12_search_10 rfl rfl ?_
  refine V_iconst (pc := 11) (v := 0) dX12_search_11 rfl ?_
  refine V_putI (pc := 12) fw_X12_173_12 rfl rfl dX12_search_12 (wN hw (by decide)) (wS1 hw (by decide) rfl) ?_
  refine V_aload_n (pc := 15) 0 dX12_search_15 rfl rfl ?_
  refine V_iconst (pc := 16) (v := 0) dX12_search_16 rfl ?_
  refine V_putI (pc := 17) fw_X12_164_12 rfl rfl dX12_search_17 (wN hw (by decide)) (wS1 hw (by decide) rfl) ?_
  refine V_aload_n (pc := 20) 0 dX12_search_20 rfl rfl ?_
  refine V_getR (pc := 21) (j := 41) fk_X12_50_12 (wR hw (i := 27) (k := 21) (j := 41) rfl) dX12_search_21 (wN hw (by decide)) (wS1 hw (by decide) rfl) ?_
  refine V_iconst (pc := 24) (v := 0) dX12_search_24 rfl ?_
  refine V_aload_n (pc := 25) 0 dX12_search_25 rfl rfl ?_
  refine V_getR (pc := 26) (j := 38) fk_X12_41_12 (wR hw (i := 27) (k := 13) (j := 38) rfl) dX12_search_26 (wN hw (by decide)) (wS1 hw (by decide) rfl) ?_
  refine V_iconst (pc := 29) (v := 0) dX12_search_29 rfl ?_
  refine V_ia (pc := 30) (k := 0) (v := (I 38 0)) rfl dX12_search_30 (wN hw (by decide)) (wS hw (by decide) rfl) rfl (by omega) ?_
  refine V_iask (pc := 31) (k := 0) dX12_search_31 (wN hw (by decide)) (wS hw (by decide) rfl) rfl (by omega) ?_
  refine V_aload_n (pc := 32) 0 dX12_search_32 rfl rfl ?_
  refine V_getR (pc := 33) (j := 42) fk_X12_53_12 (wR hw (i := 27) (k := 22) (j := 42) rfl) dX12_search_33 (wN hw (by decide)) (wS1 hw (by decide) rfl) ?_
  refine V_iconst (pc := 36) (v := 0) dX12_search_36 rfl ?_
  refine V_iconst (pc := 37) (v := 1) dX12_search_37 rfl ?_
  refine V_iask (pc := 38) (k := 0) dX12_search_38 (wN hw (by decide)) (wS hw (by decide) rfl) rfl (by omega) ?_
  refine V_aload_n (pc := 39) 0 dX12_search_39 rfl rfl ?_
  refine V_getR (pc := 40) (j := 43) fk_X12_56_12 (wR hw (i := 27) (k := 23) (j := 43) rfl) dX12_search_40 (wN hw (by decide)) (wS1 hw (by decide) rfl) ?_
  refine V_iconst (pc := 43) (v := 0) dX12_search_43 rfl ?_
  refine V_iconst (pc := 44) (v := 0) dX12_search_44 rfl ?_
  refine V_iask (pc := 45) (k := 0) dX12_search_45 (wN hw (by decide)) (wS hw (by decide) rfl) rfl (by omega) ?_
  refine V_aload_n (pc := 46) 0 dX12_search_46 rfl rfl ?_
  refine V_getR (pc := 47) (j := 40) fk_X12_47_12 (wR hw (i := 27) (k := 20) (j := 40) rfl) dX12_search_47 (wN hw (by decide)) (wS1 hw (by decide) rfl) ?_
  refine V_iconst (pc := 50) (v := 0) dX12_search_50 rfl ?_
  refine V_iconst (pc := 51) (v := (-1)) dX12_search_51 rfl ?_
  refine V_iask (pc := 52) (k := 0) dX12_search_52 (wN hw (by decide)) (wS hw (by decide) rfl) rfl (by omega) ?_
  obtain ⟨J, hJ⟩ : ∃ J : vI, J = (up2 (up2 (up2 (up2 (up2 (up2 (up2 (up2 I 27 14 0) 27 15 (-1)) 27 18 0) 27 19 0) 41 0 (I 38 0)) 42 0 1) 43 0 0) 40 0 (-1)) := ⟨_, rfl⟩
  rw [← hJ]
  have a1 : SF I J := by rw [hJ]; exact (SF_up (SF_up (SF_up (SF_up (SF_up (SF_up (SF_up (SF_up SF_r rfl) rfl) rfl) rfl) rfl) rfl) rfl) rfl)
  have a2 : sgM J = (0, -1, (I 27 16).toInt, 0, I 39) := by rw [hJ]; rfl
  have a3 : (J 27 19).toInt = 0 ∧ (J 41 0).toInt = (I 38 0).toInt ∧ (J 42 0).toInt = 1 ∧ (J 43 0).toInt = 0 ∧ (J 40 0).toInt = -1 := by rw [hJ]; exact ⟨rfl, rfl, rfl, rfl, rfl⟩
  clear hJ
  have h1 := hE.1
  have h12 := hE.2.1
  refine sr_all G I hw hE 10 (I 27 1).toInt.toNat 0 (fun _ => 0) (I 38 0).toInt 1 0 0 J rfl (Or.inr ⟨by omega, by omega⟩) ⟨a1, a3.1, fun k hk => absurd hk (Nat.not_lt_zero k), a3.2.1, a3.2.2.1, a3.2.2.2.1, by rw [a2]; exact SB_0 _ _, hb0, ⟨by omega, by omega⟩, ⟨by omega, by omega⟩⟩ (fun I1 sp h hS1 hB1 hSB1 => ?_)
  have hsr : srF I = (sgM I1, sp) := by unfold srF; rw [← a2]; exact h
  refine ⟨fun e hdd => ?_, fun e => ?_⟩
  · skip
    refine V_aload_n (pc := 53) 0 dX12_search_53 rfl rfl ?_
    refine V_gI (pc := 54) (v := (I1 27 19)) rfl fk_X12_164_12 dX12_search_54 (wN hw (by decide)) (wS1 hw (by decide) rfl) ?_
    refine V_if_lt (pc := 57) (tgt := 360) dX12_search_57 (by decide) (fun c_57_1 => ?_) (fun c_57_1 => ?_)
    · have c_57_1 : (I1 27 19).toInt < 0 := c_57_1
      refine V_iconst (pc := 360) (v := 1) dX12_search_360 rfl ?_
      refine V_iret (pc := 361) rfl rfl dX12_search_361 (by omega) (by omega) ?_
      exact ⟨rfl, rfl, rfl, rfl, hS1, hSB1, sp, hsr, Or.inl ⟨e, rfl⟩⟩
    · have c_57_1 : 0 ≤ (I1 27 19).toInt := c_57_1
      exfalso; omega
  · skip
    refine V_iconst (pc := 210) (v := 0) dX12_search_210 rfl ?_
    refine V_iret (pc := 211) rfl rfl dX12_search_211 (by omega) (by omega) ?_
    exact ⟨rfl, rfl, rfl, rfl, hS1, hSB1, sp, hsr, Or.inr ⟨(fun z => by rw [e] at z; cases z), rfl⟩⟩
set_option maxRecDepth 100000 in
set_option maxHeartbeats 4000000 in
theorem c_X12_ways (G : vG) {n : Nat} {sh : vS} {I : vI} {L : vL} {R : vR}  (hw : WF n sh R) (h12 : 0 ≤ (I 27 12).toInt ∧ (I 27 12).toInt ≤ 8) (hE : (I 27 12).toInt ≠ 0 → SE I) (hb0 : (I 27 12).toInt ≠ 0 → 0 ≤ (I 38 0).toInt ∧ (I 38 0).toInt ≤ 9) : CT G yX12_ways cX12_ways 1 (some .int) 4 0 0 [.ref (ad G 27)] n sh I L R (PI n sh L R (fun I' r => ∃ v : Int32, r = some (.int v) ∧ wyP I I' v)) := by
  refine CT_of (own := RX12) (ini := false) (lo := [(0, .ref (ad G 27))]) mf_X12_ways (Nat.le_of_ble_eq_true rfl) rfl (fun h => by first | rfl | cases h) rfl ?_
  refine V_aload_n (pc := 0) 0 dX12_ways_0 rfl rfl ?_
  refine V_gI (pc := 1) (v := (I 27 12)) rfl fk_X12_161_12 dX12_ways_1 (wN hw (by decide)) (wS1 hw (by decide) rfl) ?_
  refine V_if_ne (pc := 4) (tgt := 10) dX12_ways_4 (by decide) (fun c_4_1 => ?_) (fun c_4_1 => ?_)
  · have c_4_1 : (I 27 12).toInt ≠ 0 := c_4_1
    refine V_aload_n (pc := 10) 0 dX12_ways_10 rfl rfl ?_
    refine V_callV (pc := 11) (As := []) (st := []) (c_X12_search G hw (hE (by omega)) (hb0 (by omega))) mf_X12_search ml_X12_189 iv_X12_search (wN hw (by decide)) (wS1 hw (by decide) rfl) (by decide) rfl dX12_ways_11 rfl rfl (by omega) (by omega) (by omega) (Nat.le_of_ble_eq_true rfl) (fun r_11_2 n_11_2 sh_11_2 I1 L_11_2 R_11_2 hq_11_2 => ?_)
    obtain ⟨rfl, rfl, rfl, rfl, hS1, hSB1, sp, hsr, ⟨hsp, rfl⟩ | ⟨hsp, rfl⟩⟩ := hq_11_2
    · skip
      refine V_if_ne_t (pc := 14) (tgt := 22) dX12_ways_14 (by decide) (by decide) ?_
      refine V_aload_n (pc := 22) 0 dX12_ways_22 rfl rfl ?_
      refine V_gI (pc := 23) (v := (I1 27 15)) rfl fk_X12_167_12 dX12_ways_23 (wN hw (by decide)) (wS1 hw (by decide) rfl) ?_
      refine V_if_ge (pc := 26) (tgt := 33) dX12_ways_26 (by decide) (fun c_26_3 => ?_) (fun c_26_3 => ?_)
      · have c_26_3 : 0 ≤ (I1 27 15).toInt := c_26_3
        refine V_iconst (pc := 33) (v := 1) dX12_ways_33 rfl ?_
        refine V_aload_n (pc := 34) 0 dX12_ways_34 rfl rfl ?_
        refine V_gI (pc := 35) (v := (I1 27 18)) rfl fk_X12_173_12 dX12_ways_35 (wN hw (by decide)) (wS1 hw (by decide) rfl) ?_
        refine V_iadd (pc := 38) dX12_ways_38 (fun x_38_4 e_38_4 => ?_)
        have t_38_4 : x_38_4.toInt = 1 + (I1 27 18).toInt := addT e_38_4 rfl rfl (by first | omega | (have b0 := hSB1; unfold SB at b0; have b2 : (sgM I1).2.2.2.1 = (I1 27 18).toInt := rfl; rw [b2] at b0; have b3 : (sgM I1).1 = (I1 27 14).toInt := rfl; rw [b3] at b0; omega)) (by first | omega | (have b0 := hSB1; unfold SB at b0; have b2 : (sgM I1).2.2.2.1 = (I1 27 18).toInt := rfl; rw [b2] at b0; have b3 : (sgM I1).1 = (I1 27 14).toInt := rfl; rw [b3] at b0; omega))
        refine V_iret (pc := 39) rfl rfl dX12_ways_39 (by omega) (by omega) ?_
        refine ⟨rfl, rfl, rfl, rfl, _, rfl, Or.inr ⟨by omega, hS1, hSB1, sp, hsr, ?_⟩⟩
        have b1 : (sgM I1).2.1 = (I1 27 15).toInt := rfl
        have b2 : (sgM I1).2.2.2.1 = (I1 27 18).toInt := rfl
        refine Or.inr ⟨hsp, ?_⟩
        rw [if_neg (by omega)]
        omega
      · have c_26_3 : (I1 27 15).toInt < 0 := c_26_3
        refine V_iconst (pc := 29) (v := 0) dX12_ways_29 rfl ?_
        refine V_goto (pc := 30) (tgt := 39) dX12_ways_30 (by decide) ?_
        refine V_iret (pc := 39) rfl rfl dX12_ways_39 (by omega) (by omega) ?_
        refine ⟨rfl, rfl, rfl, rfl, _, rfl, Or.inr ⟨by omega, hS1, hSB1, sp, hsr, ?_⟩⟩
        have b1 : (sgM I1).2.1 = (I1 27 15).toInt := rfl
        have b2 : (sgM I1).2.2.2.1 = (I1 27 18).toInt := rfl
        refine Or.inr ⟨hsp, ?_⟩
        rw [if_pos (by omega)]
        rfl
    · skip
      refine V_if_ne_f (pc := 14) (tgt := 22) dX12_ways_14 (by decide) (by decide) ?_
      refine V_bipush (pc := 17) (v := (-6)) dX12_ways_17 rfl ?_
      refine V_goto (pc := 19) (tgt := 39) dX12_ways_19 (by decide) ?_
      refine V_iret (pc := 39) rfl rfl dX12_ways_39 (by omega) (by omega) ?_
      refine ⟨rfl, rfl, rfl, rfl, _, rfl, Or.inr ⟨by omega, hS1, hSB1, sp, hsr, ?_⟩⟩
      have b1 : (sgM I1).2.1 = (I1 27 15).toInt := rfl
      have b2 : (sgM I1).2.2.2.1 = (I1 27 18).toInt := rfl
      exact Or.inl ⟨by cases sp <;> first | rfl | exact absurd rfl hsp, rfl⟩
  · have c_4_1 : (I 27 12).toInt = 0 := c_4_1
    refine V_bipush (pc := 7) (v := (-3)) dX12_ways_7 rfl ?_
    refine V_iret (pc := 9) rfl rfl dX12_ways_9 (by omega) (by omega) ?_
    exact ⟨rfl, rfl, rfl, rfl, _, rfl, Or.inl ⟨by omega, rfl, rfl⟩⟩
set_option maxRecDepth 100000 in
set_option maxHeartbeats 4000000 in
theorem l_X12_lay_b (G : vG) {n : Nat} {sh : vS} {I : vI} {L : vL} {R : vR} (I1 : vI) (hw : WF n sh R) (hS1 : SF I I1) (hSB1 : SB (sgM I1)) (hsr : srF I = (sgM I1, false)) (h0 : (I 27 12).toInt ≠ 0) (hbs : 0 ≤ (I1 27 15).toInt) (hbm : 0 ≤ (I1 27 16).toInt ∧ (I1 27 16).toInt ≤ 10) : ∀ (f m : Nat) (x : Int32) (J : vI) (hm : (m : Int) ≤ (64 : Int)) (hx : x.toInt = (m : Int)) (hJ : J = zzF (up2 (up2 (up2 (cpF (up2 (up2 I1 27 24 (I1 27 16)) 27 25 (I1 27 15)) 44 0 (I1 39) (I1 27 16).toInt.toNat) 27 27 0) 27 30 0) 27 38 0) m) (hf : (64 : Int) < (m : Int) + f), V G RX12 cX12_lay (some .int) false 4 0 0 2 (PI n sh L R (fun I' r => ∃ v : Int32, r = some (.int v) ∧ lyP I I' v)) 91 [(0, .ref (ad G 27)), (1, .int x)] [] 0 0 n sh J L R := by
  intro f
  induction f with
  | zero => intro m x J hm hx hJ hf; omega
  | succ f ih =>
    intro m x J hm hx hJ hf
    refine V_iload_n (pc := 91) 1 dX12_lay_91 rfl rfl ?_
    refine V_bipush (pc := 92) (v := 64) dX12_lay_92 rfl ?_
    refine V_icmp_ge (pc := 94) (tgt := 117) dX12_lay_94 (by decide) (fun c_94_1 => ?_) (fun c_94_1 => ?_)
    · have c_94_1 : 64 ≤ x.toInt := c_94_1
      refine V_aload_n (pc := 117) 0 dX12_lay_117 rfl rfl ?_
      refine V_gI (pc := 118) (v := (J 27 24)) rfl fk_X12_95_12 dX12_lay_118 (wN hw (by decide)) (wS1 hw (by decide) rfl) ?_
      refine V_iret (pc := 121) rfl rfl dX12_lay_121 (by omega) (by omega) ?_
      have e1 : m = 64 := by omega
      subst e1
      refine ⟨rfl, rfl, rfl, rfl, _, rfl, Or.inr ⟨h0, I1, hS1, hSB1, false, hsr, Or.inr (Or.inr ⟨rfl, hbs, hJ, ?_⟩)⟩⟩
      rw [hJ, zzF_o (by decide) (by decide)]
      show cpF _ 44 0 _ _ 27 24 = _
      rw [cpF_o (by decide)]
      rfl
    · have c_94_1 : x.toInt < 64 := c_94_1
      refine V_aload_n (pc := 97) 0 dX12_lay_97 rfl rfl ?_
      refine V_getR (pc := 98) (j := 53) fk_X12_86_12 (wR hw (i := 27) (k := 39) (j := 53) rfl) dX12_lay_98 (wN hw (by decide)) (wS1 hw (by decide) rfl) ?_
      refine V_iload_n (pc := 101) 1 dX12_lay_101 rfl rfl ?_
      refine V_iconst (pc := 102) (v := 0) dX12_lay_102 rfl ?_
      refine V_iask (pc := 103) (k := m) dX12_lay_103 (wN hw (by decide)) (wS hw (by decide) rfl) hx (by omega) ?_
      refine V_aload_n (pc := 104) 0 dX12_lay_104 rfl rfl ?_
      refine V_getR (pc := 105) (j := 55) fk_X12_92_12 (wR hw (i := 27) (k := 41) (j := 55) rfl) dX12_lay_105 (wN hw (by decide)) (wS1 hw (by decide) rfl) ?_
      refine V_iload_n (pc := 108) 1 dX12_lay_108 rfl rfl ?_
      refine V_iconst (pc := 109) (v := 0) dX12_lay_109 rfl ?_
      refine V_iask (pc := 110) (k := m) dX12_lay_110 (wN hw (by decide)) (wS hw (by decide) rfl) hx (by omega) ?_
      obtain ⟨x_111_2, e_111_2⟩ : ∃ y : Int32, y = x + (1) := ⟨_, rfl⟩
      have t_111_2 : x_111_2.toInt = x.toInt + 1 := addT e_111_2 rfl rfl (by omega) (by omega)
      refine V_iinc (pc := 111) (v := x_111_2) (lo' := [(0, .ref (ad G 27)), (1, .int x_111_2)]) 1 dX12_lay_111 rfl e_111_2.symm (by decide) rfl ?_
      refine V_goto (pc := 114) (tgt := 91) dX12_lay_114 (by decide) ?_
      exact ih (m + 1) x_111_2 _ (by omega) (by omega) (by subst hJ; rfl) (by omega)
set_option maxRecDepth 100000 in
set_option maxHeartbeats 4000000 in
theorem l_X12_lay_a (G : vG) {n : Nat} {sh : vS} {I : vI} {L : vL} {R : vR} (I1 : vI) (hw : WF n sh R) (hS1 : SF I I1) (hSB1 : SB (sgM I1)) (hsr : srF I = (sgM I1, false)) (h0 : (I 27 12).toInt ≠ 0) (hbs : 0 ≤ (I1 27 15).toInt) (hbm : 0 ≤ (I1 27 16).toInt ∧ (I1 27 16).toInt ≤ 10) : ∀ (f m : Nat) (x : Int32) (J : vI) (hm : (m : Int) ≤ (I1 27 16).toInt) (hx : x.toInt = (m : Int)) (hJ : J = cpF (up2 (up2 I1 27 24 (I1 27 16)) 27 25 (I1 27 15)) 44 0 (I1 39) m) (hf : (I1 27 16).toInt < (m : Int) + f), V G RX12 cX12_lay (some .int) false 4 0 0 2 (PI n sh L R (fun I' r => ∃ v : Int32, r = some (.int v) ∧ lyP I I' v)) 48 [(0, .ref (ad G 27)), (1, .int x)] [] 0 0 n sh J L R := by
  intro f
  induction f with
  | zero => intro m x J hm hx hJ hf; omega
  | succ f ih =>
    intro m x J hm hx hJ hf
    have hbJ : (J 27 16).toInt = (I1 27 16).toInt := by rw [hJ, cpF_o (by decide)]; rfl
    refine V_iload_n (pc := 48) 1 dX12_lay_48 rfl rfl ?_
    refine V_aload_n (pc := 49) 0 dX12_lay_49 rfl rfl ?_
    refine V_gI (pc := 50) (v := (J 27 16)) rfl fk_X12_170_12 dX12_lay_50 (wN hw (by decide)) (wS1 hw (by decide) rfl) ?_
    refine V_icmp_ge (pc := 53) (tgt := 74) dX12_lay_53 (by decide) (fun c_53_1 => ?_) (fun c_53_1 => ?_)
    · have c_53_1 : (J 27 16).toInt ≤ x.toInt := c_53_1
      refine V_aload_n (pc := 74) 0 dX12_lay_74 rfl rfl ?_
      refine V_iconst (pc := 75) (v := 0) dX12_lay_75 rfl ?_
      refine V_putI (pc := 76) fw_X12_196_12 rfl rfl dX12_lay_76 (wN hw (by decide)) (wS1 hw (by decide) rfl) ?_
      refine V_aload_n (pc := 79) 0 dX12_lay_79 rfl rfl ?_
      refine V_iconst (pc := 80) (v := 0) dX12_lay_80 rfl ?_
      refine V_putI (pc := 81) fw_X12_199_12 rfl rfl dX12_lay_81 (wN hw (by decide)) (wS1 hw (by decide) rfl) ?_
      refine V_aload_n (pc := 84) 0 dX12_lay_84 rfl rfl ?_
      refine V_iconst (pc := 85) (v := 0) dX12_lay_85 rfl ?_
      refine V_putI (pc := 86) fw_X12_202_12 rfl rfl dX12_lay_86 (wN hw (by decide)) (wS1 hw (by decide) rfl) ?_
      refine V_iconst (pc := 89) (v := 0) dX12_lay_89 rfl ?_
      refine V_istore_n (pc := 90) (lo' := [(0, .ref (ad G 27)), (1, .int 0)]) dX12_lay_90 rfl (by decide) rfl ?_
      have e1 : (I1 27 16).toInt.toNat = m := by omega
      rw [← e1] at hJ
      exact l_X12_lay_b G I1 hw hS1 hSB1 hsr h0 hbs hbm 65 0 0 _ (by omega) rfl (by rw [hJ]; rfl) (by omega)
    · have c_53_1 : x.toInt < (J 27 16).toInt := c_53_1
      refine V_aload_n (pc := 56) 0 dX12_lay_56 rfl rfl ?_
      refine V_getR (pc := 57) (j := 44) fk_X12_59_12 (wR hw (i := 27) (k := 26) (j := 44) rfl) dX12_lay_57 (wN hw (by decide)) (wS1 hw (by decide) rfl) ?_
      refine V_iload_n (pc := 60) 1 dX12_lay_60 rfl rfl ?_
      refine V_aload_n (pc := 61) 0 dX12_lay_61 rfl rfl ?_
      refine V_getR (pc := 62) (j := 39) fk_X12_44_12 (wR hw (i := 27) (k := 17) (j := 39) rfl) dX12_lay_62 (wN hw (by decide)) (wS1 hw (by decide) rfl) ?_
      refine V_iload_n (pc := 65) 1 dX12_lay_65 rfl rfl ?_
      refine V_ia (pc := 66) (k := m) (v := (J 39 m)) rfl dX12_lay_66 (wN hw (by decide)) (wS hw (by decide) rfl) hx (by omega) ?_
      refine V_iask (pc := 67) (k := m) dX12_lay_67 (wN hw (by decide)) (wS hw (by decide) rfl) hx (by omega) ?_
      obtain ⟨x_68_2, e_68_2⟩ : ∃ y : Int32, y = x + (1) := ⟨_, rfl⟩
      have t_68_2 : x_68_2.toInt = x.toInt + 1 := addT e_68_2 rfl rfl (by omega) (by omega)
      refine V_iinc (pc := 68) (v := x_68_2) (lo' := [(0, .ref (ad G 27)), (1, .int x_68_2)]) 1 dX12_lay_68 rfl e_68_2.symm (by decide) rfl ?_
      refine V_goto (pc := 71) (tgt := 48) dX12_lay_71 (by decide) ?_
      exact ih (m + 1) x_68_2 _ (by omega) (by omega) (by subst hJ; show _ = up2 (cpF _ _ _ _ m) 44 _ _; rw [cpF_o (a := 39) (by decide)]; simp [up2]) (by omega)
set_option maxRecDepth 100000 in
set_option maxHeartbeats 4000000 in
theorem c_X12_lay (G : vG) {n : Nat} {sh : vS} {I : vI} {L : vL} {R : vR}  (hw : WF n sh R) (h12 : 0 ≤ (I 27 12).toInt ∧ (I 27 12).toInt ≤ 8) (hE : (I 27 12).toInt ≠ 0 → SE I) (hb0 : (I 27 12).toInt ≠ 0 → 0 ≤ (I 38 0).toInt ∧ (I 38 0).toInt ≤ 9) (hbm0 : ∀ I1, SF I I1 → srF I = (sgM I1, false) → 0 ≤ (I1 27 15).toInt → 0 ≤ (I1 27 16).toInt ∧ (I1 27 16).toInt ≤ 10) : CT G yX12_lay cX12_lay 2 (some .int) 4 0 0 [.ref (ad G 27)] n sh I L R (PI n sh L R (fun I' r => ∃ v : Int32, r = some (.int v) ∧ lyP I I' v)) := by
  refine CT_of (own := RX12) (ini := false) (lo := [(0, .ref (ad G 27))]) mf_X12_lay (Nat.le_of_ble_eq_true rfl) rfl (fun h => by first | rfl | cases h) rfl ?_
  refine V_aload_n (pc := 0) 0 dX12_lay_0 rfl rfl ?_
  refine V_gI (pc := 1) (v := (I 27 12)) rfl fk_X12_161_12 dX12_lay_1 (wN hw (by decide)) (wS1 hw (by decide) rfl) ?_
  refine V_if_ne (pc := 4) (tgt := 10) dX12_lay_4 (by decide) (fun c_4_1 => ?_) (fun c_4_1 => ?_)
  · have c_4_1 : (I 27 12).toInt ≠ 0 := c_4_1
    refine V_aload_n (pc := 10) 0 dX12_lay_10 rfl rfl ?_
    refine V_callV (pc := 11) (As := []) (st := []) (c_X12_search G hw (hE (by omega)) (hb0 (by omega))) mf_X12_search ml_X12_189 iv_X12_search (wN hw (by decide)) (wS1 hw (by decide) rfl) (by decide) rfl dX12_lay_11 rfl rfl (by omega) (by omega) (by omega) (Nat.le_of_ble_eq_true rfl) (fun r_11_2 n_11_2 sh_11_2 I1 L_11_2 R_11_2 hq_11_2 => ?_)
    obtain ⟨rfl, rfl, rfl, rfl, hS1, hSB1, sp, hsr, ⟨hsp, rfl⟩ | ⟨hsp, rfl⟩⟩ := hq_11_2
    · skip
      refine V_if_ne_t (pc := 14) (tgt := 20) dX12_lay_14 (by decide) (by decide) ?_
      refine V_aload_n (pc := 20) 0 dX12_lay_20 rfl rfl ?_
      refine V_gI (pc := 21) (v := (I1 27 15)) rfl fk_X12_167_12 dX12_lay_21 (wN hw (by decide)) (wS1 hw (by decide) rfl) ?_
      refine V_if_ge (pc := 24) (tgt := 30) dX12_lay_24 (by decide) (fun c_24_3 => ?_) (fun c_24_3 => ?_)
      · have c_24_3 : 0 ≤ (I1 27 15).toInt := c_24_3
        refine V_aload_n (pc := 30) 0 dX12_lay_30 rfl rfl ?_
        refine V_aload_n (pc := 31) 0 dX12_lay_31 rfl rfl ?_
        refine V_gI (pc := 32) (v := (I1 27 16)) rfl fk_X12_170_12 dX12_lay_32 (wN hw (by decide)) (wS1 hw (by decide) rfl) ?_
        refine V_putI (pc := 35) fw_X12_95_12 rfl rfl dX12_lay_35 (wN hw (by decide)) (wS1 hw (by decide) rfl) ?_
        refine V_aload_n (pc := 38) 0 dX12_lay_38 rfl rfl ?_
        refine V_aload_n (pc := 39) 0 dX12_lay_39 rfl rfl ?_
        refine V_gI (pc := 40) (v := (I1 27 15)) rfl fk_X12_167_12 dX12_lay_40 (wN hw (by decide)) (wS1 hw (by decide) rfl) ?_
        refine V_putI (pc := 43) fw_X12_193_12 rfl rfl dX12_lay_43 (wN hw (by decide)) (wS1 hw (by decide) rfl) ?_
        refine V_iconst (pc := 46) (v := 0) dX12_lay_46 rfl ?_
        refine V_istore_n (pc := 47) (lo' := [(0, .ref (ad G 27)), (1, .int 0)]) dX12_lay_47 rfl (by decide) rfl ?_
        subst hsp
        exact l_X12_lay_a G I1 hw hS1 hSB1 hsr (by omega) (by omega) (hbm0 I1 hS1 hsr (by omega)) ((I1 27 16).toInt.toNat + 1) 0 0 _ (by have := hbm0 I1 hS1 hsr (by omega); omega) rfl rfl (by omega)
      · have c_24_3 : (I1 27 15).toInt < 0 := c_24_3
        refine V_bipush (pc := 27) (v := (-9)) dX12_lay_27 rfl ?_
        refine V_iret (pc := 29) rfl rfl dX12_lay_29 (by omega) (by omega) ?_
        refine ⟨rfl, rfl, rfl, rfl, _, rfl, Or.inr ⟨by omega, I1, hS1, hSB1, sp, hsr, ?_⟩⟩
        exact Or.inr (Or.inl ⟨hsp, by omega, rfl, rfl⟩)
    · skip
      refine V_if_ne_f (pc := 14) (tgt := 20) dX12_lay_14 (by decide) (by decide) ?_
      refine V_bipush (pc := 17) (v := (-6)) dX12_lay_17 rfl ?_
      refine V_iret (pc := 19) rfl rfl dX12_lay_19 (by omega) (by omega) ?_
      refine ⟨rfl, rfl, rfl, rfl, _, rfl, Or.inr ⟨by omega, I1, hS1, hSB1, sp, hsr, ?_⟩⟩
      exact Or.inl ⟨by cases sp <;> first | rfl | exact absurd rfl hsp, rfl, rfl⟩
  · have c_4_1 : (I 27 12).toInt = 0 := c_4_1
    refine V_bipush (pc := 7) (v := (-3)) dX12_lay_7 rfl ?_
    refine V_iret (pc := 9) rfl rfl dX12_lay_9 (by omega) (by omega) ?_
    exact ⟨rfl, rfl, rfl, rfl, _, rfl, Or.inl ⟨by omega, rfl, rfl⟩⟩
