set_option maxRecDepth 100000 in
set_option maxHeartbeats 4000000 in
theorem l_X12_judge (G : vG) {n : Nat} {sh : vS} {I : vI} {L : vL} {R : vR} (d : Nat) (hw : WF n sh R) (hd : (I 27 19).toInt = (d : Int)) (hd10 : d ≤ 10) (h12 : 1 ≤ (I 27 12).toInt ∧ (I 27 12).toInt ≤ 8) (hrv : 0 ≤ (I 27 18).toInt ∧ (I 27 18).toInt ≤ 60000) (hfo : ¬ ((I 42 d).toInt < (I 27 12).toInt ∨ (I 41 d).toInt ≠ (I 38 ((I 27 12).toInt - 1).toNat).toInt)) (hbs : (I 27 15).toInt < 0 ∨ (I 43 d).toInt < (I 27 15).toInt) : ∀ (f m : Nat) (x : Int32) (J : vI) (hm : (m : Int) ≤ (d : Int)) (hx : x.toInt = (m : Int)) (hJ : J = cpF (up2 (up2 (up2 I 27 15 (I 43 d)) 27 16 (I 27 19)) 27 18 0) 39 0 (I 40) m) (hf : (d : Int) < (m : Int) + f), V G RX12 cX12_judge (none) false 0 0 0 2 (PI n sh L R (fun I' r => r = none ∧ JF I I' ∧ sgM I' = jgF I d (I 40) (I 41 d).toInt (I 42 d).toInt (I 43 d).toInt (sgM I))) 91 [(0, .ref (ad G 27)), (1, .int x)] [] 0 0 n sh J L R := by
  intro f
  induction f with
  | zero => intro m x J hm hx hJ hf; omega
  | succ f ih =>
    intro m x J hm hx hJ hf
    have hdJ : (J 27 19).toInt = (d : Int) := by rw [hJ, cpF_o (by decide)]; exact hd
    refine V_iload_n (pc := 91) 1 dX12_judge_91 rfl rfl ?_
    refine V_aload_n (pc := 92) 0 dX12_judge_92 rfl rfl ?_
    refine V_gI (pc := 93) (v := (J 27 19)) rfl fk_X12_164_12 dX12_judge_93 (wN hw (by decide)) (wS1 hw (by decide) rfl) ?_
    refine V_icmp_ge (pc := 96) (tgt := 117) dX12_judge_96 (by decide) (fun c_96_1 => ?_) (fun c_96_1 => ?_)
    · have c_96_1 : (J 27 19).toInt ≤ x.toInt := c_96_1
      refine V_goto (pc := 117) (tgt := 146) dX12_judge_117 (by decide) ?_
      refine V_vret (pc := 146) rfl dX12_judge_146 (by omega) (by omega) ?_
      have e1 : d = m := by omega
      refine ⟨rfl, rfl, rfl, rfl, rfl, fun a b z1 z2 => ?_, ?_⟩
      · rw [hJ, cpF_o z1]
        show up2 (up2 (up2 I 27 15 _) 27 16 _) 27 18 _ a b = I a b
        simp only [up2]
        rw [if_neg (fun z => z2 ⟨z.1, by omega⟩), if_neg (fun z => z2 ⟨z.1, by omega⟩), if_neg (fun z => z2 ⟨z.1, by omega⟩)]
      · unfold jgF
        rw [if_neg hfo, if_pos (show (sgM I).2.1 < 0 ∨ (I 43 d).toInt < (sgM I).2.1 from hbs), hJ]
        unfold sgM
        rw [cpF_o (by decide), cpF_o (by decide), cpF_o (by decide), cpF_o (by decide)]
        refine Prod.ext rfl (Prod.ext rfl (Prod.ext hd (Prod.ext rfl (funext fun b => ?_))))
        have e2 := cpF_c (I := (up2 (up2 (up2 I 27 15 (I 43 d)) 27 16 (I 27 19)) 27 18 0)) (d := 39) (q := 0) (g := I 40) (b := b) m
        refine Eq.trans e2 ?_
        by_cases hb : b < d
        · rw [if_pos ⟨Nat.zero_le _, by omega⟩]
          show _ = if b < d then _ else _
          rw [if_pos hb]
          rfl
        · rw [if_neg (by omega)]
          show _ = if b < d then _ else _
          rw [if_neg hb]
          rfl
    · have c_96_1 : x.toInt < (J 27 19).toInt := c_96_1
      refine V_aload_n (pc := 99) 0 dX12_judge_99 rfl rfl ?_
      refine V_getR (pc := 100) (j := 39) fk_X12_44_12 (wR hw (i := 27) (k := 17) (j := 39) rfl) dX12_judge_100 (wN hw (by decide)) (wS1 hw (by decide) rfl) ?_
      refine V_iload_n (pc := 103) 1 dX12_judge_103 rfl rfl ?_
      refine V_aload_n (pc := 104) 0 dX12_judge_104 rfl rfl ?_
      refine V_getR (pc := 105) (j := 40) fk_X12_47_12 (wR hw (i := 27) (k := 20) (j := 40) rfl) dX12_judge_105 (wN hw (by decide)) (wS1 hw (by decide) rfl) ?_
      refine V_iload_n (pc := 108) 1 dX12_judge_108 rfl rfl ?_
      refine V_ia (pc := 109) (k := m) (v := (J 40 m)) rfl dX12_judge_109 (wN hw (by decide)) (wS hw (by decide) rfl) hx (by omega) ?_
      refine V_iask (pc := 110) (k := m) dX12_judge_110 (wN hw (by decide)) (wS hw (by decide) rfl) hx (by omega) ?_
      obtain ⟨x_111_2, e_111_2⟩ : ∃ y : Int32, y = x + (1) := ⟨_, rfl⟩
      have t_111_2 : x_111_2.toInt = x.toInt + 1 := addT e_111_2 rfl rfl (by omega) (by omega)
      refine V_iinc (pc := 111) (v := x_111_2) (lo' := [(0, .ref (ad G 27)), (1, .int x_111_2)]) 1 dX12_judge_111 rfl e_111_2.symm (by decide) rfl ?_
      refine V_goto (pc := 114) (tgt := 91) dX12_judge_114 (by decide) ?_
      exact ih (m + 1) x_111_2 _ (by omega) (by omega) (by subst hJ; show _ = up2 (cpF _ _ _ _ m) 39 _ _; rw [cpF_o (a := 40) (by decide)]; simp [up2]) (by omega)
set_option maxRecDepth 100000 in
set_option maxHeartbeats 4000000 in
theorem c_X12_judge (G : vG) {n : Nat} {sh : vS} {I : vI} {L : vL} {R : vR} (d : Nat) (hw : WF n sh R) (hd : (I 27 19).toInt = (d : Int)) (hd10 : d ≤ 10) (h12 : 1 ≤ (I 27 12).toInt ∧ (I 27 12).toInt ≤ 8) (hrv : 0 ≤ (I 27 18).toInt ∧ (I 27 18).toInt ≤ 60000) : CT G yX12_judge cX12_judge 2 (none) 0 0 0 [.ref (ad G 27)] n sh I L R (PI n sh L R (fun I' r => r = none ∧ JF I I' ∧ sgM I' = jgF I d (I 40) (I 41 d).toInt (I 42 d).toInt (I 43 d).toInt (sgM I))) := by
  refine CT_of (own := RX12) (ini := false) (lo := [(0, .ref (ad G 27))]) mf_X12_judge (Nat.le_of_ble_eq_true rfl) rfl (fun h => by first | rfl | cases h) rfl ?_
  refine V_aload_n (pc := 0) 0 dX12_judge_0 rfl rfl ?_
  refine V_getR (pc := 1) (j := 42) fk_X12_53_12 (wR hw (i := 27) (k := 22) (j := 42) rfl) dX12_judge_1 (wN hw (by decide)) (wS1 hw (by decide) rfl) ?_
  refine V_aload_n (pc := 4) 0 dX12_judge_4 rfl rfl ?_
  refine V_gI (pc := 5) (v := (I 27 19)) rfl fk_X12_164_12 dX12_judge_5 (wN hw (by decide)) (wS1 hw (by decide) rfl) ?_
  refine V_ia (pc := 8) (k := d) (v := (I 42 d)) rfl dX12_judge_8 (wN hw (by decide)) (wS hw (by decide) rfl) hd (by omega) ?_
  refine V_aload_n (pc := 9) 0 dX12_judge_9 rfl rfl ?_
  refine V_gI (pc := 10) (v := (I 27 12)) rfl fk_X12_161_12 dX12_judge_10 (wN hw (by decide)) (wS1 hw (by decide) rfl) ?_
  refine V_icmp_lt (pc := 13) (tgt := 39) dX12_judge_13 (by decide) (fun c_13_1 => ?_) (fun c_13_1 => ?_)
  · have c_13_1 : (I 42 d).toInt < (I 27 12).toInt := c_13_1
    refine V_vret (pc := 39) rfl dX12_judge_39 (by omega) (by omega) ?_
    refine ⟨rfl, rfl, rfl, rfl, rfl, fun _ _ _ _ => rfl, ?_⟩
    unfold jgF
    rw [if_pos (by omega)]
  · have c_13_1 : (I 27 12).toInt ≤ (I 42 d).toInt := c_13_1
    refine V_aload_n (pc := 16) 0 dX12_judge_16 rfl rfl ?_
    refine V_getR (pc := 17) (j := 41) fk_X12_50_12 (wR hw (i := 27) (k := 21) (j := 41) rfl) dX12_judge_17 (wN hw (by decide)) (wS1 hw (by decide) rfl) ?_
    refine V_aload_n (pc := 20) 0 dX12_judge_20 rfl rfl ?_
    refine V_gI (pc := 21) (v := (I 27 19)) rfl fk_X12_164_12 dX12_judge_21 (wN hw (by decide)) (wS1 hw (by decide) rfl) ?_
    refine V_ia (pc := 24) (k := d) (v := (I 41 d)) rfl dX12_judge_24 (wN hw (by decide)) (wS hw (by decide) rfl) hd (by omega) ?_
    refine V_aload_n (pc := 25) 0 dX12_judge_25 rfl rfl ?_
    refine V_getR (pc := 26) (j := 38) fk_X12_41_12 (wR hw (i := 27) (k := 13) (j := 38) rfl) dX12_judge_26 (wN hw (by decide)) (wS1 hw (by decide) rfl) ?_
    refine V_aload_n (pc := 29) 0 dX12_judge_29 rfl rfl ?_
    refine V_gI (pc := 30) (v := (I 27 12)) rfl fk_X12_161_12 dX12_judge_30 (wN hw (by decide)) (wS1 hw (by decide) rfl) ?_
    refine V_iconst (pc := 33) (v := 1) dX12_judge_33 rfl ?_
    refine V_isub (pc := 34) dX12_judge_34 (fun x_34_2 e_34_2 => ?_)
    have t_34_2 : x_34_2.toInt = (I 27 12).toInt - 1 := subT e_34_2 rfl rfl (by omega) (by omega)
    refine V_ia (pc := 35) (k := ((I 27 12).toInt - 1).toNat) (v := (I 38 ((I 27 12).toInt - 1).toNat)) rfl dX12_judge_35 (wN hw (by decide)) (wS hw (by decide) rfl) (by omega) (by omega) ?_
    refine V_icmp_eq (pc := 36) (tgt := 40) dX12_judge_36 (by decide) (fun c_36_3 => ?_) (fun c_36_3 => ?_)
    · have c_36_3 : (I 41 d).toInt = (I 38 ((I 27 12).toInt - 1).toNat).toInt := c_36_3
      refine V_aload_n (pc := 40) 0 dX12_judge_40 rfl rfl ?_
      refine V_gI (pc := 41) (v := (I 27 15)) rfl fk_X12_167_12 dX12_judge_41 (wN hw (by decide)) (wS1 hw (by decide) rfl) ?_
      refine V_if_lt (pc := 44) (tgt := 63) dX12_judge_44 (by decide) (fun c_44_4 => ?_) (fun c_44_4 => ?_)
      · have c_44_4 : (I 27 15).toInt < 0 := c_44_4
        refine V_aload_n (pc := 63) 0 dX12_judge_63 rfl rfl ?_
        refine V_aload_n (pc := 64) 0 dX12_judge_64 rfl rfl ?_
        refine V_getR (pc := 65) (j := 43) fk_X12_56_12 (wR hw (i := 27) (k := 23) (j := 43) rfl) dX12_judge_65 (wN hw (by decide)) (wS1 hw (by decide) rfl) ?_
        refine V_aload_n (pc := 68) 0 dX12_judge_68 rfl rfl ?_
        refine V_gI (pc := 69) (v := (I 27 19)) rfl fk_X12_164_12 dX12_judge_69 (wN hw (by decide)) (wS1 hw (by decide) rfl) ?_
        refine V_ia (pc := 72) (k := d) (v := (I 43 d)) rfl dX12_judge_72 (wN hw (by decide)) (wS hw (by decide) rfl) hd (by omega) ?_
        refine V_putI (pc := 73) fw_X12_167_12 rfl rfl dX12_judge_73 (wN hw (by decide)) (wS1 hw (by decide) rfl) ?_
        refine V_aload_n (pc := 76) 0 dX12_judge_76 rfl rfl ?_
        refine V_aload_n (pc := 77) 0 dX12_judge_77 rfl rfl ?_
        refine V_gI (pc := 78) (v := (I 27 19)) rfl fk_X12_164_12 dX12_judge_78 (wN hw (by decide)) (wS1 hw (by decide) rfl) ?_
        refine V_putI (pc := 81) fw_X12_170_12 rfl rfl dX12_judge_81 (wN hw (by decide)) (wS1 hw (by decide) rfl) ?_
        refine V_aload_n (pc := 84) 0 dX12_judge_84 rfl rfl ?_
        refine V_iconst (pc := 85) (v := 0) dX12_judge_85 rfl ?_
        refine V_putI (pc := 86) fw_X12_173_12 rfl rfl dX12_judge_86 (wN hw (by decide)) (wS1 hw (by decide) rfl) ?_
        refine V_iconst (pc := 89) (v := 0) dX12_judge_89 rfl ?_
        refine V_istore_n (pc := 90) (lo' := [(0, .ref (ad G 27)), (1, .int 0)]) dX12_judge_90 rfl (by decide) rfl ?_
        exact l_X12_judge G d hw hd hd10 h12 hrv (by omega) (by omega) (d + 1) 0 0 _ (by omega) rfl rfl (by omega)
      · have c_44_4 : 0 ≤ (I 27 15).toInt := c_44_4
        refine V_aload_n (pc := 47) 0 dX12_judge_47 rfl rfl ?_
        refine V_getR (pc := 48) (j := 43) fk_X12_56_12 (wR hw (i := 27) (k := 23) (j := 43) rfl) dX12_judge_48 (wN hw (by decide)) (wS1 hw (by decide) rfl) ?_
        refine V_aload_n (pc := 51) 0 dX12_judge_51 rfl rfl ?_
        refine V_gI (pc := 52) (v := (I 27 19)) rfl fk_X12_164_12 dX12_judge_52 (wN hw (by decide)) (wS1 hw (by decide) rfl) ?_
        refine V_ia (pc := 55) (k := d) (v := (I 43 d)) rfl dX12_judge_55 (wN hw (by decide)) (wS hw (by decide) rfl) hd (by omega) ?_
        refine V_aload_n (pc := 56) 0 dX12_judge_56 rfl rfl ?_
        refine V_gI (pc := 57) (v := (I 27 15)) rfl fk_X12_167_12 dX12_judge_57 (wN hw (by decide)) (wS1 hw (by decide) rfl) ?_
        refine V_icmp_ge (pc := 60) (tgt := 120) dX12_judge_60 (by decide) (fun c_60_5 => ?_) (fun c_60_5 => ?_)
        · have c_60_5 : (I 27 15).toInt ≤ (I 43 d).toInt := c_60_5
          refine V_aload_n (pc := 120) 0 dX12_judge_120 rfl rfl ?_
          refine V_getR (pc := 121) (j := 43) fk_X12_56_12 (wR hw (i := 27) (k := 23) (j := 43) rfl) dX12_judge_121 (wN hw (by decide)) (wS1 hw (by decide) rfl) ?_
          refine V_aload_n (pc := 124) 0 dX12_judge_124 rfl rfl ?_
          refine V_gI (pc := 125) (v := (I 27 19)) rfl fk_X12_164_12 dX12_judge_125 (wN hw (by decide)) (wS1 hw (by decide) rfl) ?_
          refine V_ia (pc := 128) (k := d) (v := (I 43 d)) rfl dX12_judge_128 (wN hw (by decide)) (wS hw (by decide) rfl) hd (by omega) ?_
          refine V_aload_n (pc := 129) 0 dX12_judge_129 rfl rfl ?_
          refine V_gI (pc := 130) (v := (I 27 15)) rfl fk_X12_167_12 dX12_judge_130 (wN hw (by decide)) (wS1 hw (by decide) rfl) ?_
          refine V_icmp_ne (pc := 133) (tgt := 146) dX12_judge_133 (by decide) (fun c_133_6 => ?_) (fun c_133_6 => ?_)
          · have c_133_6 : (I 43 d).toInt ≠ (I 27 15).toInt := c_133_6
            refine V_vret (pc := 146) rfl dX12_judge_146 (by omega) (by omega) ?_
            refine ⟨rfl, rfl, rfl, rfl, rfl, fun _ _ _ _ => rfl, ?_⟩
            unfold jgF
            rw [if_neg (by omega), if_neg (by show ¬ ((I 27 15).toInt < 0 ∨ (I 43 d).toInt < (I 27 15).toInt); omega), if_neg (by show ¬ ((I 43 d).toInt = (I 27 15).toInt); omega)]
          · have c_133_6 : (I 43 d).toInt = (I 27 15).toInt := c_133_6
            refine V_aload_n (pc := 136) 0 dX12_judge_136 rfl rfl ?_
            refine V_dup (pc := 137) dX12_judge_137 rfl ?_
            refine V_gI (pc := 138) (v := (I 27 18)) rfl fk_X12_173_12 dX12_judge_138 (wN hw (by decide)) (wS1 hw (by decide) rfl) ?_
            refine V_iconst (pc := 141) (v := 1) dX12_judge_141 rfl ?_
            refine V_iadd (pc := 142) dX12_judge_142 (fun x_142_7 e_142_7 => ?_)
            have t_142_7 : x_142_7.toInt = (I 27 18).toInt + 1 := addT e_142_7 rfl rfl (by omega) (by omega)
            refine V_putI (pc := 143) fw_X12_173_12 rfl rfl dX12_judge_143 (wN hw (by decide)) (wS1 hw (by decide) rfl) ?_
            refine V_vret (pc := 146) rfl dX12_judge_146 (by omega) (by omega) ?_
            refine ⟨rfl, rfl, rfl, rfl, rfl, fun a b z1 z2 => ?_, ?_⟩
            · simp only [up2]
              rw [if_neg (fun z => z2 ⟨z.1, by omega⟩)]
            · unfold jgF
              rw [if_neg (by omega), if_neg (by show ¬ ((I 27 15).toInt < 0 ∨ (I 43 d).toInt < (I 27 15).toInt); omega), if_pos (by show (I 43 d).toInt = (I 27 15).toInt; omega)]
              refine Prod.ext rfl (Prod.ext rfl (Prod.ext rfl (Prod.ext ?_ rfl)))
              show (up2 I 27 18 _ 27 18).toInt = (I 27 18).toInt + 1
              rw [up2_e]
              omega
        · have c_60_5 : (I 43 d).toInt < (I 27 15).toInt := c_60_5
          refine V_aload_n (pc := 63) 0 dX12_judge_63 rfl rfl ?_
          refine V_aload_n (pc := 64) 0 dX12_judge_64 rfl rfl ?_
          refine V_getR (pc := 65) (j := 43) fk_X12_56_12 (wR hw (i := 27) (k := 23) (j := 43) rfl) dX12_judge_65 (wN hw (by decide)) (wS1 hw (by decide) rfl) ?_
          refine V_aload_n (pc := 68) 0 dX12_judge_68 rfl rfl ?_
          refine V_gI (pc := 69) (v := (I 27 19)) rfl fk_X12_164_12 dX12_judge_69 (wN hw (by decide)) (wS1 hw (by decide) rfl) ?_
          refine V_ia (pc := 72) (k := d) (v := (I 43 d)) rfl dX12_judge_72 (wN hw (by decide)) (wS hw (by decide) rfl) hd (by omega) ?_
          refine V_putI (pc := 73) fw_X12_167_12 rfl rfl dX12_judge_73 (wN hw (by decide)) (wS1 hw (by decide) rfl) ?_
          refine V_aload_n (pc := 76) 0 dX12_judge_76 rfl rfl ?_
          refine V_aload_n (pc := 77) 0 dX12_judge_77 rfl rfl ?_
          refine V_gI (pc := 78) (v := (I 27 19)) rfl fk_X12_164_12 dX12_judge_78 (wN hw (by decide)) (wS1 hw (by decide) rfl) ?_
          refine V_putI (pc := 81) fw_X12_170_12 rfl rfl dX12_judge_81 (wN hw (by decide)) (wS1 hw (by decide) rfl) ?_
          refine V_aload_n (pc := 84) 0 dX12_judge_84 rfl rfl ?_
          refine V_iconst (pc := 85) (v := 0) dX12_judge_85 rfl ?_
          refine V_putI (pc := 86) fw_X12_173_12 rfl rfl dX12_judge_86 (wN hw (by decide)) (wS1 hw (by decide) rfl) ?_
          refine V_iconst (pc := 89) (v := 0) dX12_judge_89 rfl ?_
          refine V_istore_n (pc := 90) (lo' := [(0, .ref (ad G 27)), (1, .int 0)]) dX12_judge_90 rfl (by decide) rfl ?_
          exact l_X12_judge G d hw hd hd10 h12 hrv (by omega) (by omega) (d + 1) 0 0 _ (by omega) rfl rfl (by omega)
    · have c_36_3 : (I 41 d).toInt ≠ (I 38 ((I 27 12).toInt - 1).toNat).toInt := c_36_3
      refine V_vret (pc := 39) rfl dX12_judge_39 (by omega) (by omega) ?_
      refine ⟨rfl, rfl, rfl, rfl, rfl, fun _ _ _ _ => rfl, ?_⟩
      unfold jgF
      rw [if_pos (by omega)]
