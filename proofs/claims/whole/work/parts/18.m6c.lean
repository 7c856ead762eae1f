set_option maxRecDepth 100000 in
set_option maxHeartbeats 4000000 in
theorem l_X12_about (G : vG) {n : Nat} {sh : vS} {I : vI} {L : vL} {R : vR} (r w : Int32) (hw : WF n sh R) (h24 : 0 ≤ (I 27 24).toInt ∧ (I 27 24).toInt ≤ 10) (hr : isRoad I r) (hw5 : w.toInt = 5) : ∀ (f m : Nat) (k : Int32) (hm : (m : Int) ≤ (I 27 24).toInt) (hk : k.toInt = (m : Int)) (hq : plF (I 44) r.toInt (I 27 24).toInt.toNat 0 = plF (I 44) r.toInt ((I 27 24).toInt.toNat - m) m) (hf : (I 27 24).toInt < (m : Int) + f), V G RX12 cX12_about (some .int) false 2 0 0 4 (PI n sh L R (fun I' o => I = I' ∧ ∃ v : Int32, o = some (.int v) ∧ v.toInt = sAbout I r w)) 102 [(0, .ref (ad G 27)), (1, .int r), (2, .int w), (3, .int k)] [] 0 0 n sh I L R := by
  intro f
  induction f with
  | zero => intro m k hm hk hq hf; omega
  | succ f ih =>
    intro m k hm hk hq hf
    refine V_iload_n (pc := 102) 3 dX12_about_102 rfl rfl ?_
    refine V_aload_n (pc := 103) 0 dX12_about_103 rfl rfl ?_
    refine V_gI (pc := 104) (v := (I 27 24)) rfl fk_X12_95_12 dX12_about_104 (wN hw (by decide)) (wS1 hw (by decide) rfl) ?_
    refine V_icmp_ge (pc := 107) (tgt := 128) dX12_about_107 (by decide) (fun c_107_1 => ?_) (fun c_107_1 => ?_)
    · have c_107_1 : (I 27 24).toInt ≤ k.toInt := c_107_1
      refine V_bipush (pc := 128) (v := (-9)) dX12_about_128 rfl ?_
      refine V_iret (pc := 130) rfl rfl dX12_about_130 (by omega) (by omega) ?_
      refine ⟨rfl, rfl, rfl, rfl, rfl, _, rfl, ?_⟩
      unfold sAbout
      rw [if_neg (by unfold isRoad at *; omega), if_neg (by omega), if_neg (by omega), if_neg (by omega), if_neg (by omega), if_neg (by omega), if_pos (by omega), hq]
      have e9 : (I 27 24).toInt.toNat - m = 0 := by omega
      rw [e9]
      rfl
    · have c_107_1 : k.toInt < (I 27 24).toInt := c_107_1
      refine V_aload_n (pc := 110) 0 dX12_about_110 rfl rfl ?_
      refine V_getR (pc := 111) (j := 44) fk_X12_59_12 (wR hw (i := 27) (k := 26) (j := 44) rfl) dX12_about_111 (wN hw (by decide)) (wS1 hw (by decide) rfl) ?_
      refine V_iload_n (pc := 114) 3 dX12_about_114 rfl rfl ?_
      refine V_ia (pc := 115) (k := m) (v := (I 44 m)) rfl dX12_about_115 (wN hw (by decide)) (wS hw (by decide) rfl) hk (by omega) ?_
      refine V_iload_n (pc := 116) 1 dX12_about_116 rfl rfl ?_
      refine V_icmp_ne (pc := 117) (tgt := 122) dX12_about_117 (by decide) (fun c_117_2 => ?_) (fun c_117_2 => ?_)
      · have c_117_2 : (I 44 m).toInt ≠ r.toInt := c_117_2
        obtain ⟨x_122_3, e_122_3⟩ : ∃ y : Int32, y = k + (1) := ⟨_, rfl⟩
        have t_122_3 : x_122_3.toInt = k.toInt + 1 := addT e_122_3 rfl rfl (by omega) (by omega)
        refine V_iinc (pc := 122) (v := x_122_3) (lo' := [(0, .ref (ad G 27)), (1, .int r), (2, .int w), (3, .int x_122_3)]) 3 dX12_about_122 rfl e_122_3.symm (by decide) rfl ?_
        refine V_goto (pc := 125) (tgt := 102) dX12_about_125 (by decide) ?_
        have e9 : (I 27 24).toInt.toNat - m = ((I 27 24).toInt.toNat - (m + 1)) + 1 := by omega
        rw [e9, plF_s, if_neg (by omega)] at hq
        exact ih (m + 1) x_122_3 (by omega) (by omega) hq (by omega)
      · have c_117_2 : (I 44 m).toInt = r.toInt := c_117_2
        refine V_iload_n (pc := 120) 3 dX12_about_120 rfl rfl ?_
        refine V_iret (pc := 121) rfl rfl dX12_about_121 (by omega) (by omega) ?_
        refine ⟨rfl, rfl, rfl, rfl, rfl, _, rfl, ?_⟩
        unfold sAbout
        rw [if_neg (by unfold isRoad at *; omega), if_neg (by omega), if_neg (by omega), if_neg (by omega), if_neg (by omega), if_neg (by omega), if_pos (by omega), hq]
        have e9 : (I 27 24).toInt.toNat - m = ((I 27 24).toInt.toNat - (m + 1)) + 1 := by omega
        rw [e9]
        rw [plF_s, if_pos (by omega)]
        omega
set_option maxRecDepth 100000 in
set_option maxHeartbeats 4000000 in
theorem c_X12_about (G : vG) {n : Nat} {sh : vS} {I : vI} {L : vL} {R : vR} (r w : Int32) (hw : WF n sh R) (h1 : 0 ≤ (I 27 1).toInt ∧ (I 27 1).toInt ≤ 16) (h24 : 0 ≤ (I 27 24).toInt ∧ (I 27 24).toInt ≤ 10) : CT G yX12_about cX12_about 4 (some .int) 2 0 0 [.ref (ad G 27), .int r, .int w] n sh I L R (PI n sh L R (fun I' o => I = I' ∧ ∃ v : Int32, o = some (.int v) ∧ v.toInt = sAbout I r w)) := by
  refine CT_of (own := RX12) (ini := false) (lo := [(0, .ref (ad G 27)), (1, .int r), (2, .int w)]) mf_X12_about (Nat.le_of_ble_eq_true rfl) rfl (fun h => by first | rfl | cases h) rfl ?_
  refine V_aload_n (pc := 0) 0 dX12_about_0 rfl rfl ?_
  refine V_iload_n (pc := 1) 1 dX12_about_1 rfl rfl ?_
  refine V_callV (pc := 2) (As := [.int r]) (st := []) (c_X12_noRoad G r hw h1.1) mf_X12_noRoad ml_X12_125 iv_X12_noRoad (wN hw (by decide)) (wS1 hw (by decide) rfl) (by decide) rfl dX12_about_2 rfl rfl (by omega) (by omega) (by omega) (Nat.le_of_ble_eq_true rfl) (fun r_2_1 n_2_1 sh_2_1 I_2_1 L_2_1 R_2_1 hq_2_1 => ?_)
  obtain ⟨rfl, rfl, rfl, rfl, rfl, hq_2_1⟩ := hq_2_1
  rcases hq_2_1 with ⟨c_2_1, rfl⟩ | ⟨c_2_1, rfl⟩
  · have c_2_1 : ¬ (0 ≤ r.toInt ∧ r.toInt < (I 27 1).toInt) := c_2_1
    refine V_if_eq_f (pc := 5) (tgt := 10) dX12_about_5 (by decide) (by decide) ?_
    refine V_iconst (pc := 8) (v := (-1)) dX12_about_8 rfl ?_
    refine V_iret (pc := 9) rfl rfl dX12_about_9 (by omega) (by omega) ?_
    refine ⟨rfl, rfl, rfl, rfl, rfl, _, rfl, ?_⟩
    unfold sAbout isRoad
    (repeat' split) <;> first | rfl | (exfalso; omega)
  · have c_2_1 : ¬ (¬ (0 ≤ r.toInt ∧ r.toInt < (I 27 1).toInt)) := c_2_1
    refine V_if_eq_t (pc := 5) (tgt := 10) dX12_about_5 (by decide) (by decide) ?_
    refine V_iload_n (pc := 10) 2 dX12_about_10 rfl rfl ?_
    by_cases c_11_2 : 0 ≤ w.toInt ∧ w.toInt ≤ 5
    · rcases (show w.toInt = 0 ∨ w.toInt = 1 ∨ w.toInt = 2 ∨ w.toInt = 3 ∨ w.toInt = 4 ∨ w.toInt = 5 by omega) with k_11_2 | k_11_2 | k_11_2 | k_11_2 | k_11_2 | k_11_2
      · refine V_tableIn (pc := 11) (tgt := 48) (off := 37) dX12_about_11 (by omega) (by omega) (by rw [k_11_2]; rfl) (by decide) ?_
        refine V_aload_n (pc := 48) 0 dX12_about_48 rfl rfl ?_
        refine V_getR (pc := 49) (j := 28) fk_X12_7_12 (wR hw (i := 27) (k := 2) (j := 28) rfl) dX12_about_49 (wN hw (by decide)) (wS1 hw (by decide) rfl) ?_
        refine V_iload_n (pc := 52) 1 dX12_about_52 rfl rfl ?_
        refine V_ia (pc := 53) (k := r.toInt.toNat) (v := (I 28 r.toInt.toNat)) rfl dX12_about_53 (wN hw (by decide)) (wS hw (by decide) rfl) (by omega) (by omega) ?_
        refine V_iret (pc := 54) rfl rfl dX12_about_54 (by omega) (by omega) ?_
        refine ⟨rfl, rfl, rfl, rfl, rfl, _, rfl, ?_⟩
        unfold sAbout isRoad
        (repeat' split) <;> first | rfl | (exfalso; omega)
      · refine V_tableIn (pc := 11) (tgt := 55) (off := 44) dX12_about_11 (by omega) (by omega) (by rw [k_11_2]; rfl) (by decide) ?_
        refine V_aload_n (pc := 55) 0 dX12_about_55 rfl rfl ?_
        refine V_getR (pc := 56) (j := 29) fk_X12_13_12 (wR hw (i := 27) (k := 3) (j := 29) rfl) dX12_about_56 (wN hw (by decide)) (wS1 hw (by decide) rfl) ?_
        refine V_iload_n (pc := 59) 1 dX12_about_59 rfl rfl ?_
        refine V_ia (pc := 60) (k := r.toInt.toNat) (v := (I 29 r.toInt.toNat)) rfl dX12_about_60 (wN hw (by decide)) (wS hw (by decide) rfl) (by omega) (by omega) ?_
        refine V_iret (pc := 61) rfl rfl dX12_about_61 (by omega) (by omega) ?_
        refine ⟨rfl, rfl, rfl, rfl, rfl, _, rfl, ?_⟩
        unfold sAbout isRoad
        (repeat' split) <;> first | rfl | (exfalso; omega)
      · refine V_tableIn (pc := 11) (tgt := 62) (off := 51) dX12_about_11 (by omega) (by omega) (by rw [k_11_2]; rfl) (by decide) ?_
        refine V_aload_n (pc := 62) 0 dX12_about_62 rfl rfl ?_
        refine V_getR (pc := 63) (j := 30) fk_X12_16_12 (wR hw (i := 27) (k := 4) (j := 30) rfl) dX12_about_63 (wN hw (by decide)) (wS1 hw (by decide) rfl) ?_
        refine V_iload_n (pc := 66) 1 dX12_about_66 rfl rfl ?_
        refine V_ia (pc := 67) (k := r.toInt.toNat) (v := (I 30 r.toInt.toNat)) rfl dX12_about_67 (wN hw (by decide)) (wS hw (by decide) rfl) (by omega) (by omega) ?_
        refine V_iret (pc := 68) rfl rfl dX12_about_68 (by omega) (by omega) ?_
        refine ⟨rfl, rfl, rfl, rfl, rfl, _, rfl, ?_⟩
        unfold sAbout isRoad
        (repeat' split) <;> first | rfl | (exfalso; omega)
      · refine V_tableIn (pc := 11) (tgt := 69) (off := 58) dX12_about_11 (by omega) (by omega) (by rw [k_11_2]; rfl) (by decide) ?_
        refine V_aload_n (pc := 69) 0 dX12_about_69 rfl rfl ?_
        refine V_getR (pc := 70) (j := 31) fk_X12_19_12 (wR hw (i := 27) (k := 5) (j := 31) rfl) dX12_about_70 (wN hw (by decide)) (wS1 hw (by decide) rfl) ?_
        refine V_iload_n (pc := 73) 1 dX12_about_73 rfl rfl ?_
        refine V_ia (pc := 74) (k := r.toInt.toNat) (v := (I 31 r.toInt.toNat)) rfl dX12_about_74 (wN hw (by decide)) (wS hw (by decide) rfl) (by omega) (by omega) ?_
        refine V_iret (pc := 75) rfl rfl dX12_about_75 (by omega) (by omega) ?_
        refine ⟨rfl, rfl, rfl, rfl, rfl, _, rfl, ?_⟩
        unfold sAbout isRoad
        (repeat' split) <;> first | rfl | (exfalso; omega)
      · refine V_tableIn (pc := 11) (tgt := 76) (off := 65) dX12_about_11 (by omega) (by omega) (by rw [k_11_2]; rfl) (by decide) ?_
        refine V_aload_n (pc := 76) 0 dX12_about_76 rfl rfl ?_
        refine V_getR (pc := 77) (j := 32) fk_X12_22_12 (wR hw (i := 27) (k := 6) (j := 32) rfl) dX12_about_77 (wN hw (by decide)) (wS1 hw (by decide) rfl) ?_
        refine V_iload_n (pc := 80) 1 dX12_about_80 rfl rfl ?_
        refine V_za (pc := 81) (k := r.toInt.toNat) (v := (I 32 r.toInt.toNat)) rfl dX12_about_81 (wN hw (by decide)) (wS hw (by decide) rfl) (by omega) (by omega) ?_
        refine V_if_ne (pc := 82) (tgt := 94) dX12_about_82 (by decide) (fun c_82_3 => ?_) (fun c_82_3 => ?_)
        · have c_82_3 : (I 32 r.toInt.toNat).toInt ≠ 0 := c_82_3
          refine V_iconst (pc := 94) (v := 1) dX12_about_94 rfl ?_
          refine V_goto (pc := 95) (tgt := 99) dX12_about_95 (by decide) ?_
          refine V_iret (pc := 99) rfl rfl dX12_about_99 (by omega) (by omega) ?_
          refine ⟨rfl, rfl, rfl, rfl, rfl, _, rfl, ?_⟩
          unfold sAbout isRoad
          (repeat' split) <;> first | rfl | (exfalso; omega)
        · have c_82_3 : (I 32 r.toInt.toNat).toInt = 0 := c_82_3
          refine V_aload_n (pc := 85) 0 dX12_about_85 rfl rfl ?_
          refine V_getR (pc := 86) (j := 33) fk_X12_26_12 (wR hw (i := 27) (k := 7) (j := 33) rfl) dX12_about_86 (wN hw (by decide)) (wS1 hw (by decide) rfl) ?_
          refine V_iload_n (pc := 89) 1 dX12_about_89 rfl rfl ?_
          refine V_za (pc := 90) (k := r.toInt.toNat) (v := (I 33 r.toInt.toNat)) rfl dX12_about_90 (wN hw (by decide)) (wS hw (by decide) rfl) (by omega) (by omega) ?_
          refine V_if_eq (pc := 91) (tgt := 98) dX12_about_91 (by decide) (fun c_91_4 => ?_) (fun c_91_4 => ?_)
          · have c_91_4 : (I 33 r.toInt.toNat).toInt = 0 := c_91_4
            refine V_iconst (pc := 98) (v := 0) dX12_about_98 rfl ?_
            refine V_iret (pc := 99) rfl rfl dX12_about_99 (by omega) (by omega) ?_
            refine ⟨rfl, rfl, rfl, rfl, rfl, _, rfl, ?_⟩
            unfold sAbout isRoad
            (repeat' split) <;> first | rfl | (exfalso; omega)
          · have c_91_4 : (I 33 r.toInt.toNat).toInt ≠ 0 := c_91_4
            refine V_iconst (pc := 94) (v := 1) dX12_about_94 rfl ?_
            refine V_goto (pc := 95) (tgt := 99) dX12_about_95 (by decide) ?_
            refine V_iret (pc := 99) rfl rfl dX12_about_99 (by omega) (by omega) ?_
            refine ⟨rfl, rfl, rfl, rfl, rfl, _, rfl, ?_⟩
            unfold sAbout isRoad
            (repeat' split) <;> first | rfl | (exfalso; omega)
      · refine V_tableIn (pc := 11) (tgt := 100) (off := 89) dX12_about_11 (by omega) (by omega) (by rw [k_11_2]; rfl) (by decide) ?_
        refine V_iconst (pc := 100) (v := 0) dX12_about_100 rfl ?_
        refine V_istore_n (pc := 101) (lo' := [(0, .ref (ad G 27)), (1, .int r), (2, .int w), (3, .int 0)]) dX12_about_101 rfl (by decide) rfl ?_
        exact l_X12_about G r w hw h24 (by unfold isRoad; omega) (by omega) ((I 27 24).toInt.toNat + 1) 0 0 (by omega) rfl rfl (by omega)
    · refine V_tableOut (pc := 11) (tgt := 131) dX12_about_11 (by omega) (by decide) ?_
      refine V_bipush (pc := 131) (v := (-2)) dX12_about_131 rfl ?_
      refine V_iret (pc := 133) rfl rfl dX12_about_133 (by omega) (by omega) ?_
      refine ⟨rfl, rfl, rfl, rfl, rfl, _, rfl, ?_⟩
      unfold sAbout isRoad
      (repeat' split) <;> first | rfl | (exfalso; omega)
