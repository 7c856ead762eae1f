set_option maxRecDepth 100000 in
set_option maxHeartbeats 4000000 in
theorem c_X11_searchTheMap (G : vG) {n : Nat} {sh : vS} {I : vI} {L : vL} {R : vR} (X : vI) (hw : WF n sh R) (hR : JRd n sh I R X) (hB : JB I X) (hQ : JQ I X) (hV : JV X) (h0 : (X 27 12).toInt ≠ 0) : CT G yX11_searchTheMap cX11_searchTheMap 1 (none) 18 0 0 [.ref (ad G 0)] n sh I L R (PI n sh L (up2 R 4 4 (some 2)) (fun I' o => SrP I X I' ∧ o = none)) := by
  refine CT_of (own := RX11) (ini := false) (lo := [(0, .ref (ad G 0))]) mf_X11_searchTheMap (Nat.le_of_ble_eq_true rfl) rfl (fun h => by first | rfl | cases h) rfl ?_
  have hE := SE_J hR hB hV h0
  have h12 := hE.2.1
  have h38 := (hB.2.2.2 h0).2 0 (by omega)
  obtain ⟨s, hs⟩ : ∃ s : Nat, (X 38 0).toInt = (s : Int) := ⟨_, (Int.toNat_of_nonneg h38.1).symm⟩
  refine V_aload_n (pc := 0) 0 dX11_searchTheMap_0 rfl rfl ?_
  refine V_getR (pc := 1) (j := 4) fk_X11_27_11 (wR hw (i := 0) (k := 3) (j := 4) rfl) dX11_searchTheMap_1 (wN hw (by decide)) (wS1 hw (by decide) rfl) ?_
  refine V_aload_n (pc := 4) 0 dX11_searchTheMap_4 rfl rfl ?_
  refine V_getR (pc := 5) (j := 1) fk_X11_13_11 (wR hw (i := 0) (k := 0) (j := 1) rfl) dX11_searchTheMap_5 (wN hw (by decide)) (wS1 hw (by decide) rfl) ?_
  refine V_aload_n (pc := 8) 0 dX11_searchTheMap_8 rfl rfl ?_
  refine V_gI (pc := 9) (v := (I 0 1)) rfl fk_X11_65_11 dX11_searchTheMap_9 (wN hw (by decide)) (wS1 hw (by decide) rfl) ?_
  refine V_aload_n (pc := 12) 0 dX11_searchTheMap_12 rfl rfl ?_
  refine V_getR (pc := 13) (j := 2) fk_X11_20_11 (wR hw (i := 0) (k := 2) (j := 2) rfl) dX11_searchTheMap_13 (wN hw (by decide)) (wS1 hw (by decide) rfl) ?_
  refine V_callV (pc := 16) (As := [.ref (ad G 1), .int (I 0 1), .ref (ad G 2)]) (st := []) (c_X8_begin G X (I 0 1) hw (by rw [hR.1]) hR) mf_X8_begin ml_X11_303 iv_X8_begin (wN hw (by decide)) (wS1 hw (by decide) rfl) (by decide) rfl dX11_searchTheMap_16 rfl rfl (by omega) (by omega) (by omega) (Nat.le_of_ble_eq_true rfl) (fun r_16_1 n_16_1 sh_16_1 J L_16_1 R_16_1 hq_16_1 => ?_)
  obtain ⟨rfl, rfl, rfl, rfl, hBG, rfl⟩ := hq_16_1
  have hw0 := hw
  have hw := WF_s hw0
  have e2 : J 2 1 = X 27 12 := by rw [hBG.2 2 1 (by omega) (by omega) (by omega) (by omega)]; exact hB.1
  have e3 : ∀ k, J 3 k = X 38 k := fun k => by rw [hBG.2 3 k (by omega) (by omega) (by omega) (by omega)]; exact hB.2.1 k
  have e4 : ∀ k, J 4 k = (up2 (up2 (up2 (up2 I 4 6 0) 4 7 0) 4 8 0) 4 12 0) 4 k := fun k => hBG.2 4 k (by omega) (by omega) (by omega) (by omega)
  have hs3 : (J 3 0).toInt = (s : Int) := by rw [e3]; exact hs
  refine V_aload_n (pc := 19) 0 dX11_searchTheMap_19 rfl rfl ?_
  refine V_getR (pc := 20) (j := 4) fk_X11_27_11 (wR hw (i := 0) (k := 3) (j := 4) rfl) dX11_searchTheMap_20 (wN hw (by decide)) (wS1 hw (by decide) rfl) ?_
  refine V_aload_n (pc := 23) 0 dX11_searchTheMap_23 rfl rfl ?_
  refine V_getR (pc := 24) (j := 2) fk_X11_20_11 (wR hw (i := 0) (k := 2) (j := 2) rfl) dX11_searchTheMap_24 (wN hw (by decide)) (wS1 hw (by decide) rfl) ?_
  refine V_getR (pc := 27) (j := 3) fk_X11_306_0 (wR hw (i := 2) (k := 0) (j := 3) rfl) dX11_searchTheMap_27 (wN hw (by decide)) (wS1 hw (by decide) rfl) ?_
  refine V_iconst (pc := 30) (v := 0) dX11_searchTheMap_30 rfl ?_
  refine V_ia (pc := 31) (k := 0) (v := (J 3 0)) rfl dX11_searchTheMap_31 (wN hw (by decide)) (wS hw (by decide) rfl) rfl (by omega) ?_
  refine V_iconst (pc := 32) (v := 0) dX11_searchTheMap_32 rfl ?_
  refine V_iconst (pc := 33) (v := 0) dX11_searchTheMap_33 rfl ?_
  refine V_iconst (pc := 34) (v := 1) dX11_searchTheMap_34 rfl ?_
  refine V_callS (pc := 35) (As := [.ref (ad G 4), .int (J 3 0), .int 0, .int 0, .int 1]) (st := []) (c_X11_goOn G X hw (by simp [up2]) hE 10 J 0 s (fun _ => 0) 1 0 (0, -1, (X 27 16).toInt, 0, X 39) (J 3 0) 0 0 1 ⟨⟨hBG.1, e2, e3⟩, ⟨by rw [e4]; exact MB_0, fun k hk => absurd hk (Nat.not_lt_zero k), ⟨by rw [e4]; rfl, by rw [e4]; show (I 4 10).toInt = _; rw [hQ.2.1], fun k => by rw [hBG.2 10 k (by omega) (by omega) (by omega) (by omega)]; exact hQ.2.2 k, Or.inl ⟨by show (-1 : Int) < 0; omega, by rw [e4]; rfl⟩⟩, SB_0 _ _⟩, by rw [e4]; rfl, ⟨hs3, by omega⟩, rfl, rfl, rfl, ⟨by omega, by omega⟩, ⟨by omega, by omega⟩⟩ rfl) mf_X11_goOn ml_X11_309 st_X11_goOn dX11_searchTheMap_35 rfl rfl (by omega) (by omega) (by omega) (Nat.le_of_ble_eq_true rfl) (fun r_35_2 n_35_2 sh_35_2 J2 L_35_2 R_35_2 hq_35_2 => ?_)
  obtain ⟨rfl, rfl, rfl, rfl, ⟨hgf, hGS, hfl⟩, rfl⟩ := hq_35_2
  refine V_vret (pc := 38) rfl dX11_searchTheMap_38 (by omega) (by omega) ?_
  have esr : srF X = goR X 10 0 (fun _ => 0) (s : Int) 1 0 (0, -1, (X 27 16).toInt, 0, X 39) := by rw [← hs]; rfl
  rw [← esr] at hGS hfl
  refine ⟨rfl, rfl, rfl, rfl, ⟨fun a b hab => ?_, hGS.2.2.1, hGS.2.2.2, hfl⟩, rfl⟩
  have h1 : J2 a b = J a b := hgf a b (by
    have a9 : (a == 9) = false := beq_eq_false_iff_ne.mpr (by omega)
    have a10 : (a == 10) = false := beq_eq_false_iff_ne.mpr (by omega)
    have a4 : (a == 4) = false := beq_eq_false_iff_ne.mpr (by omega)
    unfold sck; rw [a9, a10, a4]; rfl)
  rw [h1, hBG.2 a b (by omega) (by omega) (by omega) (by omega), up2_o (by omega), up2_o (by omega), up2_o (by omega), up2_o (by omega)]
section VG2
variable {G : vG} {own : String} {cc : ByteArray} {ret : Option FieldType} {ini : Bool} {d MC MS nL : Nat} {post : PT} {pc : Nat} {lo : List (Nat × Value)} {st st0 : List Value} {ce sl n : Nat} {sh : vS} {I : vI} {L : vL} {R : vR} {idx : Nat}
theorem V_fgt {j : Nat} (hw : WF n sh R) (hj : j < n) (hcj : (sh j).1 = 1 ∨ (sh j).1 = 5 ∨ (sh j).1 = 4) (hr : R j 2 = some (j + 1) ∧ R j 3 = some (j + 2) ∧ R j 5 = some (j + 3)) (hl : j + 1 < n ∧ j + 2 < n ∧ j + 3 < n) (hs : sh (j + 1) = (13, 8) ∧ sh (j + 2) = (13, 8) ∧ sh (j + 3) = (13, 8)) (o1 : OV own idx RX1 yX1_forgetTheWay yX1_forgetTheWay 0) (o5 : OV own idx RX5 yX1_forgetTheWay yX1_forgetTheWay 0) (o4 : OV own idx RX4 yX1_forgetTheWay yX1_forgetTheWay 0) (hd : decode cc pc = .ok (.invokevirtual idx, 3)) (hdd : 1 ≤ d) (hce : ce ≤ MC) (hsl : sl ≤ MS) (hW : (st.map fun v => v.category).sum ≤ 8)
    (kk : V G own cc ret ini d MC MS nL post (pc + 3) lo st ce sl n sh (fgF I j 8) L R) : V G own cc ret ini d MC MS nL post pc lo (.ref (ad G j) :: st) ce sl n sh I L R := by
  have key : ∀ (r1 : Option Value) (n1 : Nat) (sh1 : vS) (I1 : vI) (L1 : vL) (R1 : vR), (PI n sh L R (fun I' r => fgF I j 8 = I' ∧ r = none)) r1 n1 sh1 I1 L1 R1 → V G own cc ret ini d MC MS nL post (pc + 3) lo (r1.toList ++ st) (ce + 0) (sl + 0) n1 sh1 I1 L1 R1 := fun r1 n1 sh1 I1 L1 R1 hq => by
    obtain ⟨rfl, rfl, rfl, rfl, rfl, rfl⟩ := hq
    exact kk
  rcases hcj with h | h | h
  · exact V_callO (As := []) (st := st) (c_X1_forgetTheWay G j hw hj (Or.inl h) hr hl hs) mf_X1_forgetTheWay o1 hj h (by decide) rfl hd rfl rfl (by omega) (by omega) (by omega) hW key
  · exact V_callO (As := []) (st := st) (c_X1_forgetTheWay G j hw hj (Or.inr (Or.inl h)) hr hl hs) mf_X1_forgetTheWay o5 hj h (by decide) rfl hd rfl rfl (by omega) (by omega) (by omega) hW key
  · exact V_callO (As := []) (st := st) (c_X1_forgetTheWay G j hw hj (Or.inr (Or.inr h)) hr hl hs) mf_X1_forgetTheWay o4 hj h (by decide) rfl hd rfl rfl (by omega) (by omega) (by omega) hW key
end VG2
theorem fgA_o {I : vI} {R : vR} {a : Nat} (ha : a < 56) : ∀ m : Nat, (∀ k, k < m → 56 ≤ oj R 17 k) → fgA I R m a = I a
  | 0, _ => rfl
  | m + 1, h => by
    have h1 := h m (by omega)
    show fgF (fgA I R m) (oj R 17 m) 8 a = _
    rw [fg_o (by omega) (by omega) (by omega)]
    exact fgA_o ha m (fun k hk => h k (by omega))
set_option maxRecDepth 100000 in
set_option maxHeartbeats 4000000 in
theorem l_X11_layTheBest_c (G : vG) {n : Nat} {sh : vS} {I : vI} {L : vL} {R : vR} {post : PT} (X : vI) (hw : WF n sh R) (h8 : I 0 8 = X 27 35) (hcc : 0 ≤ (X 27 35).toInt ∧ (X 27 35).toInt ≤ 8) (hKC : ∀ a : Nat, (a : Int) < (X 27 35).toInt → (oj R 17 a < n ∧ ((sh (oj R 17 a)).1 = 1 ∨ (sh (oj R 17 a)).1 = 5 ∨ (sh (oj R 17 a)).1 = 4) ∧ (R (oj R 17 a) 2 = some (oj R 17 a + 1) ∧ R (oj R 17 a) 3 = some (oj R 17 a + 2) ∧ R (oj R 17 a) 5 = some (oj R 17 a + 3)) ∧ (oj R 17 a + 1 < n ∧ oj R 17 a + 2 < n ∧ oj R 17 a + 3 < n) ∧ (sh (oj R 17 a + 1) = (13, 8) ∧ sh (oj R 17 a + 2) = (13, 8) ∧ sh (oj R 17 a + 3) = (13, 8)))) (h56 : ∀ a : Nat, (a : Int) < (X 27 35).toInt → 56 ≤ oj R 17 a) (hoj : ∀ a : Nat, (a : Int) < (X 27 35).toInt → R 17 a = some (oj R 17 a)) (K : post none n sh (fgA I R (X 27 35).toInt.toNat) L R) : ∀ (f m : Nat) (k : Int32) (J : vI) (hm : (m : Int) ≤ (X 27 35).toInt) (hk : k.toInt = (m : Int)) (hJ : J = fgA I R m) (hf : (X 27 35).toInt < (m : Int) + f), V G RX11 cX11_layTheBest (none) false 2 0 0 3 post 71 [(0, .ref (ad G 0)), (1, .int k)] [] 0 0 n sh J L R := by
  intro f
  induction f with
  | zero => intro m k J hm hk hJ hf; omega
  | succ f ih =>
    intro m k J hm hk hJ hf
    have e8 : (J 0 8).toInt = (X 27 35).toInt := by rw [hJ, fgA_o (by omega) m (fun k hk => h56 k (by omega)), h8]
    refine V_iload_n (pc := 71) 1 dX11_layTheBest_71 rfl rfl ?_
    refine V_aload_n (pc := 72) 0 dX11_layTheBest_72 rfl rfl ?_
    refine V_gI (pc := 73) (v := (J 0 8)) rfl fk_X11_214_11 dX11_layTheBest_73 (wN hw (by decide)) (wS1 hw (by decide) rfl) ?_
    refine V_icmp_ge (pc := 76) (tgt := 94) dX11_layTheBest_76 (by decide) (fun c_76_1 => ?_) (fun c_76_1 => ?_)
    · have c_76_1 : (J 0 8).toInt ≤ k.toInt := c_76_1
      refine V_vret (pc := 94) rfl dX11_layTheBest_94 (by omega) (by omega) ?_
      have e1 : (X 27 35).toInt.toNat = m := by omega
      rw [hJ, ← e1]
      exact K
    · have c_76_1 : k.toInt < (J 0 8).toInt := c_76_1
      refine V_aload_n (pc := 79) 0 dX11_layTheBest_79 rfl rfl ?_
      refine V_getR (pc := 80) (j := 17) fk_X11_46_11 (wR hw (i := 0) (k := 7) (j := 17) rfl) dX11_layTheBest_80 (wN hw (by decide)) (wS1 hw (by decide) rfl) ?_
      refine V_iload_n (pc := 83) 1 dX11_layTheBest_83 rfl rfl ?_
      refine V_aalk (pc := 84) (t := 4) (N := 8) (k := m) (j := (oj R 17 m)) dX11_layTheBest_84 (wN hw (by decide)) (wS hw (by decide) rfl) (by decide) (by decide) hk (by omega) (hoj m (by omega)) ?_
      obtain ⟨k1, k2, k3, k4, k5⟩ := hKC m (by omega)
      refine V_fgt (pc := 85) (st := []) hw k1 k2 k3 k4 k5 ov_X11_359_1 ov_X11_359_5 ov_X11_359_4 dX11_layTheBest_85 (by omega) (by omega) (by omega) (Nat.le_of_ble_eq_true rfl) ?_
      obtain ⟨x_88_3, e_88_3⟩ : ∃ y : Int32, y = k + (1) := ⟨_, rfl⟩
      have t_88_3 : x_88_3.toInt = k.toInt + 1 := addT e_88_3 rfl rfl (by omega) (by omega)
      refine V_iinc (pc := 88) (v := x_88_3) (lo' := [(0, .ref (ad G 0)), (1, .int x_88_3)]) 1 dX11_layTheBest_88 rfl e_88_3.symm (by decide) rfl ?_
      refine V_goto (pc := 91) (tgt := 71) dX11_layTheBest_91 (by decide) ?_
      exact ih (m + 1) x_88_3 _ (by omega) (by omega) (by rw [hJ]; rfl) (by omega)
set_option maxRecDepth 100000 in
set_option maxHeartbeats 4000000 in
theorem l_X11_layTheBest_r (G : vG) {n : Nat} {sh : vS} {I : vI} {L : vL} {R : vR} (X : vI) (hw : WF n sh R) (hR : JRd n sh I R X) (hK : JK n sh I R X) (b : Nat) (hb : (I 4 10).toInt = (b : Int)) (hb10 : b ≤ 10) (hbe : ∀ k, k < b → 0 ≤ (I 10 k).toInt ∧ (I 10 k).toInt < (X 27 1).toInt) (hlen : ∀ k, k < b → 0 ≤ (X 30 (I 10 k).toInt.toNat).toInt ∧ (X 30 (I 10 k).toInt.toNat).toInt ≤ 20000) : ∀ (f m : Nat) (k : Int32) (J : vI) (hm : (m : Int) ≤ (b : Int)) (hk : k.toInt = (m : Int)) (hLy : Ly1 I J X m) (hf : (b : Int) < (m : Int) + f), V G RX11 cX11_layTheBest (none) false 2 0 0 3 (PI n sh L R (fun I' o => (∃ J, Ly1 I J X b ∧ fgA (up2 J 0 6 0) R (X 27 35).toInt.toNat = I') ∧ o = none)) 9 [(0, .ref (ad G 0)), (1, .int k)] [] 0 0 n sh J L R := by
  intro f
  induction f with
  | zero => intro m k J hm hk hLy hf; omega
  | succ f ih =>
    intro m k J hm hk hLy hf
    have eJ4 : (J 4 10).toInt = (b : Int) := by rw [hLy.2.2.2.2.2 4 (by omega) (by omega) (by omega)]; exact hb
    have eJ10 : J 10 m = I 10 m := by rw [hLy.2.2.2.2.2 10 (by omega) (by omega) (by omega)]
    have hRJ : JRd n sh J R X := JRd_fr hR (by rw [hLy.2.2.2.2.2 0 (by omega) (by omega) (by omega)]) (fun a ha => hLy.2.2.2.2.2 a (by omega) (by omega) (by omega)) rfl
    have hLy1 := hLy.1
    refine V_iload_n (pc := 9) 1 dX11_layTheBest_9 rfl rfl ?_
    refine V_aload_n (pc := 10) 0 dX11_layTheBest_10 rfl rfl ?_
    refine V_getR (pc := 11) (j := 4) fk_X11_27_11 (wR hw (i := 0) (k := 3) (j := 4) rfl) dX11_layTheBest_11 (wN hw (by decide)) (wS1 hw (by decide) rfl) ?_
    refine V_gI (pc := 14) (v := (J 4 10)) rfl fk_X11_350_8 dX11_layTheBest_14 (wN hw (by decide)) (wS1 hw (by decide) rfl) ?_
    refine V_icmp_ge (pc := 17) (tgt := 64) dX11_layTheBest_17 (by decide) (fun c_17_1 => ?_) (fun c_17_1 => ?_)
    · have c_17_1 : (J 4 10).toInt ≤ k.toInt := c_17_1
      refine V_aload_n (pc := 64) 0 dX11_layTheBest_64 rfl rfl ?_
      refine V_iconst (pc := 65) (v := 0) dX11_layTheBest_65 rfl ?_
      refine V_putI (pc := 66) fw_X11_186_11 rfl rfl dX11_layTheBest_66 (wN hw (by decide)) (wS1 hw (by decide) rfl) ?_
      refine V_iconst (pc := 69) (v := 0) dX11_layTheBest_69 rfl ?_
      refine V_istore_n (pc := 70) (lo' := [(0, .ref (ad G 0)), (1, .int 0)]) dX11_layTheBest_70 rfl (by decide) rfl ?_
      refine V_lo (pc := 71) (lo' := [(0, .ref (ad G 0)), (1, .int 0)]) [0, 1] rfl ?_
      exact l_X11_layTheBest_c G (I := up2 J 0 6 0) (post := (PI n sh L R (fun I' o => (∃ J, Ly1 I J X b ∧ fgA (up2 J 0 6 0) R (X 27 35).toInt.toNat = I') ∧ o = none))) X hw (by show J 0 8 = _; rw [hLy.2.2.2.2.2 0 (by omega) (by omega) (by omega)]; exact hK.1) hK.2.1 (fun a ha => by have z := hK.2.2.1 a ha; exact ⟨(kdS z).1.1, (kdS z).1.2, (kdS z).2.1, (kdS z).2.2.1, (kdS z).2.2.2⟩) (fun a ha => (hK.2.2.1 a ha).2.1) (fun a ha => (hK.2.2.1 a ha).1) ⟨rfl, rfl, rfl, rfl, ⟨J, by rw [show b = m by omega]; exact hLy, rfl⟩, rfl⟩ ((X 27 35).toInt.toNat + 1) 0 0 _ (by have := hK.2.1; omega) rfl rfl (by omega)
    · have c_17_1 : k.toInt < (J 4 10).toInt := c_17_1
      refine V_aload_n (pc := 20) 0 dX11_layTheBest_20 rfl rfl ?_
      refine V_aload_n (pc := 21) 0 dX11_layTheBest_21 rfl rfl ?_
      refine V_getR (pc := 22) (j := 4) fk_X11_27_11 (wR hw (i := 0) (k := 3) (j := 4) rfl) dX11_layTheBest_22 (wN hw (by decide)) (wS1 hw (by decide) rfl) ?_
      refine V_getR (pc := 25) (j := 10) fk_X11_353_8 (wR hw (i := 4) (k := 9) (j := 10) rfl) dX11_layTheBest_25 (wN hw (by decide)) (wS1 hw (by decide) rfl) ?_
      refine V_iload_n (pc := 28) 1 dX11_layTheBest_28 rfl rfl ?_
      refine V_ia (pc := 29) (k := m) (v := (J 10 m)) rfl dX11_layTheBest_29 (wN hw (by decide)) (wS hw (by decide) rfl) hk (by omega) ?_
      refine V_callV (pc := 30) (As := [.int (J 10 m)]) (st := []) (c_X11_roadOf G X (J 10 m) hw hRJ) mf_X11_roadOf ml_X11_73 iv_X11_roadOf (wN hw (by decide)) (wS1 hw (by decide) rfl) (by decide) rfl dX11_layTheBest_30 rfl rfl (by omega) (by omega) (by omega) (Nat.le_of_ble_eq_true rfl) (fun r_30_2 n_30_2 sh_30_2 I_30_2 L_30_2 R_30_2 hq_30_2 => ?_)
      obtain ⟨rfl, rfl, rfl, rfl, rfl, hq_30_2⟩ := hq_30_2
      have hbm := hbe m (by omega)
      rw [← eJ10] at hbm
      rcases hq_30_2 with ⟨c_30_2, rfl⟩ | ⟨-, rfl⟩
      · exact absurd hbm c_30_2
      have hRDm := hRJ.2.2.1 (J 10 m).toInt.toNat (by omega)
      refine V_astore_n (pc := 33) (lo' := [(0, .ref (ad G 0)), (1, .int k), (2, .ref (ad G (oj R 1 (J 10 m).toInt.toNat)))]) dX11_layTheBest_33 rfl (by decide) rfl ?_
      refine V_aload_n (pc := 34) 2 dX11_layTheBest_34 rfl rfl ?_
      refine V_ifnull_r (pc := 35) dX11_layTheBest_35 ?_
      refine V_aload_n (pc := 38) 0 dX11_layTheBest_38 rfl rfl ?_
      refine V_getR (pc := 39) (j := 11) fk_X11_34_11 (wR hw (i := 0) (k := 4) (j := 11) rfl) dX11_layTheBest_39 (wN hw (by decide)) (wS1 hw (by decide) rfl) ?_
      refine V_aload_n (pc := 42) 0 dX11_layTheBest_42 rfl rfl ?_
      refine V_getR (pc := 43) (j := 4) fk_X11_27_11 (wR hw (i := 0) (k := 3) (j := 4) rfl) dX11_layTheBest_43 (wN hw (by decide)) (wS1 hw (by decide) rfl) ?_
      refine V_getR (pc := 46) (j := 10) fk_X11_353_8 (wR hw (i := 4) (k := 9) (j := 10) rfl) dX11_layTheBest_46 (wN hw (by decide)) (wS1 hw (by decide) rfl) ?_
      refine V_iload_n (pc := 49) 1 dX11_layTheBest_49 rfl rfl ?_
      refine V_ia (pc := 50) (k := m) (v := (J 10 m)) rfl dX11_layTheBest_50 (wN hw (by decide)) (wS hw (by decide) rfl) hk (by omega) ?_
      refine V_aload_n (pc := 51) 2 dX11_layTheBest_51 rfl rfl ?_
      refine V_gI (pc := 52) (v := (J (oj R 1 (J 10 m).toInt.toNat) 2)) rfl (fk_X11_99_s (rdcl hRDm)) dX11_layTheBest_52 hRDm.2.2.1 rfl ?_
      refine V_callV (pc := 55) (As := [.int (J 10 m), .int (J (oj R 1 (J 10 m).toInt.toNat) 2)]) (st := []) (c_X10_addRoad G (J 10 m) (J (oj R 1 (J 10 m).toInt.toNat) 2) hw (by omega)) mf_X10_addRoad ml_X11_356 iv_X10_addRoad (wN hw (by decide)) (wS1 hw (by decide) rfl) (by decide) rfl dX11_layTheBest_55 rfl rfl (by omega) (by omega) (by omega) (Nat.le_of_ble_eq_true rfl) (fun r_55_3 n_55_3 sh_55_3 I_55_3 L_55_3 R_55_3 hq_55_3 => ?_)
      obtain ⟨rfl, rfl, rfl, rfl, rfl, rfl⟩ := hq_55_3
      have hl30 := RD_16 hRDm
      have hLs := Ly1_s (r := (J 10 m)) (l := (J (oj R 1 (J 10 m).toInt.toNat) 2)) hLy eJ10 (by rw [hl30.1, eJ10]) (by omega) (by rw [hl30.1]; omega) (psB_b b (fun k hk => hlen k hk) m (by omega))
      obtain ⟨x_58_4, e_58_4⟩ : ∃ y : Int32, y = k + (1) := ⟨_, rfl⟩
      have t_58_4 : x_58_4.toInt = k.toInt + 1 := addT e_58_4 rfl rfl (by omega) (by omega)
      refine V_iinc (pc := 58) (v := x_58_4) (lo' := [(0, .ref (ad G 0)), (1, .int x_58_4), (2, .ref (ad G (oj R 1 (J 10 m).toInt.toNat)))]) 1 dX11_layTheBest_58 rfl e_58_4.symm (by decide) rfl ?_
      refine V_goto (pc := 61) (tgt := 9) dX11_layTheBest_61 (by decide) ?_
      refine V_lo (pc := 9) (lo' := [(0, .ref (ad G 0)), (1, .int x_58_4)]) [0, 1] rfl ?_
      exact ih (m + 1) x_58_4 _ (by omega) (by omega) hLs (by omega)
set_option maxRecDepth 100000 in
set_option maxHeartbeats 4000000 in
theorem c_X11_layTheBest (G : vG) {n : Nat} {sh : vS} {I : vI} {L : vL} {R : vR} (X : vI) (hw : WF n sh R) (hR : JRd n sh I R X) (hK : JK n sh I R X) (b : Nat) (hb : (I 4 10).toInt = (b : Int)) (hb10 : b ≤ 10) (hbe : ∀ k, k < b → 0 ≤ (I 10 k).toInt ∧ (I 10 k).toInt < (X 27 1).toInt) : CT G yX11_layTheBest cX11_layTheBest 3 (none) 2 0 0 [.ref (ad G 0)] n sh I L R (PI n sh L R (fun I' o => (∃ J, Ly1 I J X b ∧ fgA (up2 J 0 6 0) R (X 27 35).toInt.toNat = I') ∧ o = none)) := by
  refine CT_of (own := RX11) (ini := false) (lo := [(0, .ref (ad G 0))]) mf_X11_layTheBest (Nat.le_of_ble_eq_true rfl) rfl (fun h => by first | rfl | cases h) rfl ?_
  refine V_aload_n (pc := 0) 0 dX11_layTheBest_0 rfl rfl ?_
  refine V_getR (pc := 1) (j := 11) fk_X11_34_11 (wR hw (i := 0) (k := 4) (j := 11) rfl) dX11_layTheBest_1 (wN hw (by decide)) (wS1 hw (by decide) rfl) ?_
  refine V_callV (pc := 4) (As := []) (st := []) (c_X10_begin G hw) mf_X10_begin ml_X11_348 iv_X10_begin (wN hw (by decide)) (wS1 hw (by decide) rfl) (by decide) rfl dX11_layTheBest_4 rfl rfl (by omega) (by omega) (by omega) (Nat.le_of_ble_eq_true rfl) (fun r_4_1 n_4_1 sh_4_1 I_4_1 L_4_1 R_4_1 hq_4_1 => ?_)
  obtain ⟨rfl, rfl, rfl, rfl, rfl, rfl⟩ := hq_4_1
  refine V_iconst (pc := 7) (v := 0) dX11_layTheBest_7 rfl ?_
  refine V_istore_n (pc := 8) (lo' := [(0, .ref (ad G 0)), (1, .int 0)]) dX11_layTheBest_8 rfl (by decide) rfl ?_
  exact l_X11_layTheBest_r G X hw hR hK b hb hb10 hbe (fun k hk => by have z := RD_16 (hR.2.2.1 (I 10 k).toInt.toNat (by have := hbe k hk; omega)); omega) (b + 1) 0 0 _ (by omega) rfl Ly1_0 (by omega)
