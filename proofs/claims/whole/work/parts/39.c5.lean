set_option maxRecDepth 100000 in
set_option maxHeartbeats 4000000 in
theorem c_X11_roadOf (G : vG) {n : Nat} {sh : vS} {I : vI} {L : vL} {R : vR} (X : vI) (r : Int32) (hw : WF n sh R) (hJ : JRd n sh I R X) : CT G yX11_roadOf cX11_roadOf 2 (some (.object "RegularRally$Road")) 1 0 0 [.ref (ad G 0), .int r] n sh I L R (PI n sh L R (fun I' o => I = I' ∧ ((¬ (0 ≤ r.toInt ∧ r.toInt < (X 27 1).toInt) ∧ o = some .null) ∨ ((0 ≤ r.toInt ∧ r.toInt < (X 27 1).toInt) ∧ o = some (.ref (ad G (oj R 1 r.toInt.toNat))))))) := by
  refine CT_of (own := RX11) (ini := false) (lo := [(0, .ref (ad G 0)), (1, .int r)]) mf_X11_roadOf (Nat.le_of_ble_eq_true rfl) rfl (fun h => by first | rfl | cases h) rfl ?_
  have hc1 : (I 0 1).toInt = (X 27 1).toInt := by rw [hJ.1]
  have hc2 := hJ.2.1
  refine V_iload_n (pc := 0) 1 dX11_roadOf_0 rfl rfl ?_
  refine V_iconst (pc := 1) (v := 0) dX11_roadOf_1 rfl ?_
  refine V_aload_n (pc := 2) 0 dX11_roadOf_2 rfl rfl ?_
  refine V_gI (pc := 3) (v := (I 0 1)) rfl fk_X11_65_11 dX11_roadOf_3 (wN hw (by decide)) (wS1 hw (by decide) rfl) ?_
  refine V_iconst (pc := 6) (v := 1) dX11_roadOf_6 rfl ?_
  refine V_isub (pc := 7) dX11_roadOf_7 (fun x_7_1 e_7_1 => ?_)
  have t_7_1 : x_7_1.toInt = (I 0 1).toInt - 1 := subT e_7_1 rfl rfl (by omega) (by omega)
  refine V_callS (pc := 8) (As := [.int r, .int 0, .int x_7_1]) (st := []) (c_X11_isWithin G r 0 x_7_1) mf_X11_isWithin ml_X11_61 st_X11_isWithin dX11_roadOf_8 rfl rfl (by omega) (by omega) (by omega) (Nat.le_of_ble_eq_true rfl) (fun r_8_2 n_8_2 sh_8_2 I_8_2 L_8_2 R_8_2 hq_8_2 => ?_)
  obtain ⟨rfl, rfl, rfl, rfl, rfl, hq_8_2⟩ := hq_8_2
  rcases hq_8_2 with ⟨c_8_2, rfl⟩ | ⟨c_8_2, rfl⟩
  · have c_8_2 : 0 ≤ r.toInt ∧ r.toInt ≤ x_7_1.toInt := c_8_2
    refine V_if_eq_f (pc := 11) (tgt := 23) dX11_roadOf_11 (by decide) (by decide) ?_
    refine V_aload_n (pc := 14) 0 dX11_roadOf_14 rfl rfl ?_
    refine V_getR (pc := 15) (j := 1) fk_X11_13_11 (wR hw (i := 0) (k := 0) (j := 1) rfl) dX11_roadOf_15 (wN hw (by decide)) (wS1 hw (by decide) rfl) ?_
    refine V_iload_n (pc := 18) 1 dX11_roadOf_18 rfl rfl ?_
    refine V_aalk (pc := 19) (t := 2) (N := 16) (k := r.toInt.toNat) (j := (oj R 1 r.toInt.toNat)) dX11_roadOf_19 (wN hw (by decide)) (wS hw (by decide) rfl) (by decide) (by decide) (by omega) (by omega) (hJ.2.2.1 r.toInt.toNat (by omega)).1 ?_
    refine V_goto (pc := 20) (tgt := 24) dX11_roadOf_20 (by decide) ?_
    refine V_aret (pc := 24) rfl (Or.inr ⟨_, rfl⟩) dX11_roadOf_24 (by omega) (by omega) ?_
    refine ⟨rfl, rfl, rfl, rfl, rfl, ?_⟩
    exact Or.inr ⟨by omega, rfl⟩
  · have c_8_2 : ¬ (0 ≤ r.toInt ∧ r.toInt ≤ x_7_1.toInt) := c_8_2
    refine V_if_eq_t (pc := 11) (tgt := 23) dX11_roadOf_11 (by decide) (by decide) ?_
    refine V_null (pc := 23) dX11_roadOf_23 ?_
    refine V_aret (pc := 24) rfl (Or.inl rfl) dX11_roadOf_24 (by omega) (by omega) ?_
    refine ⟨rfl, rfl, rfl, rfl, rfl, ?_⟩
    exact Or.inl ⟨by omega, rfl⟩
set_option maxRecDepth 100000 in
set_option maxHeartbeats 4000000 in
theorem c_X11_controlOf (G : vG) {n : Nat} {sh : vS} {I : vI} {L : vL} {R : vR} (X : vI) (r : Int32) (hw : WF n sh R) (hJ : JC n sh I L R X) : CT G yX11_controlOf cX11_controlOf 2 (some (.object "RegularRally$Control")) 1 0 0 [.ref (ad G 0), .int r] n sh I L R (PI n sh L R (fun I' o => I = I' ∧ ((¬ (0 ≤ r.toInt ∧ r.toInt < (X 27 30).toInt) ∧ o = some .null) ∨ ((0 ≤ r.toInt ∧ r.toInt < (X 27 30).toInt) ∧ o = some (.ref (ad G (oj R 16 r.toInt.toNat))))))) := by
  refine CT_of (own := RX11) (ini := false) (lo := [(0, .ref (ad G 0)), (1, .int r)]) mf_X11_controlOf (Nat.le_of_ble_eq_true rfl) rfl (fun h => by first | rfl | cases h) rfl ?_
  have hc1 : (I 0 6).toInt = (X 27 30).toInt := by rw [hJ.1]
  have hc2 := hJ.2.1
  refine V_iload_n (pc := 0) 1 dX11_controlOf_0 rfl rfl ?_
  refine V_iconst (pc := 1) (v := 0) dX11_controlOf_1 rfl ?_
  refine V_aload_n (pc := 2) 0 dX11_controlOf_2 rfl rfl ?_
  refine V_gI (pc := 3) (v := (I 0 6)) rfl fk_X11_186_11 dX11_controlOf_3 (wN hw (by decide)) (wS1 hw (by decide) rfl) ?_
  refine V_iconst (pc := 6) (v := 1) dX11_controlOf_6 rfl ?_
  refine V_isub (pc := 7) dX11_controlOf_7 (fun x_7_1 e_7_1 => ?_)
  have t_7_1 : x_7_1.toInt = (I 0 6).toInt - 1 := subT e_7_1 rfl rfl (by omega) (by omega)
  refine V_callS (pc := 8) (As := [.int r, .int 0, .int x_7_1]) (st := []) (c_X11_isWithin G r 0 x_7_1) mf_X11_isWithin ml_X11_61 st_X11_isWithin dX11_controlOf_8 rfl rfl (by omega) (by omega) (by omega) (Nat.le_of_ble_eq_true rfl) (fun r_8_2 n_8_2 sh_8_2 I_8_2 L_8_2 R_8_2 hq_8_2 => ?_)
  obtain ⟨rfl, rfl, rfl, rfl, rfl, hq_8_2⟩ := hq_8_2
  rcases hq_8_2 with ⟨c_8_2, rfl⟩ | ⟨c_8_2, rfl⟩
  · have c_8_2 : 0 ≤ r.toInt ∧ r.toInt ≤ x_7_1.toInt := c_8_2
    refine V_if_eq_f (pc := 11) (tgt := 23) dX11_controlOf_11 (by decide) (by decide) ?_
    refine V_aload_n (pc := 14) 0 dX11_controlOf_14 rfl rfl ?_
    refine V_getR (pc := 15) (j := 16) fk_X11_40_11 (wR hw (i := 0) (k := 5) (j := 16) rfl) dX11_controlOf_15 (wN hw (by decide)) (wS1 hw (by decide) rfl) ?_
    refine V_iload_n (pc := 18) 1 dX11_controlOf_18 rfl rfl ?_
    refine V_aalk (pc := 19) (t := 3) (N := 8) (k := r.toInt.toNat) (j := (oj R 16 r.toInt.toNat)) dX11_controlOf_19 (wN hw (by decide)) (wS hw (by decide) rfl) (by decide) (by decide) (by omega) (by omega) (hJ.2.2.1 r.toInt.toNat (by omega)).1 ?_
    refine V_goto (pc := 20) (tgt := 24) dX11_controlOf_20 (by decide) ?_
    refine V_aret (pc := 24) rfl (Or.inr ⟨_, rfl⟩) dX11_controlOf_24 (by omega) (by omega) ?_
    refine ⟨rfl, rfl, rfl, rfl, rfl, ?_⟩
    exact Or.inr ⟨by omega, rfl⟩
  · have c_8_2 : ¬ (0 ≤ r.toInt ∧ r.toInt ≤ x_7_1.toInt) := c_8_2
    refine V_if_eq_t (pc := 11) (tgt := 23) dX11_controlOf_11 (by decide) (by decide) ?_
    refine V_null (pc := 23) dX11_controlOf_23 ?_
    refine V_aret (pc := 24) rfl (Or.inl rfl) dX11_controlOf_24 (by omega) (by omega) ?_
    refine ⟨rfl, rfl, rfl, rfl, rfl, ?_⟩
    exact Or.inl ⟨by omega, rfl⟩
set_option maxRecDepth 100000 in
set_option maxHeartbeats 4000000 in
theorem c_X11_carOf (G : vG) {n : Nat} {sh : vS} {I : vI} {L : vL} {R : vR} (X : vI) (r : Int32) (hw : WF n sh R) (hJ : JK n sh I R X) : CT G yX11_carOf cX11_carOf 2 (some (.object "RegularRally$Car")) 1 0 0 [.ref (ad G 0), .int r] n sh I L R (PI n sh L R (fun I' o => I = I' ∧ ((¬ (0 ≤ r.toInt ∧ r.toInt < (X 27 35).toInt) ∧ o = some .null) ∨ ((0 ≤ r.toInt ∧ r.toInt < (X 27 35).toInt) ∧ o = some (.ref (ad G (oj R 17 r.toInt.toNat))))))) := by
  refine CT_of (own := RX11) (ini := false) (lo := [(0, .ref (ad G 0)), (1, .int r)]) mf_X11_carOf (Nat.le_of_ble_eq_true rfl) rfl (fun h => by first | rfl | cases h) rfl ?_
  have hc1 : (I 0 8).toInt = (X 27 35).toInt := by rw [hJ.1]
  have hc2 := hJ.2.1
  refine V_iload_n (pc := 0) 1 dX11_carOf_0 rfl rfl ?_
  refine V_iconst (pc := 1) (v := 0) dX11_carOf_1 rfl ?_
  refine V_aload_n (pc := 2) 0 dX11_carOf_2 rfl rfl ?_
  refine V_gI (pc := 3) (v := (I 0 8)) rfl fk_X11_214_11 dX11_carOf_3 (wN hw (by decide)) (wS1 hw (by decide) rfl) ?_
  refine V_iconst (pc := 6) (v := 1) dX11_carOf_6 rfl ?_
  refine V_isub (pc := 7) dX11_carOf_7 (fun x_7_1 e_7_1 => ?_)
  have t_7_1 : x_7_1.toInt = (I 0 8).toInt - 1 := subT e_7_1 rfl rfl (by omega) (by omega)
  refine V_callS (pc := 8) (As := [.int r, .int 0, .int x_7_1]) (st := []) (c_X11_isWithin G r 0 x_7_1) mf_X11_isWithin ml_X11_61 st_X11_isWithin dX11_carOf_8 rfl rfl (by omega) (by omega) (by omega) (Nat.le_of_ble_eq_true rfl) (fun r_8_2 n_8_2 sh_8_2 I_8_2 L_8_2 R_8_2 hq_8_2 => ?_)
  obtain ⟨rfl, rfl, rfl, rfl, rfl, hq_8_2⟩ := hq_8_2
  rcases hq_8_2 with ⟨c_8_2, rfl⟩ | ⟨c_8_2, rfl⟩
  · have c_8_2 : 0 ≤ r.toInt ∧ r.toInt ≤ x_7_1.toInt := c_8_2
    refine V_if_eq_f (pc := 11) (tgt := 23) dX11_carOf_11 (by decide) (by decide) ?_
    refine V_aload_n (pc := 14) 0 dX11_carOf_14 rfl rfl ?_
    refine V_getR (pc := 15) (j := 17) fk_X11_46_11 (wR hw (i := 0) (k := 7) (j := 17) rfl) dX11_carOf_15 (wN hw (by decide)) (wS1 hw (by decide) rfl) ?_
    refine V_iload_n (pc := 18) 1 dX11_carOf_18 rfl rfl ?_
    refine V_aalk (pc := 19) (t := 4) (N := 8) (k := r.toInt.toNat) (j := (oj R 17 r.toInt.toNat)) dX11_carOf_19 (wN hw (by decide)) (wS hw (by decide) rfl) (by decide) (by decide) (by omega) (by omega) (hJ.2.2.1 r.toInt.toNat (by omega)).1 ?_
    refine V_goto (pc := 20) (tgt := 24) dX11_carOf_20 (by decide) ?_
    refine V_aret (pc := 24) rfl (Or.inr ⟨_, rfl⟩) dX11_carOf_24 (by omega) (by omega) ?_
    refine ⟨rfl, rfl, rfl, rfl, rfl, ?_⟩
    exact Or.inr ⟨by omega, rfl⟩
  · have c_8_2 : ¬ (0 ≤ r.toInt ∧ r.toInt ≤ x_7_1.toInt) := c_8_2
    refine V_if_eq_t (pc := 11) (tgt := 23) dX11_carOf_11 (by decide) (by decide) ?_
    refine V_null (pc := 23) dX11_carOf_23 ?_
    refine V_aret (pc := 24) rfl (Or.inl rfl) dX11_carOf_24 (by omega) (by omega) ?_
    refine ⟨rfl, rfl, rfl, rfl, rfl, ?_⟩
    exact Or.inl ⟨by omega, rfl⟩
set_option maxRecDepth 100000 in
set_option maxHeartbeats 4000000 in
theorem c_X11_sheetOf (G : vG) {n : Nat} {sh : vS} {I : vI} {L : vL} {R : vR} (k : Int32) (hw : WF n sh R) : CT G yX11_sheetOf cX11_sheetOf 2 (some (.object "RegularRally$Sheet")) 1 0 0 [.ref (ad G 0), .int k] n sh I L R (PI n sh L R (fun I' o => I = I' ∧ ((¬ (0 ≤ k.toInt ∧ k.toInt ≤ 3) ∧ o = some .null) ∨ ((0 ≤ k.toInt ∧ k.toInt ≤ 3) ∧ o = some (.ref (ad G (19 + 2 * k.toInt.toNat))))))) := by
  refine CT_of (own := RX11) (ini := false) (lo := [(0, .ref (ad G 0)), (1, .int k)]) mf_X11_sheetOf (Nat.le_of_ble_eq_true rfl) rfl (fun h => by first | rfl | cases h) rfl ?_
  refine V_iload_n (pc := 0) 1 dX11_sheetOf_0 rfl rfl ?_
  refine V_iconst (pc := 1) (v := 0) dX11_sheetOf_1 rfl ?_
  refine V_iconst (pc := 2) (v := 3) dX11_sheetOf_2 rfl ?_
  refine V_callS (pc := 3) (As := [.int k, .int 0, .int 3]) (st := []) (c_X11_isWithin G k 0 3) mf_X11_isWithin ml_X11_61 st_X11_isWithin dX11_sheetOf_3 rfl rfl (by omega) (by omega) (by omega) (Nat.le_of_ble_eq_true rfl) (fun r_3_1 n_3_1 sh_3_1 I_3_1 L_3_1 R_3_1 hq_3_1 => ?_)
  obtain ⟨rfl, rfl, rfl, rfl, rfl, hq_3_1⟩ := hq_3_1
  rcases hq_3_1 with ⟨c_3_1, rfl⟩ | ⟨c_3_1, rfl⟩
  · have c_3_1 : 0 ≤ k.toInt ∧ k.toInt ≤ 3 := c_3_1
    refine V_if_eq_f (pc := 6) (tgt := 18) dX11_sheetOf_6 (by decide) (by decide) ?_
    refine V_aload_n (pc := 9) 0 dX11_sheetOf_9 rfl rfl ?_
    refine V_getR (pc := 10) (j := 18) fk_X11_52_11 (wR hw (i := 0) (k := 9) (j := 18) rfl) dX11_sheetOf_10 (wN hw (by decide)) (wS1 hw (by decide) rfl) ?_
    refine V_iload_n (pc := 13) 1 dX11_sheetOf_13 rfl rfl ?_
    refine V_aalk (pc := 14) (t := 5) (N := 4) (k := k.toInt.toNat) (j := (19 + 2 * k.toInt.toNat)) dX11_sheetOf_14 (wN hw (by decide)) (wS hw (by decide) rfl) (by decide) (by decide) (by omega) (by omega) (wSo hw (by omega)).2.2.2.2 ?_
    refine V_goto (pc := 15) (tgt := 19) dX11_sheetOf_15 (by decide) ?_
    refine V_aret (pc := 19) rfl (Or.inr ⟨_, rfl⟩) dX11_sheetOf_19 (by omega) (by omega) ?_
    refine ⟨rfl, rfl, rfl, rfl, rfl, ?_⟩
    exact Or.inr ⟨by omega, rfl⟩
  · have c_3_1 : ¬ (0 ≤ k.toInt ∧ k.toInt ≤ 3) := c_3_1
    refine V_if_eq_t (pc := 6) (tgt := 18) dX11_sheetOf_6 (by decide) (by decide) ?_
    refine V_null (pc := 18) dX11_sheetOf_18 ?_
    refine V_aret (pc := 19) rfl (Or.inl rfl) dX11_sheetOf_19 (by omega) (by omega) ?_
    refine ⟨rfl, rfl, rfl, rfl, rfl, ?_⟩
    exact Or.inl ⟨by omega, rfl⟩
