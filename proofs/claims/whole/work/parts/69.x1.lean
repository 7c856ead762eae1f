abbrev vI0 : vI := fun _ _ => 0
abbrev vL0 : vL := fun _ _ => 0
/-- an end of a constructor of the fixed part -/
def PR (n2 : Nat) (I2 : vI) (R2 : vR) : PT := fun r n' sh' I' L' R' => r = none ∧ n2 = n' ∧ shF = sh' ∧ I2 = I' ∧ vL0 = L' ∧ R2 = R'
set_option maxRecDepth 100000 in
set_option maxHeartbeats 4000000 in
theorem c_X0_init (G : vG) {R : vR} (hR : ∀ i, 3 ≤ i → R i = fun _ => none) : CT G yX0_init cX0_init 1 (none) 1 1 8 [.ref (ad G 2)] 3 shF vI0 vL0 R (PR 4 vI0 (up2 R 2 0 (some 3))) := by
  refine CT_of (own := RX0) (ini := true) (lo := [(0, .ref (ad G 2))]) mf_X0_init (Nat.le_of_ble_eq_true rfl) rfl (fun h => by first | rfl | cases h) rfl ?_
  refine V_aload_n (pc := 0) 0 dX0_init_0 rfl rfl ?_
  refine V_objInit (pc := 1) mo_X0 mo_i mo_c dX0_init_1 (by omega) (Nat.le_of_ble_eq_true rfl) ?_
  refine V_aload_n (pc := 4) 0 dX0_init_4 rfl rfl ?_
  refine V_bipush (pc := 5) (v := 8) dX0_init_5 rfl ?_
  refine V_newa (pc := 7) (t := 0) (ty := .int) (N := 8) (sh' := shF) (I' := vI0) (L' := vL0) rfl rfl (by decide) rfl kac_int dX0_init_7 rfl (Nat.le_of_ble_eq_true rfl) (by omega) (by omega) (uph_s rfl) (uph_s rfl) (uph_s rfl) (uph_s (by (repeat rw [up2_o (by omega)]) <;> exact hR _ (by omega))) ?_
  refine V_putRF (pc := 9) rfl fw_X0_9_0 rfl rfl dX0_init_9 (by decide) rfl ?_
  refine V_vret (pc := 12) rfl dX0_init_12 (by omega) (by omega) ?_
  exact ⟨rfl, rfl, rfl, rfl, rfl, rfl⟩
set_option maxRecDepth 100000 in
set_option maxHeartbeats 4000000 in
theorem c_X8_init (G : vG) {R : vR} (hR : ∀ i, 5 ≤ i → R i = fun _ => none) : CT G yX8_init cX8_init 1 (none) 1 6 510 [.ref (ad G 4)] 5 shF vI0 vL0 R (PR 11 vI0 (up2 (up2 (up2 (up2 (up2 (up2 R 4 0 (some 5)) 4 1 (some 6)) 4 2 (some 7)) 4 3 (some 8)) 4 5 (some 9)) 4 9 (some 10))) := by
  refine CT_of (own := RX8) (ini := true) (lo := [(0, .ref (ad G 4))]) mf_X8_init (Nat.le_of_ble_eq_true rfl) rfl (fun h => by first | rfl | cases h) rfl ?_
  refine V_aload_n (pc := 0) 0 dX8_init_0 rfl rfl ?_
  refine V_objInit (pc := 1) mo_X8 mo_i mo_c dX8_init_1 (by omega) (Nat.le_of_ble_eq_true rfl) ?_
  refine V_aload_n (pc := 4) 0 dX8_init_4 rfl rfl ?_
  refine V_bipush (pc := 5) (v := 10) dX8_init_5 rfl ?_
  refine V_newa (pc := 7) (t := 0) (ty := .int) (N := 10) (sh' := shF) (I' := vI0) (L' := vL0) rfl rfl (by decide) rfl kac_int dX8_init_7 rfl (Nat.le_of_ble_eq_true rfl) (by omega) (by omega) (uph_s rfl) (uph_s rfl) (uph_s rfl) (uph_s (by (repeat rw [up2_o (by omega)]) <;> exact hR _ (by omega))) ?_
  refine V_putRF (pc := 9) rfl fw_X8_9_8 rfl rfl dX8_init_9 (by decide) rfl ?_
  refine V_aload_n (pc := 12) 0 dX8_init_12 rfl rfl ?_
  refine V_sipush (pc := 13) (v := 160) dX8_init_13 rfl ?_
  refine V_newa (pc := 16) (t := 0) (ty := .int) (N := 160) (sh' := shF) (I' := vI0) (L' := vL0) rfl rfl (by decide) rfl kac_int dX8_init_16 rfl (Nat.le_of_ble_eq_true rfl) (by omega) (by omega) (uph_s rfl) (uph_s rfl) (uph_s rfl) (uph_s (by (repeat rw [up2_o (by omega)]) <;> exact hR _ (by omega))) ?_
  refine V_putRF (pc := 18) rfl fw_X8_15_8 rfl rfl dX8_init_18 (by decide) rfl ?_
  refine V_aload_n (pc := 21) 0 dX8_init_21 rfl rfl ?_
  refine V_sipush (pc := 22) (v := 160) dX8_init_22 rfl ?_
  refine V_newa (pc := 25) (t := 0) (ty := .int) (N := 160) (sh' := shF) (I' := vI0) (L' := vL0) rfl rfl (by decide) rfl kac_int dX8_init_25 rfl (Nat.le_of_ble_eq_true rfl) (by omega) (by omega) (uph_s rfl) (uph_s rfl) (uph_s rfl) (uph_s (by (repeat rw [up2_o (by omega)]) <;> exact hR _ (by omega))) ?_
  refine V_putRF (pc := 27) rfl fw_X8_18_8 rfl rfl dX8_init_27 (by decide) rfl ?_
  refine V_aload_n (pc := 30) 0 dX8_init_30 rfl rfl ?_
  refine V_sipush (pc := 31) (v := 160) dX8_init_31 rfl ?_
  refine V_newa (pc := 34) (t := 0) (ty := .int) (N := 160) (sh' := shF) (I' := vI0) (L' := vL0) rfl rfl (by decide) rfl kac_int dX8_init_34 rfl (Nat.le_of_ble_eq_true rfl) (by omega) (by omega) (uph_s rfl) (uph_s rfl) (uph_s rfl) (uph_s (by (repeat rw [up2_o (by omega)]) <;> exact hR _ (by omega))) ?_
  refine V_putRF (pc := 36) rfl fw_X8_21_8 rfl rfl dX8_init_36 (by decide) rfl ?_
  refine V_aload_n (pc := 39) 0 dX8_init_39 rfl rfl ?_
  refine V_bipush (pc := 40) (v := 10) dX8_init_40 rfl ?_
  refine V_newa (pc := 42) (t := 0) (ty := .int) (N := 10) (sh' := shF) (I' := vI0) (L' := vL0) rfl rfl (by decide) rfl kac_int dX8_init_42 rfl (Nat.le_of_ble_eq_true rfl) (by omega) (by omega) (uph_s rfl) (uph_s rfl) (uph_s rfl) (uph_s (by (repeat rw [up2_o (by omega)]) <;> exact hR _ (by omega))) ?_
  refine V_putRF (pc := 44) rfl fw_X8_24_8 rfl rfl dX8_init_44 (by decide) rfl ?_
  refine V_aload_n (pc := 47) 0 dX8_init_47 rfl rfl ?_
  refine V_bipush (pc := 48) (v := 10) dX8_init_48 rfl ?_
  refine V_newa (pc := 50) (t := 0) (ty := .int) (N := 10) (sh' := shF) (I' := vI0) (L' := vL0) rfl rfl (by decide) rfl kac_int dX8_init_50 rfl (Nat.le_of_ble_eq_true rfl) (by omega) (by omega) (uph_s rfl) (uph_s rfl) (uph_s rfl) (uph_s (by (repeat rw [up2_o (by omega)]) <;> exact hR _ (by omega))) ?_
  refine V_putRF (pc := 52) rfl fw_X8_27_8 rfl rfl dX8_init_52 (by decide) rfl ?_
  refine V_vret (pc := 55) rfl dX8_init_55 (by omega) (by omega) ?_
  exact ⟨rfl, rfl, rfl, rfl, rfl, rfl⟩
set_option maxRecDepth 100000 in
set_option maxHeartbeats 4000000 in
theorem c_X10_init (G : vG) {R : vR} (hR : ∀ i, 12 ≤ i → R i = fun _ => none) : CT G yX10_init cX10_init 1 (none) 1 4 36 [.ref (ad G 11)] 12 shF vI0 vL0 R (PR 16 vI0 (up2 (up2 (up2 (up2 R 11 0 (some 12)) 11 1 (some 13)) 11 4 (some 14)) 11 5 (some 15))) := by
  refine CT_of (own := RX10) (ini := true) (lo := [(0, .ref (ad G 11))]) mf_X10_init (Nat.le_of_ble_eq_true rfl) rfl (fun h => by first | rfl | cases h) rfl ?_
  refine V_aload_n (pc := 0) 0 dX10_init_0 rfl rfl ?_
  refine V_objInit (pc := 1) mo_X10 mo_i mo_c dX10_init_1 (by omega) (Nat.le_of_ble_eq_true rfl) ?_
  refine V_aload_n (pc := 4) 0 dX10_init_4 rfl rfl ?_
  refine V_bipush (pc := 5) (v := 10) dX10_init_5 rfl ?_
  refine V_newa (pc := 7) (t := 0) (ty := .int) (N := 10) (sh' := shF) (I' := vI0) (L' := vL0) rfl rfl (by decide) rfl kac_int dX10_init_7 rfl (Nat.le_of_ble_eq_true rfl) (by omega) (by omega) (uph_s rfl) (uph_s rfl) (uph_s rfl) (uph_s (by (repeat rw [up2_o (by omega)]) <;> exact hR _ (by omega))) ?_
  refine V_putRF (pc := 9) rfl fw_X10_9_10 rfl rfl dX10_init_9 (by decide) rfl ?_
  refine V_aload_n (pc := 12) 0 dX10_init_12 rfl rfl ?_
  refine V_bipush (pc := 13) (v := 10) dX10_init_13 rfl ?_
  refine V_newa (pc := 15) (t := 0) (ty := .int) (N := 10) (sh' := shF) (I' := vI0) (L' := vL0) rfl rfl (by decide) rfl kac_int dX10_init_15 rfl (Nat.le_of_ble_eq_true rfl) (by omega) (by omega) (uph_s rfl) (uph_s rfl) (uph_s rfl) (uph_s (by (repeat rw [up2_o (by omega)]) <;> exact hR _ (by omega))) ?_
  refine V_putRF (pc := 17) rfl fw_X10_15_10 rfl rfl dX10_init_17 (by decide) rfl ?_
  refine V_aload_n (pc := 20) 0 dX10_init_20 rfl rfl ?_
  refine V_bipush (pc := 21) (v := 8) dX10_init_21 rfl ?_
  refine V_newa (pc := 23) (t := 0) (ty := .int) (N := 8) (sh' := shF) (I' := vI0) (L' := vL0) rfl rfl (by decide) rfl kac_int dX10_init_23 rfl (Nat.le_of_ble_eq_true rfl) (by omega) (by omega) (uph_s rfl) (uph_s rfl) (uph_s rfl) (uph_s (by (repeat rw [up2_o (by omega)]) <;> exact hR _ (by omega))) ?_
  refine V_putRF (pc := 25) rfl fw_X10_18_10 rfl rfl dX10_init_25 (by decide) rfl ?_
  refine V_aload_n (pc := 28) 0 dX10_init_28 rfl rfl ?_
  refine V_bipush (pc := 29) (v := 8) dX10_init_29 rfl ?_
  refine V_newa (pc := 31) (t := 0) (ty := .int) (N := 8) (sh' := shF) (I' := vI0) (L' := vL0) rfl rfl (by decide) rfl kac_int dX10_init_31 rfl (Nat.le_of_ble_eq_true rfl) (by omega) (by omega) (uph_s rfl) (uph_s rfl) (uph_s rfl) (uph_s (by (repeat rw [up2_o (by omega)]) <;> exact hR _ (by omega))) ?_
  refine V_putRF (pc := 33) rfl fw_X10_21_10 rfl rfl dX10_init_33 (by decide) rfl ?_
  refine V_vret (pc := 36) rfl dX10_init_36 (by omega) (by omega) ?_
  exact ⟨rfl, rfl, rfl, rfl, rfl, rfl⟩
set_option maxRecDepth 100000 in
set_option maxHeartbeats 4000000 in
theorem c_X9_init_0 (G : vG) {R : vR} (hR : ∀ i, 20 ≤ i → R i = fun _ => none) : CT G yX9_init cX9_init 1 (none) 1 1 32 [.ref (ad G 19)] 20 shF vI0 vL0 R (PR 21 vI0 (up2 R 19 0 (some 20))) := by
  refine CT_of (own := RX9) (ini := true) (lo := [(0, .ref (ad G 19))]) mf_X9_init (Nat.le_of_ble_eq_true rfl) rfl (fun h => by first | rfl | cases h) rfl ?_
  refine V_aload_n (pc := 0) 0 dX9_init_0 rfl rfl ?_
  refine V_objInit (pc := 1) mo_X9 mo_i mo_c dX9_init_1 (by omega) (Nat.le_of_ble_eq_true rfl) ?_
  refine V_aload_n (pc := 4) 0 dX9_init_4 rfl rfl ?_
  refine V_bipush (pc := 5) (v := 32) dX9_init_5 rfl ?_
  refine V_newa (pc := 7) (t := 0) (ty := .int) (N := 32) (sh' := shF) (I' := vI0) (L' := vL0) rfl rfl (by decide) rfl kac_int dX9_init_7 rfl (Nat.le_of_ble_eq_true rfl) (by omega) (by omega) (uph_s rfl) (uph_s rfl) (uph_s rfl) (uph_s (by (repeat rw [up2_o (by omega)]) <;> exact hR _ (by omega))) ?_
  refine V_putRF (pc := 9) rfl fw_X9_9_9 rfl rfl dX9_init_9 (by decide) rfl ?_
  refine V_vret (pc := 12) rfl dX9_init_12 (by omega) (by omega) ?_
  exact ⟨rfl, rfl, rfl, rfl, rfl, rfl⟩
set_option maxRecDepth 100000 in
set_option maxHeartbeats 4000000 in
theorem c_X9_init_1 (G : vG) {R : vR} (hR : ∀ i, 22 ≤ i → R i = fun _ => none) : CT G yX9_init cX9_init 1 (none) 1 1 32 [.ref (ad G 21)] 22 shF vI0 vL0 R (PR 23 vI0 (up2 R 21 0 (some 22))) := by
  refine CT_of (own := RX9) (ini := true) (lo := [(0, .ref (ad G 21))]) mf_X9_init (Nat.le_of_ble_eq_true rfl) rfl (fun h => by first | rfl | cases h) rfl ?_
  refine V_aload_n (pc := 0) 0 dX9_init_0 rfl rfl ?_
  refine V_objInit (pc := 1) mo_X9 mo_i mo_c dX9_init_1 (by omega) (Nat.le_of_ble_eq_true rfl) ?_
  refine V_aload_n (pc := 4) 0 dX9_init_4 rfl rfl ?_
  refine V_bipush (pc := 5) (v := 32) dX9_init_5 rfl ?_
  refine V_newa (pc := 7) (t := 0) (ty := .int) (N := 32) (sh' := shF) (I' := vI0) (L' := vL0) rfl rfl (by decide) rfl kac_int dX9_init_7 rfl (Nat.le_of_ble_eq_true rfl) (by omega) (by omega) (uph_s rfl) (uph_s rfl) (uph_s rfl) (uph_s (by (repeat rw [up2_o (by omega)]) <;> exact hR _ (by omega))) ?_
  refine V_putRF (pc := 9) rfl fw_X9_9_9 rfl rfl dX9_init_9 (by decide) rfl ?_
  refine V_vret (pc := 12) rfl dX9_init_12 (by omega) (by omega) ?_
  exact ⟨rfl, rfl, rfl, rfl, rfl, rfl⟩
set_option maxRecDepth 100000 in
set_option maxHeartbeats 4000000 in
theorem c_X9_init_2 (G : vG) {R : vR} (hR : ∀ i, 24 ≤ i → R i = fun _ => none) : CT G yX9_init cX9_init 1 (none) 1 1 32 [.ref (ad G 23)] 24 shF vI0 vL0 R (PR 25 vI0 (up2 R 23 0 (some 24))) := by
  refine CT_of (own := RX9) (ini := true) (lo := [(0, .ref (ad G 23))]) mf_X9_init (Nat.le_of_ble_eq_true rfl) rfl (fun h => by first | rfl | cases h) rfl ?_
  refine V_aload_n (pc := 0) 0 dX9_init_0 rfl rfl ?_
  refine V_objInit (pc := 1) mo_X9 mo_i mo_c dX9_init_1 (by omega) (Nat.le_of_ble_eq_true rfl) ?_
  refine V_aload_n (pc := 4) 0 dX9_init_4 rfl rfl ?_
  refine V_bipush (pc := 5) (v := 32) dX9_init_5 rfl ?_
  refine V_newa (pc := 7) (t := 0) (ty := .int) (N := 32) (sh' := shF) (I' := vI0) (L' := vL0) rfl rfl (by decide) rfl kac_int dX9_init_7 rfl (Nat.le_of_ble_eq_true rfl) (by omega) (by omega) (uph_s rfl) (uph_s rfl) (uph_s rfl) (uph_s (by (repeat rw [up2_o (by omega)]) <;> exact hR _ (by omega))) ?_
  refine V_putRF (pc := 9) rfl fw_X9_9_9 rfl rfl dX9_init_9 (by decide) rfl ?_
  refine V_vret (pc := 12) rfl dX9_init_12 (by omega) (by omega) ?_
  exact ⟨rfl, rfl, rfl, rfl, rfl, rfl⟩
set_option maxRecDepth 100000 in
set_option maxHeartbeats 4000000 in
theorem c_X9_init_3 (G : vG) {R : vR} (hR : ∀ i, 26 ≤ i → R i = fun _ => none) : CT G yX9_init cX9_init 1 (none) 1 1 32 [.ref (ad G 25)] 26 shF vI0 vL0 R (PR 27 vI0 (up2 R 25 0 (some 26))) := by
  refine CT_of (own := RX9) (ini := true) (lo := [(0, .ref (ad G 25))]) mf_X9_init (Nat.le_of_ble_eq_true rfl) rfl (fun h => by first | rfl | cases h) rfl ?_
  refine V_aload_n (pc := 0) 0 dX9_init_0 rfl rfl ?_
  refine V_objInit (pc := 1) mo_X9 mo_i mo_c dX9_init_1 (by omega) (Nat.le_of_ble_eq_true rfl) ?_
  refine V_aload_n (pc := 4) 0 dX9_init_4 rfl rfl ?_
  refine V_bipush (pc := 5) (v := 32) dX9_init_5 rfl ?_
  refine V_newa (pc := 7) (t := 0) (ty := .int) (N := 32) (sh' := shF) (I' := vI0) (L' := vL0) rfl rfl (by decide) rfl kac_int dX9_init_7 rfl (Nat.le_of_ble_eq_true rfl) (by omega) (by omega) (uph_s rfl) (uph_s rfl) (uph_s rfl) (uph_s (by (repeat rw [up2_o (by omega)]) <;> exact hR _ (by omega))) ?_
  refine V_putRF (pc := 9) rfl fw_X9_9_9 rfl rfl dX9_init_9 (by decide) rfl ?_
  refine V_vret (pc := 12) rfl dX9_init_12 (by omega) (by omega) ?_
  exact ⟨rfl, rfl, rfl, rfl, rfl, rfl⟩
set_option maxRecDepth 100000 in
set_option maxHeartbeats 4000000 in
theorem c_X11_init (G : vG) {R : vR} (hR : ∀ i, 1 ≤ i → R i = fun _ => none) : CT G yX11_init cX11_init 2 (none) 2 26 756 [.ref (ad G 0)] 1 shF vI0 vL0 R (PR 27 vI0 (up2 (up2 (up2 (up2 (up2 (up2 (up2 (up2 (up2 (up2 (up2 (up2 (up2 (up2 (up2 (up2 (up2 (up2 (up2 (up2 (up2 (up2 (up2 (up2 (up2 (up2 R 0 0 (some 1)) 2 0 (some 3)) 0 2 (some 2)) 4 0 (some 5)) 4 1 (some 6)) 4 2 (some 7)) 4 3 (some 8)) 4 5 (some 9)) 4 9 (some 10)) 0 3 (some 4)) 11 0 (some 12)) 11 1 (some 13)) 11 4 (some 14)) 11 5 (some 15)) 0 4 (some 11)) 0 5 (some 16)) 0 7 (some 17)) 0 9 (some 18)) 19 0 (some 20)) 18 0 (some 19)) 21 0 (some 22)) 18 1 (some 21)) 23 0 (some 24)) 18 2 (some 23)) 25 0 (some 26)) 18 3 (some 25))) := by
  refine CT_of (own := RX11) (ini := true) (lo := [(0, .ref (ad G 0))]) mf_X11_init (Nat.le_of_ble_eq_true rfl) rfl (fun h => by first | rfl | cases h) rfl ?_
  refine V_aload_n (pc := 0) 0 dX11_init_0 rfl rfl ?_
  refine V_objInit (pc := 1) mo_X11 mo_i mo_c dX11_init_1 (by omega) (Nat.le_of_ble_eq_true rfl) ?_
  refine V_aload_n (pc := 4) 0 dX11_init_4 rfl rfl ?_
  refine V_bipush (pc := 5) (v := 16) dX11_init_5 rfl ?_
  refine V_newq (pc := 7) (t := 2) (N := 16) (C := RX7) (sh' := shF) (I' := vI0) (L' := vL0) rfl (by decide) ⟨kl_X11_11, List.mem_of_getElem? (i := 0) rfl⟩ dX11_init_7 rfl (Nat.le_of_ble_eq_true rfl) (by omega) (by omega) (uph_s rfl) (uph_s rfl) (uph_s rfl) (uph_s (by (repeat rw [up2_o (by omega)]) <;> exact hR _ (by omega))) ?_
  refine V_putRF (pc := 10) rfl fw_X11_13_11 rfl rfl dX11_init_10 (by decide) rfl ?_
  refine V_aload_n (pc := 13) 0 dX11_init_13 rfl rfl ?_
  refine V_new0 (pc := 14) (sh' := shF) (I' := vI0) (L' := vL0) ⟨kl_X11_17, kin_X0, kini_X0⟩ dX11_init_14 (by omega) (by omega) (uph_s rfl) (uph_s rfl) (uph_s rfl) (uph_s (by (repeat rw [up2_o (by omega)]) <;> exact hR _ (by omega))) ?_
  refine V_dup (pc := 17) dX11_init_17 rfl ?_
  refine V_callIN (pc := 18) (As := []) (st := [.ref (ad G 2), .ref (ad G 0)]) (c_X0_init G (fun i hi => by (repeat rw [up2_o (by omega)]) <;> exact hR _ (by omega))) mf_X0_init ne_X11_19 ii_X0_init dX11_init_18 rfl rfl (by omega) (by omega) (by omega) (Nat.le_of_ble_eq_true rfl) (fun r_18_1 n_18_1 sh_18_1 I_18_1 L_18_1 R_18_1 hq_18_1 => ?_)
  obtain ⟨rfl, rfl, rfl, rfl, rfl, rfl⟩ := hq_18_1
  refine V_putRF (pc := 21) rfl fw_X11_20_11 rfl rfl dX11_init_21 (by decide) rfl ?_
  refine V_aload_n (pc := 24) 0 dX11_init_24 rfl rfl ?_
  refine V_new8 (pc := 25) (sh' := shF) (I' := vI0) (L' := vL0) ⟨kl_X11_24, kin_X8, kini_X8⟩ dX11_init_25 (by omega) (by omega) (uph_s rfl) (uph_s rfl) (uph_s rfl) (uph_s (by (repeat rw [up2_o (by omega)]) <;> exact hR _ (by omega))) ?_
  refine V_dup (pc := 28) dX11_init_28 rfl ?_
  refine V_callIN (pc := 29) (As := []) (st := [.ref (ad G 4), .ref (ad G 0)]) (c_X8_init G (fun i hi => by (repeat rw [up2_o (by omega)]) <;> exact hR _ (by omega))) mf_X8_init ne_X11_26 ii_X8_init dX11_init_29 rfl rfl (by omega) (by omega) (by omega) (Nat.le_of_ble_eq_true rfl) (fun r_29_2 n_29_2 sh_29_2 I_29_2 L_29_2 R_29_2 hq_29_2 => ?_)
  obtain ⟨rfl, rfl, rfl, rfl, rfl, rfl⟩ := hq_29_2
  refine V_putRF (pc := 32) rfl fw_X11_27_11 rfl rfl dX11_init_32 (by decide) rfl ?_
  refine V_aload_n (pc := 35) 0 dX11_init_35 rfl rfl ?_
  refine V_new10 (pc := 36) (sh' := shF) (I' := vI0) (L' := vL0) ⟨kl_X11_31, kin_X10, kini_X10⟩ dX11_init_36 (by omega) (by omega) (uph_s rfl) (uph_s rfl) (uph_s rfl) (uph_s (by (repeat rw [up2_o (by omega)]) <;> exact hR _ (by omega))) ?_
  refine V_dup (pc := 39) dX11_init_39 rfl ?_
  refine V_callIN (pc := 40) (As := []) (st := [.ref (ad G 11), .ref (ad G 0)]) (c_X10_init G (fun i hi => by (repeat rw [up2_o (by omega)]) <;> exact hR _ (by omega))) mf_X10_init ne_X11_33 ii_X10_init dX11_init_40 rfl rfl (by omega) (by omega) (by omega) (Nat.le_of_ble_eq_true rfl) (fun r_40_3 n_40_3 sh_40_3 I_40_3 L_40_3 R_40_3 hq_40_3 => ?_)
  obtain ⟨rfl, rfl, rfl, rfl, rfl, rfl⟩ := hq_40_3
  refine V_putRF (pc := 43) rfl fw_X11_34_11 rfl rfl dX11_init_43 (by decide) rfl ?_
  refine V_aload_n (pc := 46) 0 dX11_init_46 rfl rfl ?_
  refine V_bipush (pc := 47) (v := 8) dX11_init_47 rfl ?_
  refine V_newq (pc := 49) (t := 3) (N := 8) (C := RX2) (sh' := shF) (I' := vI0) (L' := vL0) rfl (by decide) ⟨kl_X11_38, List.mem_of_getElem? (i := 1) rfl⟩ dX11_init_49 rfl (Nat.le_of_ble_eq_true rfl) (by omega) (by omega) (uph_s rfl) (uph_s rfl) (uph_s rfl) (uph_s (by (repeat rw [up2_o (by omega)]) <;> exact hR _ (by omega))) ?_
  refine V_putRF (pc := 52) rfl fw_X11_40_11 rfl rfl dX11_init_52 (by decide) rfl ?_
  refine V_aload_n (pc := 55) 0 dX11_init_55 rfl rfl ?_
  refine V_bipush (pc := 56) (v := 8) dX11_init_56 rfl ?_
  refine V_newq (pc := 58) (t := 4) (N := 8) (C := RX1) (sh' := shF) (I' := vI0) (L' := vL0) rfl (by decide) ⟨kl_X11_44, List.mem_of_getElem? (i := 2) rfl⟩ dX11_init_58 rfl (Nat.le_of_ble_eq_true rfl) (by omega) (by omega) (uph_s rfl) (uph_s rfl) (uph_s rfl) (uph_s (by (repeat rw [up2_o (by omega)]) <;> exact hR _ (by omega))) ?_
  refine V_putRF (pc := 61) rfl fw_X11_46_11 rfl rfl dX11_init_61 (by decide) rfl ?_
  refine V_aload_n (pc := 64) 0 dX11_init_64 rfl rfl ?_
  refine V_iconst (pc := 65) (v := 4) dX11_init_65 rfl ?_
  refine V_newq (pc := 66) (t := 5) (N := 4) (C := RX9) (sh' := shF) (I' := vI0) (L' := vL0) rfl (by decide) ⟨kl_X11_50, List.mem_of_getElem? (i := 3) rfl⟩ dX11_init_66 rfl (Nat.le_of_ble_eq_true rfl) (by omega) (by omega) (uph_s rfl) (uph_s rfl) (uph_s rfl) (uph_s (by (repeat rw [up2_o (by omega)]) <;> exact hR _ (by omega))) ?_
  refine V_putRF (pc := 69) rfl fw_X11_52_11 rfl rfl dX11_init_69 (by decide) rfl ?_
  refine V_iconst (pc := 72) (v := 0) dX11_init_72 rfl ?_
  refine V_istore_n (pc := 73) (lo' := [(0, .ref (ad G 0)), (1, .int 0)]) dX11_init_73 rfl (by decide) rfl ?_
  refine V_iload_n (pc := 74) 1 dX11_init_74 rfl rfl ?_
  refine V_iconst (pc := 75) (v := 4) dX11_init_75 rfl ?_
  refine V_icmp_ge (pc := 76) (tgt := 98) dX11_init_76 (by decide) (fun c_76_4 => ?_) (fun c_76_4 => ?_)
  · exact absurd c_76_4 (by decide)
  · skip
    refine V_aload_n (pc := 79) 0 dX11_init_79 rfl rfl ?_
    refine V_getR (pc := 80) (j := 18) fk_X11_52_11 rfl dX11_init_80 (by decide) rfl ?_
    refine V_iload_n (pc := 83) 1 dX11_init_83 rfl rfl ?_
    refine V_new9 (pc := 84) (sh' := shF) (I' := vI0) (L' := vL0) ⟨kl_X11_50, kin_X9, kini_X9⟩ dX11_init_84 (by omega) (by omega) (uph_s rfl) (uph_s rfl) (uph_s rfl) (uph_s (by (repeat rw [up2_o (by omega)]) <;> exact hR _ (by omega))) ?_
    refine V_dup (pc := 87) dX11_init_87 rfl ?_
    refine V_callIN (pc := 88) (As := []) (st := [.ref (ad G 19), .int 0, .ref (ad G 18)]) (c_X9_init_0 G (fun i hi => by (repeat rw [up2_o (by omega)]) <;> exact hR _ (by omega))) mf_X9_init ne_X11_56 ii_X9_init dX11_init_88 rfl rfl (by omega) (by omega) (by omega) (Nat.le_of_ble_eq_true rfl) (fun r_88_5 n_88_5 sh_88_5 I_88_5 L_88_5 R_88_5 hq_88_5 => ?_)
    obtain ⟨rfl, rfl, rfl, rfl, rfl, rfl⟩ := hq_88_5
    refine V_aastO (pc := 91) (t := 5) (N := 4) (k := 0) dX11_init_91 (by decide) rfl (by decide) rfl (show (19 < 21 ∧ (shF 19).1 = 9) ∧ 9 < 13 ∧ vwCl[9]? = some _ from ⟨⟨by omega, rfl⟩, by decide, rfl⟩) rfl (by omega) ?_
    refine V_iinc (pc := 92) (v := 1) (lo' := [(0, .ref (ad G 0)), (1, .int 1)]) 1 dX11_init_92 rfl (by decide) (by decide) rfl ?_
    refine V_goto (pc := 95) (tgt := 74) dX11_init_95 (by decide) ?_
    refine V_iload_n (pc := 74) 1 dX11_init_74 rfl rfl ?_
    refine V_iconst (pc := 75) (v := 4) dX11_init_75 rfl ?_
    refine V_icmp_ge (pc := 76) (tgt := 98) dX11_init_76 (by decide) (fun c_76_7 => ?_) (fun c_76_7 => ?_)
    · exact absurd c_76_7 (by decide)
    · skip
      refine V_aload_n (pc := 79) 0 dX11_init_79 rfl rfl ?_
      refine V_getR (pc := 80) (j := 18) fk_X11_52_11 rfl dX11_init_80 (by decide) rfl ?_
      refine V_iload_n (pc := 83) 1 dX11_init_83 rfl rfl ?_
      refine V_new9 (pc := 84) (sh' := shF) (I' := vI0) (L' := vL0) ⟨kl_X11_50, kin_X9, kini_X9⟩ dX11_init_84 (by omega) (by omega) (uph_s rfl) (uph_s rfl) (uph_s rfl) (uph_s (by (repeat rw [up2_o (by omega)]) <;> exact hR _ (by omega))) ?_
      refine V_dup (pc := 87) dX11_init_87 rfl ?_
      refine V_callIN (pc := 88) (As := []) (st := [.ref (ad G 21), .int 1, .ref (ad G 18)]) (c_X9_init_1 G (fun i hi => by (repeat rw [up2_o (by omega)]) <;> exact hR _ (by omega))) mf_X9_init ne_X11_56 ii_X9_init dX11_init_88 rfl rfl (by omega) (by omega) (by omega) (Nat.le_of_ble_eq_true rfl) (fun r_88_8 n_88_8 sh_88_8 I_88_8 L_88_8 R_88_8 hq_88_8 => ?_)
      obtain ⟨rfl, rfl, rfl, rfl, rfl, rfl⟩ := hq_88_8
      refine V_aastO (pc := 91) (t := 5) (N := 4) (k := 1) dX11_init_91 (by decide) rfl (by decide) rfl (show (21 < 23 ∧ (shF 21).1 = 9) ∧ 9 < 13 ∧ vwCl[9]? = some _ from ⟨⟨by omega, rfl⟩, by decide, rfl⟩) rfl (by omega) ?_
      refine V_iinc (pc := 92) (v := 2) (lo' := [(0, .ref (ad G 0)), (1, .int 2)]) 1 dX11_init_92 rfl (by decide) (by decide) rfl ?_
      refine V_goto (pc := 95) (tgt := 74) dX11_init_95 (by decide) ?_
      refine V_iload_n (pc := 74) 1 dX11_init_74 rfl rfl ?_
      refine V_iconst (pc := 75) (v := 4) dX11_init_75 rfl ?_
      refine V_icmp_ge (pc := 76) (tgt := 98) dX11_init_76 (by decide) (fun c_76_10 => ?_) (fun c_76_10 => ?_)
      · exact absurd c_76_10 (by decide)
      · skip
        refine V_aload_n (pc := 79) 0 dX11_init_79 rfl rfl ?_
        refine V_getR (pc := 80) (j := 18) fk_X11_52_11 rfl dX11_init_80 (by decide) rfl ?_
        refine V_iload_n (pc := 83) 1 dX11_init_83 rfl rfl ?_
        refine V_new9 (pc := 84) (sh' := shF) (I' := vI0) (L' := vL0) ⟨kl_X11_50, kin_X9, kini_X9⟩ dX11_init_84 (by omega) (by omega) (uph_s rfl) (uph_s rfl) (uph_s rfl) (uph_s (by (repeat rw [up2_o (by omega)]) <;> exact hR _ (by omega))) ?_
        refine V_dup (pc := 87) dX11_init_87 rfl ?_
        refine V_callIN (pc := 88) (As := []) (st := [.ref (ad G 23), .int 2, .ref (ad G 18)]) (c_X9_init_2 G (fun i hi => by (repeat rw [up2_o (by omega)]) <;> exact hR _ (by omega))) mf_X9_init ne_X11_56 ii_X9_init dX11_init_88 rfl rfl (by omega) (by omega) (by omega) (Nat.le_of_ble_eq_true rfl) (fun r_88_11 n_88_11 sh_88_11 I_88_11 L_88_11 R_88_11 hq_88_11 => ?_)
        obtain ⟨rfl, rfl, rfl, rfl, rfl, rfl⟩ := hq_88_11
        refine V_aastO (pc := 91) (t := 5) (N := 4) (k := 2) dX11_init_91 (by decide) rfl (by decide) rfl (show (23 < 25 ∧ (shF 23).1 = 9) ∧ 9 < 13 ∧ vwCl[9]? = some _ from ⟨⟨by omega, rfl⟩, by decide, rfl⟩) rfl (by omega) ?_
        refine V_iinc (pc := 92) (v := 3) (lo' := [(0, .ref (ad G 0)), (1, .int 3)]) 1 dX11_init_92 rfl (by decide) (by decide) rfl ?_
        refine V_goto (pc := 95) (tgt := 74) dX11_init_95 (by decide) ?_
        refine V_iload_n (pc := 74) 1 dX11_init_74 rfl rfl ?_
        refine V_iconst (pc := 75) (v := 4) dX11_init_75 rfl ?_
        refine V_icmp_ge (pc := 76) (tgt := 98) dX11_init_76 (by decide) (fun c_76_13 => ?_) (fun c_76_13 => ?_)
        · exact absurd c_76_13 (by decide)
        · skip
          refine V_aload_n (pc := 79) 0 dX11_init_79 rfl rfl ?_
          refine V_getR (pc := 80) (j := 18) fk_X11_52_11 rfl dX11_init_80 (by decide) rfl ?_
          refine V_iload_n (pc := 83) 1 dX11_init_83 rfl rfl ?_
          refine V_new9 (pc := 84) (sh' := shF) (I' := vI0) (L' := vL0) ⟨kl_X11_50, kin_X9, kini_X9⟩ dX11_init_84 (by omega) (by omega) (uph_s rfl) (uph_s rfl) (uph_s rfl) (uph_s (by (repeat rw [up2_o (by omega)]) <;> exact hR _ (by omega))) ?_
          refine V_dup (pc := 87) dX11_init_87 rfl ?_
          refine V_callIN (pc := 88) (As := []) (st := [.ref (ad G 25), .int 3, .ref (ad G 18)]) (c_X9_init_3 G (fun i hi => by (repeat rw [up2_o (by omega)]) <;> exact hR _ (by omega))) mf_X9_init ne_X11_56 ii_X9_init dX11_init_88 rfl rfl (by omega) (by omega) (by omega) (Nat.le_of_ble_eq_true rfl) (fun r_88_14 n_88_14 sh_88_14 I_88_14 L_88_14 R_88_14 hq_88_14 => ?_)
          obtain ⟨rfl, rfl, rfl, rfl, rfl, rfl⟩ := hq_88_14
          refine V_aastO (pc := 91) (t := 5) (N := 4) (k := 3) dX11_init_91 (by decide) rfl (by decide) rfl (show (25 < 27 ∧ (shF 25).1 = 9) ∧ 9 < 13 ∧ vwCl[9]? = some _ from ⟨⟨by omega, rfl⟩, by decide, rfl⟩) rfl (by omega) ?_
          refine V_iinc (pc := 92) (v := 4) (lo' := [(0, .ref (ad G 0)), (1, .int 4)]) 1 dX11_init_92 rfl (by decide) (by decide) rfl ?_
          refine V_goto (pc := 95) (tgt := 74) dX11_init_95 (by decide) ?_
          refine V_iload_n (pc := 74) 1 dX11_init_74 rfl rfl ?_
          refine V_iconst (pc := 75) (v := 4) dX11_init_75 rfl ?_
          refine V_icmp_ge (pc := 76) (tgt := 98) dX11_init_76 (by decide) (fun c_76_16 => ?_) (fun c_76_16 => ?_)
          · skip
            refine V_vret (pc := 98) rfl dX11_init_98 (by omega) (by omega) ?_
            exact ⟨rfl, rfl, rfl, rfl, rfl, rfl⟩
          · exact absurd c_76_16 (by decide)
set_option maxRecDepth 100000 in
set_option maxHeartbeats 4000000 in
theorem c_X12_init (G : vG) {R : vR} (hR : ∀ i, 28 ≤ i → R i = fun _ => none) : CT G yX12_init cX12_init 2 (none) 1 28 616 [.ref (ad G 27)] 28 shF vI0 vL0 R (PR 56 (up2 (up2 (up2 (up2 (up2 vI0 34 0 (-1)) 34 1 (-1)) 34 2 (-1)) 34 3 (-1)) 27 24 0) (up2 (up2 (up2 (up2 (up2 (up2 (up2 (up2 (up2 (up2 (up2 (up2 (up2 (up2 (up2 (up2 (up2 (up2 (up2 (up2 (up2 (up2 (up2 (up2 (up2 (up2 (up2 (up2 R 27 2 (some 28)) 27 3 (some 29)) 27 4 (some 30)) 27 5 (some 31)) 27 6 (some 32)) 27 7 (some 33)) 27 8 (some 34)) 27 9 (some 35)) 27 10 (some 36)) 27 11 (some 37)) 27 13 (some 38)) 27 17 (some 39)) 27 20 (some 40)) 27 21 (some 41)) 27 22 (some 42)) 27 23 (some 43)) 27 26 (some 44)) 27 28 (some 45)) 27 29 (some 46)) 27 31 (some 47)) 27 32 (some 48)) 27 33 (some 49)) 27 34 (some 50)) 27 36 (some 51)) 27 37 (some 52)) 27 39 (some 53)) 27 40 (some 54)) 27 41 (some 55))) := by
  refine CT_of (own := RX12) (ini := true) (lo := [(0, .ref (ad G 27))]) mf_X12_init (Nat.le_of_ble_eq_true rfl) rfl (fun h => by first | rfl | cases h) rfl ?_
  refine V_aload_n (pc := 0) 0 dX12_init_0 rfl rfl ?_
  refine V_objInit (pc := 1) mo_X12 mo_i mo_c dX12_init_1 (by omega) (Nat.le_of_ble_eq_true rfl) ?_
  refine V_aload_n (pc := 4) 0 dX12_init_4 rfl rfl ?_
  refine V_bipush (pc := 5) (v := 16) dX12_init_5 rfl ?_
  refine V_newa (pc := 7) (t := 0) (ty := .int) (N := 16) (sh' := shF) (I' := vI0) (L' := vL0) rfl rfl (by decide) rfl kac_int dX12_init_7 rfl (Nat.le_of_ble_eq_true rfl) (by omega) (by omega) (uph_s rfl) (uph_s rfl) (uph_s rfl) (uph_s (by (repeat rw [up2_o (by omega)]) <;> exact hR _ (by omega))) ?_
  refine V_putRF (pc := 9) rfl fw_X12_7_12 rfl rfl dX12_init_9 (by decide) rfl ?_
  refine V_aload_n (pc := 12) 0 dX12_init_12 rfl rfl ?_
  refine V_bipush (pc := 13) (v := 16) dX12_init_13 rfl ?_
  refine V_newa (pc := 15) (t := 0) (ty := .int) (N := 16) (sh' := shF) (I' := vI0) (L' := vL0) rfl rfl (by decide) rfl kac_int dX12_init_15 rfl (Nat.le_of_ble_eq_true rfl) (by omega) (by omega) (uph_s rfl) (uph_s rfl) (uph_s rfl) (uph_s (by (repeat rw [up2_o (by omega)]) <;> exact hR _ (by omega))) ?_
  refine V_putRF (pc := 17) rfl fw_X12_13_12 rfl rfl dX12_init_17 (by decide) rfl ?_
  refine V_aload_n (pc := 20) 0 dX12_init_20 rfl rfl ?_
  refine V_bipush (pc := 21) (v := 16) dX12_init_21 rfl ?_
  refine V_newa (pc := 23) (t := 0) (ty := .int) (N := 16) (sh' := shF) (I' := vI0) (L' := vL0) rfl rfl (by decide) rfl kac_int dX12_init_23 rfl (Nat.le_of_ble_eq_true rfl) (by omega) (by omega) (uph_s rfl) (uph_s rfl) (uph_s rfl) (uph_s (by (repeat rw [up2_o (by omega)]) <;> exact hR _ (by omega))) ?_
  refine V_putRF (pc := 25) rfl fw_X12_16_12 rfl rfl dX12_init_25 (by decide) rfl ?_
  refine V_aload_n (pc := 28) 0 dX12_init_28 rfl rfl ?_
  refine V_bipush (pc := 29) (v := 16) dX12_init_29 rfl ?_
  refine V_newa (pc := 31) (t := 0) (ty := .int) (N := 16) (sh' := shF) (I' := vI0) (L' := vL0) rfl rfl (by decide) rfl kac_int dX12_init_31 rfl (Nat.le_of_ble_eq_true rfl) (by omega) (by omega) (uph_s rfl) (uph_s rfl) (uph_s rfl) (uph_s (by (repeat rw [up2_o (by omega)]) <;> exact hR _ (by omega))) ?_
  refine V_putRF (pc := 33) rfl fw_X12_19_12 rfl rfl dX12_init_33 (by decide) rfl ?_
  refine V_aload_n (pc := 36) 0 dX12_init_36 rfl rfl ?_
  refine V_bipush (pc := 37) (v := 16) dX12_init_37 rfl ?_
  refine V_newa (pc := 39) (t := 1) (ty := .boolean) (N := 16) (sh' := shF) (I' := vI0) (L' := vL0) rfl rfl (by decide) rfl kac_boolean dX12_init_39 rfl (Nat.le_of_ble_eq_true rfl) (by omega) (by omega) (uph_s rfl) (uph_s rfl) (uph_s rfl) (uph_s (by (repeat rw [up2_o (by omega)]) <;> exact hR _ (by omega))) ?_
  refine V_putRF (pc := 41) rfl fw_X12_22_12 rfl rfl dX12_init_41 (by decide) rfl ?_
  refine V_aload_n (pc := 44) 0 dX12_init_44 rfl rfl ?_
  refine V_bipush (pc := 45) (v := 16) dX12_init_45 rfl ?_
  refine V_newa (pc := 47) (t := 1) (ty := .boolean) (N := 16) (sh' := shF) (I' := vI0) (L' := vL0) rfl rfl (by decide) rfl kac_boolean dX12_init_47 rfl (Nat.le_of_ble_eq_true rfl) (by omega) (by omega) (uph_s rfl) (uph_s rfl) (uph_s rfl) (uph_s (by (repeat rw [up2_o (by omega)]) <;> exact hR _ (by omega))) ?_
  refine V_putRF (pc := 49) rfl fw_X12_26_12 rfl rfl dX12_init_49 (by decide) rfl ?_
  refine V_aload_n (pc := 52) 0 dX12_init_52 rfl rfl ?_
  refine V_iconst (pc := 53) (v := 4) dX12_init_53 rfl ?_
  refine V_newa (pc := 54) (t := 0) (ty := .int) (N := 4) (sh' := shF) (I' := vI0) (L' := vL0) rfl rfl (by decide) rfl kac_int dX12_init_54 rfl (Nat.le_of_ble_eq_true rfl) (by omega) (by omega) (uph_s rfl) (uph_s rfl) (uph_s rfl) (uph_s (by (repeat rw [up2_o (by omega)]) <;> exact hR _ (by omega))) ?_
  refine V_putRF (pc := 56) rfl fw_X12_29_12 rfl rfl dX12_init_56 (by decide) rfl ?_
  refine V_aload_n (pc := 59) 0 dX12_init_59 rfl rfl ?_
  refine V_iconst (pc := 60) (v := 4) dX12_init_60 rfl ?_
  refine V_newa (pc := 61) (t := 0) (ty := .int) (N := 4) (sh' := shF) (I' := vI0) (L' := vL0) rfl rfl (by decide) rfl kac_int dX12_init_61 rfl (Nat.le_of_ble_eq_true rfl) (by omega) (by omega) (uph_s rfl) (uph_s rfl) (uph_s rfl) (uph_s (by (repeat rw [up2_o (by omega)]) <;> exact hR _ (by omega))) ?_
  refine V_putRF (pc := 63) rfl fw_X12_32_12 rfl rfl dX12_init_63 (by decide) rfl ?_
  refine V_aload_n (pc := 66) 0 dX12_init_66 rfl rfl ?_
  refine V_sipush (pc := 67) (v := 128) dX12_init_67 rfl ?_
  refine V_newa (pc := 70) (t := 0) (ty := .int) (N := 128) (sh' := shF) (I' := vI0) (L' := vL0) rfl rfl (by decide) rfl kac_int dX12_init_70 rfl (Nat.le_of_ble_eq_true rfl) (by omega) (by omega) (uph_s rfl) (uph_s rfl) (uph_s rfl) (uph_s (by (repeat rw [up2_o (by omega)]) <;> exact hR _ (by omega))) ?_
  refine V_putRF (pc := 72) rfl fw_X12_35_12 rfl rfl dX12_init_72 (by decide) rfl ?_
  refine V_aload_n (pc := 75) 0 dX12_init_75 rfl rfl ?_
  refine V_bipush (pc := 76) (v := 32) dX12_init_76 rfl ?_
  refine V_newa (pc := 78) (t := 0) (ty := .int) (N := 32) (sh' := shF) (I' := vI0) (L' := vL0) rfl rfl (by decide) rfl kac_int dX12_init_78 rfl (Nat.le_of_ble_eq_true rfl) (by omega) (by omega) (uph_s rfl) (uph_s rfl) (uph_s rfl) (uph_s (by (repeat rw [up2_o (by omega)]) <;> exact hR _ (by omega))) ?_
  refine V_putRF (pc := 80) rfl fw_X12_38_12 rfl rfl dX12_init_80 (by decide) rfl ?_
  refine V_aload_n (pc := 83) 0 dX12_init_83 rfl rfl ?_
  refine V_bipush (pc := 84) (v := 8) dX12_init_84 rfl ?_
  refine V_newa (pc := 86) (t := 0) (ty := .int) (N := 8) (sh' := shF) (I' := vI0) (L' := vL0) rfl rfl (by decide) rfl kac_int dX12_init_86 rfl (Nat.le_of_ble_eq_true rfl) (by omega) (by omega) (uph_s rfl) (uph_s rfl) (uph_s rfl) (uph_s (by (repeat rw [up2_o (by omega)]) <;> exact hR _ (by omega))) ?_
  refine V_putRF (pc := 88) rfl fw_X12_41_12 rfl rfl dX12_init_88 (by decide) rfl ?_
  refine V_aload_n (pc := 91) 0 dX12_init_91 rfl rfl ?_
  refine V_bipush (pc := 92) (v := 10) dX12_init_92 rfl ?_
  refine V_newa (pc := 94) (t := 0) (ty := .int) (N := 10) (sh' := shF) (I' := vI0) (L' := vL0) rfl rfl (by decide) rfl kac_int dX12_init_94 rfl (Nat.le_of_ble_eq_true rfl) (by omega) (by omega) (uph_s rfl) (uph_s rfl) (uph_s rfl) (uph_s (by (repeat rw [up2_o (by omega)]) <;> exact hR _ (by omega))) ?_
  refine V_putRF (pc := 96) rfl fw_X12_44_12 rfl rfl dX12_init_96 (by decide) rfl ?_
  refine V_aload_n (pc := 99) 0 dX12_init_99 rfl rfl ?_
  refine V_bipush (pc := 100) (v := 11) dX12_init_100 rfl ?_
  refine V_newa (pc := 102) (t := 0) (ty := .int) (N := 11) (sh' := shF) (I' := vI0) (L' := vL0) rfl rfl (by decide) rfl kac_int dX12_init_102 rfl (Nat.le_of_ble_eq_true rfl) (by omega) (by omega) (uph_s rfl) (uph_s rfl) (uph_s rfl) (uph_s (by (repeat rw [up2_o (by omega)]) <;> exact hR _ (by omega))) ?_
  refine V_putRF (pc := 104) rfl fw_X12_47_12 rfl rfl dX12_init_104 (by decide) rfl ?_
  refine V_aload_n (pc := 107) 0 dX12_init_107 rfl rfl ?_
  refine V_bipush (pc := 108) (v := 11) dX12_init_108 rfl ?_
  refine V_newa (pc := 110) (t := 0) (ty := .int) (N := 11) (sh' := shF) (I' := vI0) (L' := vL0) rfl rfl (by decide) rfl kac_int dX12_init_110 rfl (Nat.le_of_ble_eq_true rfl) (by omega) (by omega) (uph_s rfl) (uph_s rfl) (uph_s rfl) (uph_s (by (repeat rw [up2_o (by omega)]) <;> exact hR _ (by omega))) ?_
  refine V_putRF (pc := 112) rfl fw_X12_50_12 rfl rfl dX12_init_112 (by decide) rfl ?_
  refine V_aload_n (pc := 115) 0 dX12_init_115 rfl rfl ?_
  refine V_bipush (pc := 116) (v := 11) dX12_init_116 rfl ?_
  refine V_newa (pc := 118) (t := 0) (ty := .int) (N := 11) (sh' := shF) (I' := vI0) (L' := vL0) rfl rfl (by decide) rfl kac_int dX12_init_118 rfl (Nat.le_of_ble_eq_true rfl) (by omega) (by omega) (uph_s rfl) (uph_s rfl) (uph_s rfl) (uph_s (by (repeat rw [up2_o (by omega)]) <;> exact hR _ (by omega))) ?_
  refine V_putRF (pc := 120) rfl fw_X12_53_12 rfl rfl dX12_init_120 (by decide) rfl ?_
  refine V_aload_n (pc := 123) 0 dX12_init_123 rfl rfl ?_
  refine V_bipush (pc := 124) (v := 11) dX12_init_124 rfl ?_
  refine V_newa (pc := 126) (t := 0) (ty := .int) (N := 11) (sh' := shF) (I' := vI0) (L' := vL0) rfl rfl (by decide) rfl kac_int dX12_init_126 rfl (Nat.le_of_ble_eq_true rfl) (by omega) (by omega) (uph_s rfl) (uph_s rfl) (uph_s rfl) (uph_s (by (repeat rw [up2_o (by omega)]) <;> exact hR _ (by omega))) ?_
  refine V_putRF (pc := 128) rfl fw_X12_56_12 rfl rfl dX12_init_128 (by decide) rfl ?_
  refine V_aload_n (pc := 131) 0 dX12_init_131 rfl rfl ?_
  refine V_bipush (pc := 132) (v := 10) dX12_init_132 rfl ?_
  refine V_newa (pc := 134) (t := 0) (ty := .int) (N := 10) (sh' := shF) (I' := vI0) (L' := vL0) rfl rfl (by decide) rfl kac_int dX12_init_134 rfl (Nat.le_of_ble_eq_true rfl) (by omega) (by omega) (uph_s rfl) (uph_s rfl) (uph_s rfl) (uph_s (by (repeat rw [up2_o (by omega)]) <;> exact hR _ (by omega))) ?_
  refine V_putRF (pc := 136) rfl fw_X12_59_12 rfl rfl dX12_init_136 (by decide) rfl ?_
  refine V_aload_n (pc := 139) 0 dX12_init_139 rfl rfl ?_
  refine V_bipush (pc := 140) (v := 8) dX12_init_140 rfl ?_
  refine V_newa (pc := 142) (t := 0) (ty := .int) (N := 8) (sh' := shF) (I' := vI0) (L' := vL0) rfl rfl (by decide) rfl kac_int dX12_init_142 rfl (Nat.le_of_ble_eq_true rfl) (by omega) (by omega) (uph_s rfl) (uph_s rfl) (uph_s rfl) (uph_s (by (repeat rw [up2_o (by omega)]) <;> exact hR _ (by omega))) ?_
  refine V_putRF (pc := 144) rfl fw_X12_62_12 rfl rfl dX12_init_144 (by decide) rfl ?_
  refine V_aload_n (pc := 147) 0 dX12_init_147 rfl rfl ?_
  refine V_bipush (pc := 148) (v := 8) dX12_init_148 rfl ?_
  refine V_newa (pc := 150) (t := 0) (ty := .int) (N := 8) (sh' := shF) (I' := vI0) (L' := vL0) rfl rfl (by decide) rfl kac_int dX12_init_150 rfl (Nat.le_of_ble_eq_true rfl) (by omega) (by omega) (uph_s rfl) (uph_s rfl) (uph_s rfl) (uph_s (by (repeat rw [up2_o (by omega)]) <;> exact hR _ (by omega))) ?_
  refine V_putRF (pc := 152) rfl fw_X12_65_12 rfl rfl dX12_init_152 (by decide) rfl ?_
  refine V_aload_n (pc := 155) 0 dX12_init_155 rfl rfl ?_
  refine V_bipush (pc := 156) (v := 8) dX12_init_156 rfl ?_
  refine V_newa (pc := 158) (t := 0) (ty := .int) (N := 8) (sh' := shF) (I' := vI0) (L' := vL0) rfl rfl (by decide) rfl kac_int dX12_init_158 rfl (Nat.le_of_ble_eq_true rfl) (by omega) (by omega) (uph_s rfl) (uph_s rfl) (uph_s rfl) (uph_s (by (repeat rw [up2_o (by omega)]) <;> exact hR _ (by omega))) ?_
  refine V_putRF (pc := 160) rfl fw_X12_68_12 rfl rfl dX12_init_160 (by decide) rfl ?_
  refine V_aload_n (pc := 163) 0 dX12_init_163 rfl rfl ?_
  refine V_bipush (pc := 164) (v := 8) dX12_init_164 rfl ?_
  refine V_newa (pc := 166) (t := 1) (ty := .boolean) (N := 8) (sh' := shF) (I' := vI0) (L' := vL0) rfl rfl (by decide) rfl kac_boolean dX12_init_166 rfl (Nat.le_of_ble_eq_true rfl) (by omega) (by omega) (uph_s rfl) (uph_s rfl) (uph_s rfl) (uph_s (by (repeat rw [up2_o (by omega)]) <;> exact hR _ (by omega))) ?_
  refine V_putRF (pc := 168) rfl fw_X12_71_12 rfl rfl dX12_init_168 (by decide) rfl ?_
  refine V_aload_n (pc := 171) 0 dX12_init_171 rfl rfl ?_
  refine V_bipush (pc := 172) (v := 8) dX12_init_172 rfl ?_
  refine V_newa (pc := 174) (t := 1) (ty := .boolean) (N := 8) (sh' := shF) (I' := vI0) (L' := vL0) rfl rfl (by decide) rfl kac_boolean dX12_init_174 rfl (Nat.le_of_ble_eq_true rfl) (by omega) (by omega) (uph_s rfl) (uph_s rfl) (uph_s rfl) (uph_s (by (repeat rw [up2_o (by omega)]) <;> exact hR _ (by omega))) ?_
  refine V_putRF (pc := 176) rfl fw_X12_74_12 rfl rfl dX12_init_176 (by decide) rfl ?_
  refine V_aload_n (pc := 179) 0 dX12_init_179 rfl rfl ?_
  refine V_bipush (pc := 180) (v := 32) dX12_init_180 rfl ?_
  refine V_newa (pc := 182) (t := 0) (ty := .int) (N := 32) (sh' := shF) (I' := vI0) (L' := vL0) rfl rfl (by decide) rfl kac_int dX12_init_182 rfl (Nat.le_of_ble_eq_true rfl) (by omega) (by omega) (uph_s rfl) (uph_s rfl) (uph_s rfl) (uph_s (by (repeat rw [up2_o (by omega)]) <;> exact hR _ (by omega))) ?_
  refine V_putRF (pc := 184) rfl fw_X12_77_12 rfl rfl dX12_init_184 (by decide) rfl ?_
  refine V_aload_n (pc := 187) 0 dX12_init_187 rfl rfl ?_
  refine V_bipush (pc := 188) (v := 8) dX12_init_188 rfl ?_
  refine V_newa (pc := 190) (t := 0) (ty := .int) (N := 8) (sh' := shF) (I' := vI0) (L' := vL0) rfl rfl (by decide) rfl kac_int dX12_init_190 rfl (Nat.le_of_ble_eq_true rfl) (by omega) (by omega) (uph_s rfl) (uph_s rfl) (uph_s rfl) (uph_s (by (repeat rw [up2_o (by omega)]) <;> exact hR _ (by omega))) ?_
  refine V_putRF (pc := 192) rfl fw_X12_80_12 rfl rfl dX12_init_192 (by decide) rfl ?_
  refine V_aload_n (pc := 195) 0 dX12_init_195 rfl rfl ?_
  refine V_bipush (pc := 196) (v := 8) dX12_init_196 rfl ?_
  refine V_newa (pc := 198) (t := 0) (ty := .int) (N := 8) (sh' := shF) (I' := vI0) (L' := vL0) rfl rfl (by decide) rfl kac_int dX12_init_198 rfl (Nat.le_of_ble_eq_true rfl) (by omega) (by omega) (uph_s rfl) (uph_s rfl) (uph_s rfl) (uph_s (by (repeat rw [up2_o (by omega)]) <;> exact hR _ (by omega))) ?_
  refine V_putRF (pc := 200) rfl fw_X12_83_12 rfl rfl dX12_init_200 (by decide) rfl ?_
  refine V_aload_n (pc := 203) 0 dX12_init_203 rfl rfl ?_
  refine V_bipush (pc := 204) (v := 64) dX12_init_204 rfl ?_
  refine V_newa (pc := 206) (t := 0) (ty := .int) (N := 64) (sh' := shF) (I' := vI0) (L' := vL0) rfl rfl (by decide) rfl kac_int dX12_init_206 rfl (Nat.le_of_ble_eq_true rfl) (by omega) (by omega) (uph_s rfl) (uph_s rfl) (uph_s rfl) (uph_s (by (repeat rw [up2_o (by omega)]) <;> exact hR _ (by omega))) ?_
  refine V_putRF (pc := 208) rfl fw_X12_86_12 rfl rfl dX12_init_208 (by decide) rfl ?_
  refine V_aload_n (pc := 211) 0 dX12_init_211 rfl rfl ?_
  refine V_bipush (pc := 212) (v := 64) dX12_init_212 rfl ?_
  refine V_newa (pc := 214) (t := 0) (ty := .int) (N := 64) (sh' := shF) (I' := vI0) (L' := vL0) rfl rfl (by decide) rfl kac_int dX12_init_214 rfl (Nat.le_of_ble_eq_true rfl) (by omega) (by omega) (uph_s rfl) (uph_s rfl) (uph_s rfl) (uph_s (by (repeat rw [up2_o (by omega)]) <;> exact hR _ (by omega))) ?_
  refine V_putRF (pc := 216) rfl fw_X12_89_12 rfl rfl dX12_init_216 (by decide) rfl ?_
  refine V_aload_n (pc := 219) 0 dX12_init_219 rfl rfl ?_
  refine V_bipush (pc := 220) (v := 64) dX12_init_220 rfl ?_
  refine V_newa (pc := 222) (t := 0) (ty := .int) (N := 64) (sh' := shF) (I' := vI0) (L' := vL0) rfl rfl (by decide) rfl kac_int dX12_init_222 rfl (Nat.le_of_ble_eq_true rfl) (by omega) (by omega) (uph_s rfl) (uph_s rfl) (uph_s rfl) (uph_s (by (repeat rw [up2_o (by omega)]) <;> exact hR _ (by omega))) ?_
  refine V_putRF (pc := 224) rfl fw_X12_92_12 rfl rfl dX12_init_224 (by decide) rfl ?_
  refine V_iconst (pc := 227) (v := 0) dX12_init_227 rfl ?_
  refine V_istore_n (pc := 228) (lo' := [(0, .ref (ad G 27)), (1, .int 0)]) dX12_init_228 rfl (by decide) rfl ?_
  refine V_iload_n (pc := 229) 1 dX12_init_229 rfl rfl ?_
  refine V_iconst (pc := 230) (v := 4) dX12_init_230 rfl ?_
  refine V_icmp_ge (pc := 231) (tgt := 247) dX12_init_231 (by decide) (fun c_231_1 => ?_) (fun c_231_1 => ?_)
  · exact absurd c_231_1 (by decide)
  · skip
    refine V_aload_n (pc := 234) 0 dX12_init_234 rfl rfl ?_
    refine V_getR (pc := 235) (j := 34) fk_X12_29_12 rfl dX12_init_235 (by decide) rfl ?_
    refine V_iload_n (pc := 238) 1 dX12_init_238 rfl rfl ?_
    refine V_iconst (pc := 239) (v := (-1)) dX12_init_239 rfl ?_
    refine V_iask (pc := 240) (k := 0) dX12_init_240 (by decide) rfl rfl (by omega) ?_
    refine V_iinc (pc := 241) (v := 1) (lo' := [(0, .ref (ad G 27)), (1, .int 1)]) 1 dX12_init_241 rfl (by decide) (by decide) rfl ?_
    refine V_goto (pc := 244) (tgt := 229) dX12_init_244 (by decide) ?_
    refine V_iload_n (pc := 229) 1 dX12_init_229 rfl rfl ?_
    refine V_iconst (pc := 230) (v := 4) dX12_init_230 rfl ?_
    refine V_icmp_ge (pc := 231) (tgt := 247) dX12_init_231 (by decide) (fun c_231_3 => ?_) (fun c_231_3 => ?_)
    · exact absurd c_231_3 (by decide)
    · skip
      refine V_aload_n (pc := 234) 0 dX12_init_234 rfl rfl ?_
      refine V_getR (pc := 235) (j := 34) fk_X12_29_12 rfl dX12_init_235 (by decide) rfl ?_
      refine V_iload_n (pc := 238) 1 dX12_init_238 rfl rfl ?_
      refine V_iconst (pc := 239) (v := (-1)) dX12_init_239 rfl ?_
      refine V_iask (pc := 240) (k := 1) dX12_init_240 (by decide) rfl rfl (by omega) ?_
      refine V_iinc (pc := 241) (v := 2) (lo' := [(0, .ref (ad G 27)), (1, .int 2)]) 1 dX12_init_241 rfl (by decide) (by decide) rfl ?_
      refine V_goto (pc := 244) (tgt := 229) dX12_init_244 (by decide) ?_
      refine V_iload_n (pc := 229) 1 dX12_init_229 rfl rfl ?_
      refine V_iconst (pc := 230) (v := 4) dX12_init_230 rfl ?_
      refine V_icmp_ge (pc := 231) (tgt := 247) dX12_init_231 (by decide) (fun c_231_5 => ?_) (fun c_231_5 => ?_)
      · exact absurd c_231_5 (by decide)
      · skip
        refine V_aload_n (pc := 234) 0 dX12_init_234 rfl rfl ?_
        refine V_getR (pc := 235) (j := 34) fk_X12_29_12 rfl dX12_init_235 (by decide) rfl ?_
        refine V_iload_n (pc := 238) 1 dX12_init_238 rfl rfl ?_
        refine V_iconst (pc := 239) (v := (-1)) dX12_init_239 rfl ?_
        refine V_iask (pc := 240) (k := 2) dX12_init_240 (by decide) rfl rfl (by omega) ?_
        refine V_iinc (pc := 241) (v := 3) (lo' := [(0, .ref (ad G 27)), (1, .int 3)]) 1 dX12_init_241 rfl (by decide) (by decide) rfl ?_
        refine V_goto (pc := 244) (tgt := 229) dX12_init_244 (by decide) ?_
        refine V_iload_n (pc := 229) 1 dX12_init_229 rfl rfl ?_
        refine V_iconst (pc := 230) (v := 4) dX12_init_230 rfl ?_
        refine V_icmp_ge (pc := 231) (tgt := 247) dX12_init_231 (by decide) (fun c_231_7 => ?_) (fun c_231_7 => ?_)
        · exact absurd c_231_7 (by decide)
        · skip
          refine V_aload_n (pc := 234) 0 dX12_init_234 rfl rfl ?_
          refine V_getR (pc := 235) (j := 34) fk_X12_29_12 rfl dX12_init_235 (by decide) rfl ?_
          refine V_iload_n (pc := 238) 1 dX12_init_238 rfl rfl ?_
          refine V_iconst (pc := 239) (v := (-1)) dX12_init_239 rfl ?_
          refine V_iask (pc := 240) (k := 3) dX12_init_240 (by decide) rfl rfl (by omega) ?_
          refine V_iinc (pc := 241) (v := 4) (lo' := [(0, .ref (ad G 27)), (1, .int 4)]) 1 dX12_init_241 rfl (by decide) (by decide) rfl ?_
          refine V_goto (pc := 244) (tgt := 229) dX12_init_244 (by decide) ?_
          refine V_iload_n (pc := 229) 1 dX12_init_229 rfl rfl ?_
          refine V_iconst (pc := 230) (v := 4) dX12_init_230 rfl ?_
          refine V_icmp_ge (pc := 231) (tgt := 247) dX12_init_231 (by decide) (fun c_231_9 => ?_) (fun c_231_9 => ?_)
          · skip
            refine V_aload_n (pc := 247) 0 dX12_init_247 rfl rfl ?_
            refine V_iconst (pc := 248) (v := 0) dX12_init_248 rfl ?_
            refine V_putI (pc := 249) fw_X12_95_12 rfl rfl dX12_init_249 (by decide) rfl ?_
            refine V_vret (pc := 252) rfl dX12_init_252 (by omega) (by omega) ?_
            exact ⟨rfl, rfl, rfl, rfl, rfl, rfl⟩
          · exact absurd c_231_9 (by decide)
