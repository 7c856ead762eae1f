abbrev vR0 : vR := fun _ _ => none
/-- the fixed part of the class, of the reference too -/
def vR1 : vR := (up2 (up2 (up2 (up2 (up2 (up2 (up2 (up2 (up2 (up2 (up2 (up2 (up2 (up2 (up2 (up2 (up2 (up2 (up2 (up2 (up2 (up2 (up2 (up2 (up2 (up2 vR0 0 0 (some 1)) 2 0 (some 3)) 0 2 (some 2)) 4 0 (some 5)) 4 1 (some 6)) 4 2 (some 7)) 4 3 (some 8)) 4 5 (some 9)) 4 9 (some 10)) 0 3 (some 4)) 11 0 (some 12)) 11 1 (some 13)) 11 4 (some 14)) 11 5 (some 15)) 0 4 (some 11)) 0 5 (some 16)) 0 7 (some 17)) 0 9 (some 18)) 19 0 (some 20)) 18 0 (some 19)) 21 0 (some 22)) 18 1 (some 21)) 23 0 (some 24)) 18 2 (some 23)) 25 0 (some 26)) 18 3 (some 25))
def vR2 : vR := (up2 (up2 (up2 (up2 (up2 (up2 (up2 (up2 (up2 (up2 (up2 (up2 (up2 (up2 (up2 (up2 (up2 (up2 (up2 (up2 (up2 (up2 (up2 (up2 (up2 (up2 (up2 (up2 vR1 27 2 (some 28)) 27 3 (some 29)) 27 4 (some 30)) 27 5 (some 31)) 27 6 (some 32)) 27 7 (some 33)) 27 8 (some 34)) 27 9 (some 35)) 27 10 (some 36)) 27 11 (some 37)) 27 13 (some 38)) 27 17 (some 39)) 27 20 (some 40)) 27 21 (some 41)) 27 22 (some 42)) 27 23 (some 43)) 27 26 (some 44)) 27 28 (some 45)) 27 29 (some 46)) 27 31 (some 47)) 27 32 (some 48)) 27 33 (some 49)) 27 34 (some 50)) 27 36 (some 51)) 27 37 (some 52)) 27 39 (some 53)) 27 40 (some 54)) 27 41 (some 55))
def vI1 : vI := (up2 (up2 (up2 (up2 (up2 vI0 34 0 (-1)) 34 1 (-1)) 34 2 (-1)) 34 3 (-1)) 27 24 0)
theorem mx_s {J : vI} : mx J J = J := funext fun a => by
  by_cases q : 27 ≤ a ∧ a ≤ 55
  · exact mx_i q
  · exact mx_o q
set_option maxRecDepth 100000 in
set_option maxHeartbeats 4000000 in
theorem WF_start : WF 56 shF vR2 := ⟨Nat.le_refl _, fun _ _ => rfl, fun i k j e => by
  unfold rF at e
  split at e <;> first | (cases e; rfl) | cases e⟩
set_option maxRecDepth 100000 in
set_option maxHeartbeats 4000000 in
theorem JZ_start : JZ 0 56 shF vI1 vL0 vR2 vI1 := by
  have z0 : (0 : Int32).toInt = 0 := rfl
  refine ⟨⟨WF_start, ?_, ?_, ?_, ?_, ⟨rfl, rfl⟩, ?_, ⟨rfl, rfl, fun _ => rfl⟩, ?_, ?_⟩, ?_⟩
  · exact ⟨rfl, ⟨by decide, by decide⟩, fun r hr => absurd hr (by show ¬ (r : Int) < 0; omega), fun r r' hr => absurd hr (by show ¬ (r : Int) < 0; omega)⟩
  · exact ⟨rfl, ⟨by decide, by decide⟩, fun r hr => absurd hr (by show ¬ (r : Int) < 0; omega), fun r r' hr => absurd hr (by show ¬ (r : Int) < 0; omega)⟩
  · exact ⟨rfl, ⟨by decide, by decide⟩, fun r hr => absurd hr (by show ¬ (r : Int) < 0; omega), fun r r' _ hr => absurd hr (by show ¬ (r' : Int) < 0; omega)⟩
  · intro q hq
    rcases (show q = 0 ∨ q = 1 ∨ q = 2 ∨ q = 3 by omega) with rfl | rfl | rfl | rfl <;> exact Or.inr ⟨rfl, rfl⟩
  · exact ⟨rfl, fun _ => rfl, ⟨by decide, by decide⟩, fun h => absurd rfl h⟩
  · refine ⟨rfl, rfl, rfl, fun _ => rfl, fun _ => rfl, fun _ => rfl, fun m hm => absurd hm (by show ¬ (m : Int) < 0; omega), ⟨by decide, by decide⟩, ⟨by decide, by decide⟩, ⟨by decide, by decide⟩, fun m hm => absurd hm (by show ¬ (m : Int) < 0; omega), fun m hm => absurd hm (by show ¬ (m : Int) < 0; omega), fun h => absurd rfl h⟩
  · refine ⟨fun i => ?_, fun i => ?_, fun i => ?_, fun r _ => ⟨?_, ?_, ?_⟩, by decide⟩
    · show 0 ≤ (0 : Int32).toInt ∧ (0 : Int32).toInt ≤ 1000000; decide
    · show 0 ≤ (0 : Int32).toInt ∧ (0 : Int32).toInt ≤ 500000; decide
    · show 0 ≤ (0 : Int32).toInt; decide
    · show 0 ≤ (0 : Int32).toInt ∧ (0 : Int32).toInt ≤ 9; decide
    · show 0 ≤ (0 : Int32).toInt ∧ (0 : Int32).toInt ≤ 9; decide
    · show 0 ≤ (0 : Int32).toInt ∧ (0 : Int32).toInt ≤ 20000; decide
  · exact ⟨fun _ _ => ⟨rfl, rfl⟩, fun _ _ _ _ => ⟨rfl, rfl⟩, fun _ => rfl, by decide⟩
set_option maxRecDepth 100000 in
set_option maxHeartbeats 4000000 in
theorem law_walk (G : vG) {sb Ln : Nat} {xs : Nat → Int32} (hL : Ln ≤ 3072) : VS G sb Ln xs 0 [(0, .ref sb)] [] 0 0 0 shF vI0 vL0 vR0 := by
  refine VS_new11 (pc := 0) (sh' := shF) (I' := vI0) (L' := vL0) (R' := vR0) ⟨kl_L_7, kin_X11, kini_X11⟩ dL_law_0 (by omega) (by omega) (uph_s rfl) (uph_s rfl) (uph_s rfl) (uph_s rfl) ?_
  refine VS_dup (pc := 3) dL_law_3 rfl ?_
  refine VS_callI (pc := 4) (As := []) (st := [.ref (ad G 0)]) (c_X11_init G (R := vR0) (fun i hi => rfl)) mf_X11_init ml_L_9 ii_X11_init dL_law_4 rfl rfl (by omega) (by omega) (by omega) (Nat.le_of_ble_eq_true rfl) (fun r1 n1 sh1 I1 L1 R1 hq1 => ?_)
  obtain ⟨rfl, rfl, rfl, rfl, rfl, hR1⟩ := hq1
  obtain rfl : vR1 = R1 := hR1
  refine VS_astore_n (pc := 7) (lo' := [(0, .ref sb), (1, .ref (ad G 0))]) dL_law_7 rfl (by decide) rfl ?_
  refine VS_new12 (pc := 8) (sh' := shF) (I' := vI0) (L' := vL0) (R' := vR1) ⟨kl_L_10, kin_X12, kini_X12⟩ dL_law_8 (by omega) (by omega) (uph_s rfl) (uph_s rfl) (uph_s rfl) (uph_s rfl) ?_
  refine VS_dup (pc := 11) dL_law_11 rfl ?_
  refine VS_callI (pc := 12) (As := []) (st := [.ref (ad G 27)]) (c_X12_init G (R := vR1) (fun i hi => by unfold vR1; (repeat rw [up2_o (by omega)]))) mf_X12_init ml_L_12 ii_X12_init dL_law_12 rfl rfl (by omega) (by omega) (by omega) (Nat.le_of_ble_eq_true rfl) (fun r2 n2 sh2 I2 L2 R2 hq2 => ?_)
  obtain ⟨rfl, rfl, rfl, hI2, rfl, hR2⟩ := hq2
  obtain rfl : vR2 = R2 := hR2
  obtain rfl : vI1 = I2 := hI2
  refine VS_astore_n (pc := 15) (lo' := [(0, .ref sb), (1, .ref (ad G 0)), (2, .ref (ad G 27))]) dL_law_15 rfl (by decide) rfl ?_
  refine VS_iconst (pc := 16) (v := 0) dL_law_16 rfl ?_
  refine VS_istore_n (pc := 17) (lo' := [(0, .ref sb), (1, .ref (ad G 0)), (2, .ref (ad G 27)), (3, .int 0)]) dL_law_17 rfl (by decide) rfl ?_
  have hJ : JZ ((0 : Nat) : Int) 56 shF (mx vI1 vI1) vL0 vR2 vI1 := by rw [mx_s]; exact JZ_start
  rw [← mx_s (J := vI1)]
  exact law_loop G hL Ln 0 0 56 shF vI1 vI1 vL0 vR2 _ _ (by omega) (by omega) hJ rfl (by omega) (by omega)
