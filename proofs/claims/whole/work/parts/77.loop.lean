set_option maxRecDepth 100000 in
set_option maxHeartbeats 4000000 in
theorem law_loop (G : vG) {sb Ln : Nat} {xs : Nat → Int32} (hL : Ln ≤ 3072) : ∀ (f t : Nat) (i : Int32) (n : Nat) (sh : vS) (J X : vI) (L : vL) (R : vR) (ce sl : Nat), Ln < 6 * (t + f) + 6 → t ≤ 512 → JZ (t : Int) n sh (mx J X) L R X → i.toInt = 6 * (t : Int) → ce ≤ 60 + 4 * t → sl ≤ 1500 + 40 * t → VS G sb Ln xs 18 [(0, .ref sb), (1, .ref (ad G 0)), (2, .ref (ad G 27)), (3, .int i)] [] ce sl n sh (mx J X) L R := by
  have hLt : (Int32.ofNat Ln).toInt = (Ln : Int) := nI_toInt (by omega)
  have h6 : (6 : Int32).toInt = 6 := rfl
  intro f
  induction f with
  | zero =>
    intro t i n sh J X L R ce sl hf ht hJ hi hce hsl
    refine VS_iload_n (pc := 18) 3 dL_law_18 rfl rfl ?_
    refine VS_aload_n (pc := 19) 0 dL_law_19 rfl rfl ?_
    refine VS_slen (pc := 20) dL_law_20 ?_
    refine VS_bipush (pc := 21) (v := 6) dL_law_21 rfl ?_
    refine VS_isub (pc := 23) dL_law_23 (fun z ez => ?_)
    have tz : z.toInt = (Ln : Int) - 6 := subT ez hLt rfl (by omega) (by omega)
    refine VS_icmp_gt (pc := 24) (tgt := 1338) dL_law_24 (by decide) (fun c => ?_) (fun c => ?_)
    · refine VS_iconst (pc := 1338) (v := 1) dL_law_1338 rfl ?_
      exact VS_end dL_law_1339 (by omega) (by omega)
    · exfalso; omega
  | succ f ih =>
    intro t i n sh J X L R ce sl hf ht hJ hi hce hsl
    have K : ∀ (n' : Nat) (sh' : vS) (J' : vI) (L' : vL) (R' : vR) (X' : vI) (ce' sl' : Nat), 6 * t + 6 ≤ Ln → JZ ((t : Int) + 1) n' sh' (mx J' X') L' R' X' → ce' ≤ 60 + 4 * (t + 1) → sl' ≤ 1500 + 40 * (t + 1) → VS G sb Ln xs 1332 [(0, .ref sb), (1, .ref (ad G 0)), (2, .ref (ad G 27)), (3, .int i)] [] ce' sl' n' sh' (mx J' X') L' R' := by
      intro n' sh' J' L' R' X' ce' sl' hle hJ' hce' hsl'
      obtain ⟨y, ey⟩ : ∃ y : Int32, y = i + 6 := ⟨_, rfl⟩
      have ty : y.toInt = i.toInt + 6 := addT ey rfl rfl (by omega) (by omega)
      refine VS_iinc (pc := 1332) (v := y) (lo' := [(0, .ref sb), (1, .ref (ad G 0)), (2, .ref (ad G 27)), (3, .int y)]) 3 dL_law_1332 rfl ey.symm (by decide) rfl ?_
      refine VS_goto (pc := 1335) (tgt := 18) dL_law_1335 (by decide) ?_
      exact ih (t + 1) y n' sh' J' X' L' R' ce' sl' (by omega) (by omega) hJ' (by omega) (by omega) (by omega)
    refine VS_iload_n (pc := 18) 3 dL_law_18 rfl rfl ?_
    refine VS_aload_n (pc := 19) 0 dL_law_19 rfl rfl ?_
    refine VS_slen (pc := 20) dL_law_20 ?_
    refine VS_bipush (pc := 21) (v := 6) dL_law_21 rfl ?_
    refine VS_isub (pc := 23) dL_law_23 (fun z ez => ?_)
    have tz : z.toInt = (Ln : Int) - 6 := subT ez hLt rfl (by omega) (by omega)
    refine VS_icmp_gt (pc := 24) (tgt := 1338) dL_law_24 (by decide) (fun c => ?_) (fun c => ?_)
    · refine VS_iconst (pc := 1338) (v := 1) dL_law_1338 rfl ?_
      exact VS_end dL_law_1339 (by omega) (by omega)
    · have hle : 6 * t + 6 ≤ Ln := by omega
      refine VS_aload_n (pc := 27) 0 dL_law_27 rfl rfl ?_
      refine VS_iload_n (pc := 28) 3 dL_law_28 rfl rfl ?_
      refine VS_saldk (pc := 29) (j := 6 * t) dL_law_29 (by omega) (by omega) ?_
      refine VS_bipush (pc := 30) (v := 63) dL_law_30 rfl ?_
      refine VS_iand (pc := 32) dL_law_32 (fun x ex => ?_)
      by_cases hx : 0 ≤ x.toInt ∧ x.toInt ≤ 32
      · rcases (show x.toInt = 0 ∨ x.toInt = 1 ∨ x.toInt = 2 ∨ x.toInt = 3 ∨ x.toInt = 4 ∨ x.toInt = 5 ∨ x.toInt = 6 ∨ x.toInt = 7 ∨ x.toInt = 8 ∨ x.toInt = 9 ∨ x.toInt = 10 ∨ x.toInt = 11 ∨ x.toInt = 12 ∨ x.toInt = 13 ∨ x.toInt = 14 ∨ x.toInt = 15 ∨ x.toInt = 16 ∨ x.toInt = 17 ∨ x.toInt = 18 ∨ x.toInt = 19 ∨ x.toInt = 20 ∨ x.toInt = 21 ∨ x.toInt = 22 ∨ x.toInt = 23 ∨ x.toInt = 24 ∨ x.toInt = 25 ∨ x.toInt = 26 ∨ x.toInt = 27 ∨ x.toInt = 28 ∨ x.toInt = 29 ∨ x.toInt = 30 ∨ x.toInt = 31 ∨ x.toInt = 32 by omega) with kx | kx | kx | kx | kx | kx | kx | kx | kx | kx | kx | kx | kx | kx | kx | kx | kx | kx | kx | kx | kx | kx | kx | kx | kx | kx | kx | kx | kx | kx | kx | kx | kx
        · refine VS_tableIn (pc := 33) (tgt := 180) (off := 147) dL_law_33 (by omega) (by omega) (by rw [kx]; rfl) (by decide) ?_
          exact law_c0 G t i hJ hi hle hL hce hsl (fun n' sh' J' L' R' X' ce' sl' => K n' sh' J' L' R' X' ce' sl' hle)
        · refine VS_tableIn (pc := 33) (tgt := 233) (off := 200) dL_law_33 (by omega) (by omega) (by rw [kx]; rfl) (by decide) ?_
          exact law_c1 G t i hJ hi hle hL hce hsl (fun n' sh' J' L' R' X' ce' sl' => K n' sh' J' L' R' X' ce' sl' hle)
        · refine VS_tableIn (pc := 33) (tgt := 282) (off := 249) dL_law_33 (by omega) (by omega) (by rw [kx]; rfl) (by decide) ?_
          exact law_c2 G t i hJ hi hle hL hce hsl (fun n' sh' J' L' R' X' ce' sl' => K n' sh' J' L' R' X' ce' sl' hle)
        · refine VS_tableIn (pc := 33) (tgt := 331) (off := 298) dL_law_33 (by omega) (by omega) (by rw [kx]; rfl) (by decide) ?_
          exact law_c3 G t i hJ hi hle hL hce hsl (fun n' sh' J' L' R' X' ce' sl' => K n' sh' J' L' R' X' ce' sl' hle)
        · refine VS_tableIn (pc := 33) (tgt := 364) (off := 331) dL_law_33 (by omega) (by omega) (by rw [kx]; rfl) (by decide) ?_
          exact law_c4 G t i hJ hi hle hL hce hsl (fun n' sh' J' L' R' X' ce' sl' => K n' sh' J' L' R' X' ce' sl' hle)
        · refine VS_tableIn (pc := 33) (tgt := 417) (off := 384) dL_law_33 (by omega) (by omega) (by rw [kx]; rfl) (by decide) ?_
          exact law_c5 G t i hJ hi hle hL hce hsl (fun n' sh' J' L' R' X' ce' sl' => K n' sh' J' L' R' X' ce' sl' hle)
        · refine VS_tableIn (pc := 33) (tgt := 430) (off := 397) dL_law_33 (by omega) (by omega) (by rw [kx]; rfl) (by decide) ?_
          exact law_c6 G t i hJ hi hle hL hce hsl (fun n' sh' J' L' R' X' ce' sl' => K n' sh' J' L' R' X' ce' sl' hle)
        · refine VS_tableIn (pc := 33) (tgt := 443) (off := 410) dL_law_33 (by omega) (by omega) (by rw [kx]; rfl) (by decide) ?_
          exact law_c7 G t i hJ hi hle hL hce hsl (fun n' sh' J' L' R' X' ce' sl' => K n' sh' J' L' R' X' ce' sl' hle)
        · refine VS_tableIn (pc := 33) (tgt := 466) (off := 433) dL_law_33 (by omega) (by omega) (by rw [kx]; rfl) (by decide) ?_
          exact law_c8 G t i hJ hi hle hL hce hsl (fun n' sh' J' L' R' X' ce' sl' => K n' sh' J' L' R' X' ce' sl' hle)
        · refine VS_tableIn (pc := 33) (tgt := 520) (off := 487) dL_law_33 (by omega) (by omega) (by rw [kx]; rfl) (by decide) ?_
          exact law_c9 G t i hJ hi hle hL hce hsl (fun n' sh' J' L' R' X' ce' sl' => K n' sh' J' L' R' X' ce' sl' hle)
        · refine VS_tableIn (pc := 33) (tgt := 553) (off := 520) dL_law_33 (by omega) (by omega) (by rw [kx]; rfl) (by decide) ?_
          exact law_c10 G t i hJ hi hle hL hce hsl (fun n' sh' J' L' R' X' ce' sl' => K n' sh' J' L' R' X' ce' sl' hle)
        · refine VS_tableIn (pc := 33) (tgt := 577) (off := 544) dL_law_33 (by omega) (by omega) (by rw [kx]; rfl) (by decide) ?_
          exact law_c11 G t i hJ hi hle hL hce hsl (fun n' sh' J' L' R' X' ce' sl' => K n' sh' J' L' R' X' ce' sl' hle)
        · refine VS_tableIn (pc := 33) (tgt := 600) (off := 567) dL_law_33 (by omega) (by omega) (by rw [kx]; rfl) (by decide) ?_
          exact law_c12 G t i hJ hi hle hL hce hsl (fun n' sh' J' L' R' X' ce' sl' => K n' sh' J' L' R' X' ce' sl' hle)
        · refine VS_tableIn (pc := 33) (tgt := 623) (off := 590) dL_law_33 (by omega) (by omega) (by rw [kx]; rfl) (by decide) ?_
          exact law_c13 G t i hJ hi hle hL hce hsl (fun n' sh' J' L' R' X' ce' sl' => K n' sh' J' L' R' X' ce' sl' hle)
        · refine VS_tableIn (pc := 33) (tgt := 686) (off := 653) dL_law_33 (by omega) (by omega) (by rw [kx]; rfl) (by decide) ?_
          exact law_c14 G t i hJ hi hle hL hce hsl (fun n' sh' J' L' R' X' ce' sl' => K n' sh' J' L' R' X' ce' sl' hle)
        · refine VS_tableIn (pc := 33) (tgt := 720) (off := 687) dL_law_33 (by omega) (by omega) (by rw [kx]; rfl) (by decide) ?_
          exact law_c15 G t i hJ hi hle hL hce hsl (fun n' sh' J' L' R' X' ce' sl' => K n' sh' J' L' R' X' ce' sl' hle)
        · refine VS_tableIn (pc := 33) (tgt := 769) (off := 736) dL_law_33 (by omega) (by omega) (by rw [kx]; rfl) (by decide) ?_
          exact law_c16 G t i hJ hi hle hL hce hsl (fun n' sh' J' L' R' X' ce' sl' => K n' sh' J' L' R' X' ce' sl' hle)
        · refine VS_tableIn (pc := 33) (tgt := 802) (off := 769) dL_law_33 (by omega) (by omega) (by rw [kx]; rfl) (by decide) ?_
          exact law_c17 G t i hJ hi hle hL hce hsl (fun n' sh' J' L' R' X' ce' sl' => K n' sh' J' L' R' X' ce' sl' hle)
        · refine VS_tableIn (pc := 33) (tgt := 845) (off := 812) dL_law_33 (by omega) (by omega) (by rw [kx]; rfl) (by decide) ?_
          exact law_c18 G t i hJ hi hle hL hce hsl (fun n' sh' J' L' R' X' ce' sl' => K n' sh' J' L' R' X' ce' sl' hle)
        · refine VS_tableIn (pc := 33) (tgt := 888) (off := 855) dL_law_33 (by omega) (by omega) (by rw [kx]; rfl) (by decide) ?_
          exact law_c19 G t i hJ hi hle hL hce hsl (fun n' sh' J' L' R' X' ce' sl' => K n' sh' J' L' R' X' ce' sl' hle)
        · refine VS_tableIn (pc := 33) (tgt := 922) (off := 889) dL_law_33 (by omega) (by omega) (by rw [kx]; rfl) (by decide) ?_
          exact law_c20 G t i hJ hi hle hL hce hsl (fun n' sh' J' L' R' X' ce' sl' => K n' sh' J' L' R' X' ce' sl' hle)
        · refine VS_tableIn (pc := 33) (tgt := 955) (off := 922) dL_law_33 (by omega) (by omega) (by rw [kx]; rfl) (by decide) ?_
          exact law_c21 G t i hJ hi hle hL hce hsl (fun n' sh' J' L' R' X' ce' sl' => K n' sh' J' L' R' X' ce' sl' hle)
        · refine VS_tableIn (pc := 33) (tgt := 988) (off := 955) dL_law_33 (by omega) (by omega) (by rw [kx]; rfl) (by decide) ?_
          exact law_c22 G t i hJ hi hle hL hce hsl (fun n' sh' J' L' R' X' ce' sl' => K n' sh' J' L' R' X' ce' sl' hle)
        · refine VS_tableIn (pc := 33) (tgt := 1031) (off := 998) dL_law_33 (by omega) (by omega) (by rw [kx]; rfl) (by decide) ?_
          exact law_c23 G t i hJ hi hle hL hce hsl (fun n' sh' J' L' R' X' ce' sl' => K n' sh' J' L' R' X' ce' sl' hle)
        · refine VS_tableIn (pc := 33) (tgt := 1054) (off := 1021) dL_law_33 (by omega) (by omega) (by rw [kx]; rfl) (by decide) ?_
          exact law_c24 G t i hJ hi hle hL hce hsl (fun n' sh' J' L' R' X' ce' sl' => K n' sh' J' L' R' X' ce' sl' hle)
        · refine VS_tableIn (pc := 33) (tgt := 1097) (off := 1064) dL_law_33 (by omega) (by omega) (by rw [kx]; rfl) (by decide) ?_
          exact law_c25 G t i hJ hi hle hL hce hsl (fun n' sh' J' L' R' X' ce' sl' => K n' sh' J' L' R' X' ce' sl' hle)
        · refine VS_tableIn (pc := 33) (tgt := 1141) (off := 1108) dL_law_33 (by omega) (by omega) (by rw [kx]; rfl) (by decide) ?_
          exact law_c26 G t i hJ hi hle hL hce hsl (fun n' sh' J' L' R' X' ce' sl' => K n' sh' J' L' R' X' ce' sl' hle)
        · refine VS_tableIn (pc := 33) (tgt := 1204) (off := 1171) dL_law_33 (by omega) (by omega) (by rw [kx]; rfl) (by decide) ?_
          exact law_c27 G t i hJ hi hle hL hce hsl (fun n' sh' J' L' R' X' ce' sl' => K n' sh' J' L' R' X' ce' sl' hle)
        · refine VS_tableIn (pc := 33) (tgt := 1227) (off := 1194) dL_law_33 (by omega) (by omega) (by rw [kx]; rfl) (by decide) ?_
          exact law_c28 G t i hJ hi hle hL hce hsl (fun n' sh' J' L' R' X' ce' sl' => K n' sh' J' L' R' X' ce' sl' hle)
        · refine VS_tableIn (pc := 33) (tgt := 1250) (off := 1217) dL_law_33 (by omega) (by omega) (by rw [kx]; rfl) (by decide) ?_
          exact law_c29 G t i hJ hi hle hL hce hsl (fun n' sh' J' L' R' X' ce' sl' => K n' sh' J' L' R' X' ce' sl' hle)
        · refine VS_tableIn (pc := 33) (tgt := 1283) (off := 1250) dL_law_33 (by omega) (by omega) (by rw [kx]; rfl) (by decide) ?_
          exact law_c30 G t i hJ hi hle hL hce hsl (fun n' sh' J' L' R' X' ce' sl' => K n' sh' J' L' R' X' ce' sl' hle)
        · refine VS_tableIn (pc := 33) (tgt := 1296) (off := 1263) dL_law_33 (by omega) (by omega) (by rw [kx]; rfl) (by decide) ?_
          exact law_c31 G t i hJ hi hle hL hce hsl (fun n' sh' J' L' R' X' ce' sl' => K n' sh' J' L' R' X' ce' sl' hle)
        · refine VS_tableIn (pc := 33) (tgt := 1309) (off := 1276) dL_law_33 (by omega) (by omega) (by rw [kx]; rfl) (by decide) ?_
          exact law_c32 G t i hJ hi hle hL hce hsl (fun n' sh' J' L' R' X' ce' sl' => K n' sh' J' L' R' X' ce' sl' hle)
      · refine VS_tableOut (pc := 33) (tgt := 1332) dL_law_33 (by omega) (by decide) ?_
        exact K n sh J L R X ce sl hle (JZ_le hJ (by omega)) (by omega) (by omega)
