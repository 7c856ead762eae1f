set_option maxRecDepth 100000 in
set_option maxHeartbeats 4000000 in
theorem law_c0 (G : vG) {sb Ln : Nat} {xs : Nat → Int32} {n ce sl : Nat} {sh : vS} {J X : vI} {L : vL} {R : vR} (t : Nat) (i : Int32) (hJ : JZ (t : Int) n sh (mx J X) L R X) (hi : i.toInt = 6 * (t : Int)) (hLn : 6 * t + 6 ≤ Ln) (hL : Ln ≤ 3072) (hce : ce ≤ 60 + 4 * t) (hsl : sl ≤ 1500 + 40 * t) (K : ∀ (n' : Nat) (sh' : vS) (J' : vI) (L' : vL) (R' : vR) (X' : vI) (ce' sl' : Nat), JZ ((t : Int) + 1) n' sh' (mx J' X') L' R' X' → ce' ≤ 60 + 4 * (t + 1) → sl' ≤ 1500 + 40 * (t + 1) → VS G sb Ln xs 1332 [(0, .ref sb), (1, .ref (ad G 0)), (2, .ref (ad G 27)), (3, .int i)] [] ce' sl' n' sh' (mx J' X') L' R') : VS G sb Ln xs 180 [(0, .ref sb), (1, .ref (ad G 0)), (2, .ref (ad G 27)), (3, .int i)] [] ce sl n sh (mx J X) L R := by
  have hw := hJ.1.1
  obtain ⟨h1, hs, h24, h27, h30, h35, hck, h25, hv, hpv, hcl, hld, h12, hlen, hE, hb0⟩ := XF hJ
  refine VS_aload_n (pc := 180) 1 dL_law_180 rfl rfl ?_
  refine VS_aload_n (pc := 181) 0 dL_law_181 rfl rfl ?_
  refine VS_iload_n (pc := 182) 3 dL_law_182 rfl rfl ?_
  refine VS_iconst (pc := 183) (v := 1) dL_law_183 rfl ?_
  refine VS_iadd (pc := 184) dL_law_184 (fun x_184_8 e_184_8 => ?_)
  have t_184_8 : x_184_8.toInt = i.toInt + 1 := addT e_184_8 rfl rfl (by omega) (by omega)
  refine VS_saldk (pc := 185) (j := 6 * t + 1) dL_law_185 (by omega) (by omega) ?_
  refine VS_aload_n (pc := 186) 0 dL_law_186 rfl rfl ?_
  refine VS_iload_n (pc := 187) 3 dL_law_187 rfl rfl ?_
  refine VS_iconst (pc := 188) (v := 2) dL_law_188 rfl ?_
  refine VS_iadd (pc := 189) dL_law_189 (fun x_189_14 e_189_14 => ?_)
  have t_189_14 : x_189_14.toInt = i.toInt + 2 := addT e_189_14 rfl rfl (by omega) (by omega)
  refine VS_saldk (pc := 190) (j := 6 * t + 2) dL_law_190 (by omega) (by omega) ?_
  refine VS_aload_n (pc := 191) 0 dL_law_191 rfl rfl ?_
  refine VS_iload_n (pc := 192) 3 dL_law_192 rfl rfl ?_
  refine VS_iconst (pc := 193) (v := 3) dL_law_193 rfl ?_
  refine VS_iadd (pc := 194) dL_law_194 (fun x_194_20 e_194_20 => ?_)
  have t_194_20 : x_194_20.toInt = i.toInt + 3 := addT e_194_20 rfl rfl (by omega) (by omega)
  refine VS_saldk (pc := 195) (j := 6 * t + 3) dL_law_195 (by omega) (by omega) ?_
  refine VS_aload_n (pc := 196) 0 dL_law_196 rfl rfl ?_
  refine VS_iload_n (pc := 197) 3 dL_law_197 rfl rfl ?_
  refine VS_iconst (pc := 198) (v := 4) dL_law_198 rfl ?_
  refine VS_iadd (pc := 199) dL_law_199 (fun x_199_26 e_199_26 => ?_)
  have t_199_26 : x_199_26.toInt = i.toInt + 4 := addT e_199_26 rfl rfl (by omega) (by omega)
  refine VS_saldk (pc := 200) (j := 6 * t + 4) dL_law_200 (by omega) (by omega) ?_
  refine VS_callV (pc := 201) (As := [.int (xs (6 * t + 1)), .int (xs (6 * t + 2)), .int (xs (6 * t + 3)), .int (xs (6 * t + 4))]) (st := []) (c_X11_road G (t : Int) X (xs (6 * t + 1)) (xs (6 * t + 2)) (xs (6 * t + 3)) (xs (6 * t + 4)) hJ ) mf_X11_road ml_L_13 iv_X11_road (wN hw (by decide)) (wS1 hw (by decide) rfl) (by decide) rfl dL_law_201 rfl rfl (by omega) (by omega) (by omega) (Nat.le_of_ble_eq_true rfl) (fun r1 n1 sh1 I1 L1 R1 hq1 => ?_)
  obtain ⟨hA, hfr, hw1, w1, rfl⟩ := hq1
  obtain ⟨J1, rfl⟩ : ∃ J1, I1 = mx J1 X := ⟨I1, mx_ag (fun a h1 h2 => (hfr a h1 h2).trans (congrFun (rfl : mx J X = mx J X) a |>.trans (mx_i ⟨h1, h2⟩)))⟩
  refine VS_aload_n (pc := 204) 2 dL_law_204 rfl rfl ?_
  refine VS_aload_n (pc := 205) 0 dL_law_205 rfl rfl ?_
  refine VS_iload_n (pc := 206) 3 dL_law_206 rfl rfl ?_
  refine VS_iconst (pc := 207) (v := 1) dL_law_207 rfl ?_
  refine VS_iadd (pc := 208) dL_law_208 (fun x_208_36 e_208_36 => ?_)
  have t_208_36 : x_208_36.toInt = i.toInt + 1 := addT e_208_36 rfl rfl (by omega) (by omega)
  refine VS_saldk (pc := 209) (j := 6 * t + 1) dL_law_209 (by omega) (by omega) ?_
  refine VS_aload_n (pc := 210) 0 dL_law_210 rfl rfl ?_
  refine VS_iload_n (pc := 211) 3 dL_law_211 rfl rfl ?_
  refine VS_iconst (pc := 212) (v := 2) dL_law_212 rfl ?_
  refine VS_iadd (pc := 213) dL_law_213 (fun x_213_42 e_213_42 => ?_)
  have t_213_42 : x_213_42.toInt = i.toInt + 2 := addT e_213_42 rfl rfl (by omega) (by omega)
  refine VS_saldk (pc := 214) (j := 6 * t + 2) dL_law_214 (by omega) (by omega) ?_
  refine VS_aload_n (pc := 215) 0 dL_law_215 rfl rfl ?_
  refine VS_iload_n (pc := 216) 3 dL_law_216 rfl rfl ?_
  refine VS_iconst (pc := 217) (v := 3) dL_law_217 rfl ?_
  refine VS_iadd (pc := 218) dL_law_218 (fun x_218_48 e_218_48 => ?_)
  have t_218_48 : x_218_48.toInt = i.toInt + 3 := addT e_218_48 rfl rfl (by omega) (by omega)
  refine VS_saldk (pc := 219) (j := 6 * t + 3) dL_law_219 (by omega) (by omega) ?_
  refine VS_aload_n (pc := 220) 0 dL_law_220 rfl rfl ?_
  refine VS_iload_n (pc := 221) 3 dL_law_221 rfl rfl ?_
  refine VS_iconst (pc := 222) (v := 4) dL_law_222 rfl ?_
  refine VS_iadd (pc := 223) dL_law_223 (fun x_223_54 e_223_54 => ?_)
  have t_223_54 : x_223_54.toInt = i.toInt + 4 := addT e_223_54 rfl rfl (by omega) (by omega)
  refine VS_saldk (pc := 224) (j := 6 * t + 4) dL_law_224 (by omega) (by omega) ?_
  refine VS_callV (pc := 225) (As := [.int (xs (6 * t + 1)), .int (xs (6 * t + 2)), .int (xs (6 * t + 3)), .int (xs (6 * t + 4))]) (st := [w1]) (c_X12_road G (xs (6 * t + 1)) (xs (6 * t + 2)) (xs (6 * t + 3)) (xs (6 * t + 4)) hw1 h1) mf_X12_road ml_L_17 iv_X12_road (wN hw1 (by decide)) (wS1 hw1 (by decide) rfl) (by decide) rfl dL_law_225 rfl rfl (by omega) (by omega) (by omega) (by have := cat2 w1; show w1.category + 0 ≤ 8; omega) (fun r2 n2 sh2 I2 L2 R2 hq2 => ?_)
  obtain ⟨rfl, rfl, rfl, rfl, hq2⟩ := hq2
  obtain ⟨X2, rfl, hp⟩ := Lo_qi Lp_sRoad hq2
  obtain ⟨e1, hJ3⟩ := two hA hp
  obtain ⟨v2, -, rfl⟩ := id hp
  obtain rfl := Option.some.inj e1
  refine VS_icmp_eq (pc := 228) (tgt := 1332) dL_law_228 (by decide) (fun _ => ?_) (fun c => absurd rfl c)
  exact K _ _ _ _ _ _ _ _ hJ3 (by omega) (by omega)
set_option maxRecDepth 100000 in
set_option maxHeartbeats 4000000 in
theorem law_c1 (G : vG) {sb Ln : Nat} {xs : Nat → Int32} {n ce sl : Nat} {sh : vS} {J X : vI} {L : vL} {R : vR} (t : Nat) (i : Int32) (hJ : JZ (t : Int) n sh (mx J X) L R X) (hi : i.toInt = 6 * (t : Int)) (hLn : 6 * t + 6 ≤ Ln) (hL : Ln ≤ 3072) (hce : ce ≤ 60 + 4 * t) (hsl : sl ≤ 1500 + 40 * t) (K : ∀ (n' : Nat) (sh' : vS) (J' : vI) (L' : vL) (R' : vR) (X' : vI) (ce' sl' : Nat), JZ ((t : Int) + 1) n' sh' (mx J' X') L' R' X' → ce' ≤ 60 + 4 * (t + 1) → sl' ≤ 1500 + 40 * (t + 1) → VS G sb Ln xs 1332 [(0, .ref sb), (1, .ref (ad G 0)), (2, .ref (ad G 27)), (3, .int i)] [] ce' sl' n' sh' (mx J' X') L' R') : VS G sb Ln xs 233 [(0, .ref sb), (1, .ref (ad G 0)), (2, .ref (ad G 27)), (3, .int i)] [] ce sl n sh (mx J X) L R := by
  have hw := hJ.1.1
  obtain ⟨h1, hs, h24, h27, h30, h35, hck, h25, hv, hpv, hcl, hld, h12, hlen, hE, hb0⟩ := XF hJ
  refine VS_aload_n (pc := 233) 1 dL_law_233 rfl rfl ?_
  refine VS_aload_n (pc := 234) 0 dL_law_234 rfl rfl ?_
  refine VS_iload_n (pc := 235) 3 dL_law_235 rfl rfl ?_
  refine VS_iconst (pc := 236) (v := 1) dL_law_236 rfl ?_
  refine VS_iadd (pc := 237) dL_law_237 (fun x_237_73 e_237_73 => ?_)
  have t_237_73 : x_237_73.toInt = i.toInt + 1 := addT e_237_73 rfl rfl (by omega) (by omega)
  refine VS_saldk (pc := 238) (j := 6 * t + 1) dL_law_238 (by omega) (by omega) ?_
  refine VS_aload_n (pc := 239) 0 dL_law_239 rfl rfl ?_
  refine VS_iload_n (pc := 240) 3 dL_law_240 rfl rfl ?_
  refine VS_iconst (pc := 241) (v := 2) dL_law_241 rfl ?_
  refine VS_iadd (pc := 242) dL_law_242 (fun x_242_79 e_242_79 => ?_)
  have t_242_79 : x_242_79.toInt = i.toInt + 2 := addT e_242_79 rfl rfl (by omega) (by omega)
  refine VS_saldk (pc := 243) (j := 6 * t + 2) dL_law_243 (by omega) (by omega) ?_
  refine VS_if_eq (pc := 244) (tgt := 251) dL_law_244 (by decide) (fun c_244 => ?_) (fun c_244 => ?_)
  · have d_244 : (xs (6 * t + 2)).toInt = 0 := c_244
    refine VS_iconst (pc := 251) (v := 0) dL_law_251 rfl ?_
    refine VS_callV (pc := 252) (As := [.int (xs (6 * t + 1)), .int 0]) (st := []) (c_X11_shut G (t : Int) X (xs (6 * t + 1)) 0 hJ (by decide)) mf_X11_shut ml_L_18 iv_X11_shut (wN hw (by decide)) (wS1 hw (by decide) rfl) (by decide) rfl dL_law_252 rfl rfl (by omega) (by omega) (by omega) (Nat.le_of_ble_eq_true rfl) (fun r1 n1 sh1 I1 L1 R1 hq1 => ?_)
    obtain ⟨hA, hfr, hw1, w1, rfl⟩ := hq1
    obtain ⟨J1, rfl⟩ : ∃ J1, I1 = mx J1 X := ⟨I1, mx_ag (fun a h1 h2 => (hfr a h1 h2).trans (congrFun (rfl : mx J X = mx J X) a |>.trans (mx_i ⟨h1, h2⟩)))⟩
    refine VS_aload_n (pc := 255) 2 dL_law_255 rfl rfl ?_
    refine VS_aload_n (pc := 256) 0 dL_law_256 rfl rfl ?_
    refine VS_iload_n (pc := 257) 3 dL_law_257 rfl rfl ?_
    refine VS_iconst (pc := 258) (v := 1) dL_law_258 rfl ?_
    refine VS_iadd (pc := 259) dL_law_259 (fun x_259_92 e_259_92 => ?_)
    have t_259_92 : x_259_92.toInt = i.toInt + 1 := addT e_259_92 rfl rfl (by omega) (by omega)
    refine VS_saldk (pc := 260) (j := 6 * t + 1) dL_law_260 (by omega) (by omega) ?_
    refine VS_aload_n (pc := 261) 0 dL_law_261 rfl rfl ?_
    refine VS_iload_n (pc := 262) 3 dL_law_262 rfl rfl ?_
    refine VS_iconst (pc := 263) (v := 2) dL_law_263 rfl ?_
    refine VS_iadd (pc := 264) dL_law_264 (fun x_264_98 e_264_98 => ?_)
    have t_264_98 : x_264_98.toInt = i.toInt + 2 := addT e_264_98 rfl rfl (by omega) (by omega)
    refine VS_saldk (pc := 265) (j := 6 * t + 2) dL_law_265 (by omega) (by omega) ?_
    refine VS_if_eq (pc := 266) (tgt := 273) dL_law_266 (by decide) (fun c_266 => ?_) (fun c_266 => ?_)
    · have d_266 : (xs (6 * t + 2)).toInt = 0 := c_266
      refine VS_iconst (pc := 273) (v := 0) dL_law_273 rfl ?_
      refine VS_callV (pc := 274) (As := [.int (xs (6 * t + 1)), .int 0]) (st := [w1]) (c_X12_shut G (xs (6 * t + 1)) 0 hw1 h1 (by decide)) mf_X12_shut ml_L_22 iv_X12_shut (wN hw1 (by decide)) (wS1 hw1 (by decide) rfl) (by decide) rfl dL_law_274 rfl rfl (by omega) (by omega) (by omega) (by have := cat2 w1; show w1.category + 0 ≤ 8; omega) (fun r2 n2 sh2 I2 L2 R2 hq2 => ?_)
      obtain ⟨rfl, rfl, rfl, rfl, hq2⟩ := hq2
      obtain ⟨X2, rfl, hp⟩ := Lo_qi Lp_sShut hq2
      obtain ⟨e1, hJ3⟩ := two hA hp
      obtain ⟨v2, -, rfl⟩ := id hp
      obtain rfl := Option.some.inj e1
      refine VS_icmp_eq (pc := 277) (tgt := 1332) dL_law_277 (by decide) (fun _ => ?_) (fun c => absurd rfl c)
      exact K _ _ _ _ _ _ _ _ hJ3 (by omega) (by omega)
    · exact absurd (by assumption) c_266
  · have d_244 : ¬ (xs (6 * t + 2)).toInt = 0 := c_244
    refine VS_iconst (pc := 247) (v := 1) dL_law_247 rfl ?_
    refine VS_goto (pc := 248) (tgt := 252) dL_law_248 (by decide) ?_
    refine VS_callV (pc := 252) (As := [.int (xs (6 * t + 1)), .int 1]) (st := []) (c_X11_shut G (t : Int) X (xs (6 * t + 1)) 1 hJ (by decide)) mf_X11_shut ml_L_18 iv_X11_shut (wN hw (by decide)) (wS1 hw (by decide) rfl) (by decide) rfl dL_law_252 rfl rfl (by omega) (by omega) (by omega) (Nat.le_of_ble_eq_true rfl) (fun r1 n1 sh1 I1 L1 R1 hq1 => ?_)
    obtain ⟨hA, hfr, hw1, w1, rfl⟩ := hq1
    obtain ⟨J1, rfl⟩ : ∃ J1, I1 = mx J1 X := ⟨I1, mx_ag (fun a h1 h2 => (hfr a h1 h2).trans (congrFun (rfl : mx J X = mx J X) a |>.trans (mx_i ⟨h1, h2⟩)))⟩
    refine VS_aload_n (pc := 255) 2 dL_law_255 rfl rfl ?_
    refine VS_aload_n (pc := 256) 0 dL_law_256 rfl rfl ?_
    refine VS_iload_n (pc := 257) 3 dL_law_257 rfl rfl ?_
    refine VS_iconst (pc := 258) (v := 1) dL_law_258 rfl ?_
    refine VS_iadd (pc := 259) dL_law_259 (fun x_259_123 e_259_123 => ?_)
    have t_259_123 : x_259_123.toInt = i.toInt + 1 := addT e_259_123 rfl rfl (by omega) (by omega)
    refine VS_saldk (pc := 260) (j := 6 * t + 1) dL_law_260 (by omega) (by omega) ?_
    refine VS_aload_n (pc := 261) 0 dL_law_261 rfl rfl ?_
    refine VS_iload_n (pc := 262) 3 dL_law_262 rfl rfl ?_
    refine VS_iconst (pc := 263) (v := 2) dL_law_263 rfl ?_
    refine VS_iadd (pc := 264) dL_law_264 (fun x_264_129 e_264_129 => ?_)
    have t_264_129 : x_264_129.toInt = i.toInt + 2 := addT e_264_129 rfl rfl (by omega) (by omega)
    refine VS_saldk (pc := 265) (j := 6 * t + 2) dL_law_265 (by omega) (by omega) ?_
    refine VS_if_eq (pc := 266) (tgt := 273) dL_law_266 (by decide) (fun c_266 => ?_) (fun c_266 => ?_)
    · exact absurd c_266 (by assumption)
    · have d_266 : ¬ (xs (6 * t + 2)).toInt = 0 := c_266
      refine VS_iconst (pc := 269) (v := 1) dL_law_269 rfl ?_
      refine VS_goto (pc := 270) (tgt := 274) dL_law_270 (by decide) ?_
      refine VS_callV (pc := 274) (As := [.int (xs (6 * t + 1)), .int 1]) (st := [w1]) (c_X12_shut G (xs (6 * t + 1)) 1 hw1 h1 (by decide)) mf_X12_shut ml_L_22 iv_X12_shut (wN hw1 (by decide)) (wS1 hw1 (by decide) rfl) (by decide) rfl dL_law_274 rfl rfl (by omega) (by omega) (by omega) (by have := cat2 w1; show w1.category + 0 ≤ 8; omega) (fun r2 n2 sh2 I2 L2 R2 hq2 => ?_)
      obtain ⟨rfl, rfl, rfl, rfl, hq2⟩ := hq2
      obtain ⟨X2, rfl, hp⟩ := Lo_qi Lp_sShut hq2
      obtain ⟨e1, hJ3⟩ := two hA hp
      obtain ⟨v2, -, rfl⟩ := id hp
      obtain rfl := Option.some.inj e1
      refine VS_icmp_eq (pc := 277) (tgt := 1332) dL_law_277 (by decide) (fun _ => ?_) (fun c => absurd rfl c)
      exact K _ _ _ _ _ _ _ _ hJ3 (by omega) (by omega)
set_option maxRecDepth 100000 in
set_option maxHeartbeats 4000000 in
theorem law_c2 (G : vG) {sb Ln : Nat} {xs : Nat → Int32} {n ce sl : Nat} {sh : vS} {J X : vI} {L : vL} {R : vR} (t : Nat) (i : Int32) (hJ : JZ (t : Int) n sh (mx J X) L R X) (hi : i.toInt = 6 * (t : Int)) (hLn : 6 * t + 6 ≤ Ln) (hL : Ln ≤ 3072) (hce : ce ≤ 60 + 4 * t) (hsl : sl ≤ 1500 + 40 * t) (K : ∀ (n' : Nat) (sh' : vS) (J' : vI) (L' : vL) (R' : vR) (X' : vI) (ce' sl' : Nat), JZ ((t : Int) + 1) n' sh' (mx J' X') L' R' X' → ce' ≤ 60 + 4 * (t + 1) → sl' ≤ 1500 + 40 * (t + 1) → VS G sb Ln xs 1332 [(0, .ref sb), (1, .ref (ad G 0)), (2, .ref (ad G 27)), (3, .int i)] [] ce' sl' n' sh' (mx J' X') L' R') : VS G sb Ln xs 282 [(0, .ref sb), (1, .ref (ad G 0)), (2, .ref (ad G 27)), (3, .int i)] [] ce sl n sh (mx J X) L R := by
  have hw := hJ.1.1
  obtain ⟨h1, hs, h24, h27, h30, h35, hck, h25, hv, hpv, hcl, hld, h12, hlen, hE, hb0⟩ := XF hJ
  refine VS_aload_n (pc := 282) 1 dL_law_282 rfl rfl ?_
  refine VS_aload_n (pc := 283) 0 dL_law_283 rfl rfl ?_
  refine VS_iload_n (pc := 284) 3 dL_law_284 rfl rfl ?_
  refine VS_iconst (pc := 285) (v := 1) dL_law_285 rfl ?_
  refine VS_iadd (pc := 286) dL_law_286 (fun x_286_153 e_286_153 => ?_)
  have t_286_153 : x_286_153.toInt = i.toInt + 1 := addT e_286_153 rfl rfl (by omega) (by omega)
  refine VS_saldk (pc := 287) (j := 6 * t + 1) dL_law_287 (by omega) (by omega) ?_
  refine VS_aload_n (pc := 288) 0 dL_law_288 rfl rfl ?_
  refine VS_iload_n (pc := 289) 3 dL_law_289 rfl rfl ?_
  refine VS_iconst (pc := 290) (v := 2) dL_law_290 rfl ?_
  refine VS_iadd (pc := 291) dL_law_291 (fun x_291_159 e_291_159 => ?_)
  have t_291_159 : x_291_159.toInt = i.toInt + 2 := addT e_291_159 rfl rfl (by omega) (by omega)
  refine VS_saldk (pc := 292) (j := 6 * t + 2) dL_law_292 (by omega) (by omega) ?_
  refine VS_if_eq (pc := 293) (tgt := 300) dL_law_293 (by decide) (fun c_293 => ?_) (fun c_293 => ?_)
  · have d_293 : (xs (6 * t + 2)).toInt = 0 := c_293
    refine VS_iconst (pc := 300) (v := 0) dL_law_300 rfl ?_
    refine VS_callV (pc := 301) (As := [.int (xs (6 * t + 1)), .int 0]) (st := []) (c_X11_wet G (t : Int) X (xs (6 * t + 1)) 0 hJ (by decide)) mf_X11_wet ml_L_23 iv_X11_wet (wN hw (by decide)) (wS1 hw (by decide) rfl) (by decide) rfl dL_law_301 rfl rfl (by omega) (by omega) (by omega) (Nat.le_of_ble_eq_true rfl) (fun r1 n1 sh1 I1 L1 R1 hq1 => ?_)
    obtain ⟨hA, hfr, hw1, w1, rfl⟩ := hq1
    obtain ⟨J1, rfl⟩ : ∃ J1, I1 = mx J1 X := ⟨I1, mx_ag (fun a h1 h2 => (hfr a h1 h2).trans (congrFun (rfl : mx J X = mx J X) a |>.trans (mx_i ⟨h1, h2⟩)))⟩
    refine VS_aload_n (pc := 304) 2 dL_law_304 rfl rfl ?_
    refine VS_aload_n (pc := 305) 0 dL_law_305 rfl rfl ?_
    refine VS_iload_n (pc := 306) 3 dL_law_306 rfl rfl ?_
    refine VS_iconst (pc := 307) (v := 1) dL_law_307 rfl ?_
    refine VS_iadd (pc := 308) dL_law_308 (fun x_308_172 e_308_172 => ?_)
    have t_308_172 : x_308_172.toInt = i.toInt + 1 := addT e_308_172 rfl rfl (by omega) (by omega)
    refine VS_saldk (pc := 309) (j := 6 * t + 1) dL_law_309 (by omega) (by omega) ?_
    refine VS_aload_n (pc := 310) 0 dL_law_310 rfl rfl ?_
    refine VS_iload_n (pc := 311) 3 dL_law_311 rfl rfl ?_
    refine VS_iconst (pc := 312) (v := 2) dL_law_312 rfl ?_
    refine VS_iadd (pc := 313) dL_law_313 (fun x_313_178 e_313_178 => ?_)
    have t_313_178 : x_313_178.toInt = i.toInt + 2 := addT e_313_178 rfl rfl (by omega) (by omega)
    refine VS_saldk (pc := 314) (j := 6 * t + 2) dL_law_314 (by omega) (by omega) ?_
    refine VS_if_eq (pc := 315) (tgt := 322) dL_law_315 (by decide) (fun c_315 => ?_) (fun c_315 => ?_)
    · have d_315 : (xs (6 * t + 2)).toInt = 0 := c_315
      refine VS_iconst (pc := 322) (v := 0) dL_law_322 rfl ?_
      refine VS_callV (pc := 323) (As := [.int (xs (6 * t + 1)), .int 0]) (st := [w1]) (c_X12_wet G (xs (6 * t + 1)) 0 hw1 h1 (by decide)) mf_X12_wet ml_L_26 iv_X12_wet (wN hw1 (by decide)) (wS1 hw1 (by decide) rfl) (by decide) rfl dL_law_323 rfl rfl (by omega) (by omega) (by omega) (by have := cat2 w1; show w1.category + 0 ≤ 8; omega) (fun r2 n2 sh2 I2 L2 R2 hq2 => ?_)
      obtain ⟨rfl, rfl, rfl, rfl, hq2⟩ := hq2
      obtain ⟨X2, rfl, hp⟩ := Lo_qi Lp_sWet hq2
      obtain ⟨e1, hJ3⟩ := two hA hp
      obtain ⟨v2, -, rfl⟩ := id hp
      obtain rfl := Option.some.inj e1
      refine VS_icmp_eq (pc := 326) (tgt := 1332) dL_law_326 (by decide) (fun _ => ?_) (fun c => absurd rfl c)
      exact K _ _ _ _ _ _ _ _ hJ3 (by omega) (by omega)
    · exact absurd (by assumption) c_315
  · have d_293 : ¬ (xs (6 * t + 2)).toInt = 0 := c_293
    refine VS_iconst (pc := 296) (v := 1) dL_law_296 rfl ?_
    refine VS_goto (pc := 297) (tgt := 301) dL_law_297 (by decide) ?_
    refine VS_callV (pc := 301) (As := [.int (xs (6 * t + 1)), .int 1]) (st := []) (c_X11_wet G (t : Int) X (xs (6 * t + 1)) 1 hJ (by decide)) mf_X11_wet ml_L_23 iv_X11_wet (wN hw (by decide)) (wS1 hw (by decide) rfl) (by decide) rfl dL_law_301 rfl rfl (by omega) (by omega) (by omega) (Nat.le_of_ble_eq_true rfl) (fun r1 n1 sh1 I1 L1 R1 hq1 => ?_)
    obtain ⟨hA, hfr, hw1, w1, rfl⟩ := hq1
    obtain ⟨J1, rfl⟩ : ∃ J1, I1 = mx J1 X := ⟨I1, mx_ag (fun a h1 h2 => (hfr a h1 h2).trans (congrFun (rfl : mx J X = mx J X) a |>.trans (mx_i ⟨h1, h2⟩)))⟩
    refine VS_aload_n (pc := 304) 2 dL_law_304 rfl rfl ?_
    refine VS_aload_n (pc := 305) 0 dL_law_305 rfl rfl ?_
    refine VS_iload_n (pc := 306) 3 dL_law_306 rfl rfl ?_
    refine VS_iconst (pc := 307) (v := 1) dL_law_307 rfl ?_
    refine VS_iadd (pc := 308) dL_law_308 (fun x_308_203 e_308_203 => ?_)
    have t_308_203 : x_308_203.toInt = i.toInt + 1 := addT e_308_203 rfl rfl (by omega) (by omega)
    refine VS_saldk (pc := 309) (j := 6 * t + 1) dL_law_309 (by omega) (by omega) ?_
    refine VS_aload_n (pc := 310) 0 dL_law_310 rfl rfl ?_
    refine VS_iload_n (pc := 311) 3 dL_law_311 rfl rfl ?_
    refine VS_iconst (pc := 312) (v := 2) dL_law_312 rfl ?_
    refine VS_iadd (pc := 313) dL_law_313 (fun x_313_209 e_313_209 => ?_)
    have t_313_209 : x_313_209.toInt = i.toInt + 2 := addT e_313_209 rfl rfl (by omega) (by omega)
    refine VS_saldk (pc := 314) (j := 6 * t + 2) dL_law_314 (by omega) (by omega) ?_
    refine VS_if_eq (pc := 315) (tgt := 322) dL_law_315 (by decide) (fun c_315 => ?_) (fun c_315 => ?_)
    · exact absurd c_315 (by assumption)
    · have d_315 : ¬ (xs (6 * t + 2)).toInt = 0 := c_315
      refine VS_iconst (pc := 318) (v := 1) dL_law_318 rfl ?_
      refine VS_goto (pc := 319) (tgt := 323) dL_law_319 (by decide) ?_
      refine VS_callV (pc := 323) (As := [.int (xs (6 * t + 1)), .int 1]) (st := [w1]) (c_X12_wet G (xs (6 * t + 1)) 1 hw1 h1 (by decide)) mf_X12_wet ml_L_26 iv_X12_wet (wN hw1 (by decide)) (wS1 hw1 (by decide) rfl) (by decide) rfl dL_law_323 rfl rfl (by omega) (by omega) (by omega) (by have := cat2 w1; show w1.category + 0 ≤ 8; omega) (fun r2 n2 sh2 I2 L2 R2 hq2 => ?_)
      obtain ⟨rfl, rfl, rfl, rfl, hq2⟩ := hq2
      obtain ⟨X2, rfl, hp⟩ := Lo_qi Lp_sWet hq2
      obtain ⟨e1, hJ3⟩ := two hA hp
      obtain ⟨v2, -, rfl⟩ := id hp
      obtain rfl := Option.some.inj e1
      refine VS_icmp_eq (pc := 326) (tgt := 1332) dL_law_326 (by decide) (fun _ => ?_) (fun c => absurd rfl c)
      exact K _ _ _ _ _ _ _ _ hJ3 (by omega) (by omega)
set_option maxRecDepth 100000 in
set_option maxHeartbeats 4000000 in
theorem law_c3 (G : vG) {sb Ln : Nat} {xs : Nat → Int32} {n ce sl : Nat} {sh : vS} {J X : vI} {L : vL} {R : vR} (t : Nat) (i : Int32) (hJ : JZ (t : Int) n sh (mx J X) L R X) (hi : i.toInt = 6 * (t : Int)) (hLn : 6 * t + 6 ≤ Ln) (hL : Ln ≤ 3072) (hce : ce ≤ 60 + 4 * t) (hsl : sl ≤ 1500 + 40 * t) (K : ∀ (n' : Nat) (sh' : vS) (J' : vI) (L' : vL) (R' : vR) (X' : vI) (ce' sl' : Nat), JZ ((t : Int) + 1) n' sh' (mx J' X') L' R' X' → ce' ≤ 60 + 4 * (t + 1) → sl' ≤ 1500 + 40 * (t + 1) → VS G sb Ln xs 1332 [(0, .ref sb), (1, .ref (ad G 0)), (2, .ref (ad G 27)), (3, .int i)] [] ce' sl' n' sh' (mx J' X') L' R') : VS G sb Ln xs 331 [(0, .ref sb), (1, .ref (ad G 0)), (2, .ref (ad G 27)), (3, .int i)] [] ce sl n sh (mx J X) L R := by
  have hw := hJ.1.1
  obtain ⟨h1, hs, h24, h27, h30, h35, hck, h25, hv, hpv, hcl, hld, h12, hlen, hE, hb0⟩ := XF hJ
  refine VS_aload_n (pc := 331) 1 dL_law_331 rfl rfl ?_
  refine VS_aload_n (pc := 332) 0 dL_law_332 rfl rfl ?_
  refine VS_iload_n (pc := 333) 3 dL_law_333 rfl rfl ?_
  refine VS_iconst (pc := 334) (v := 1) dL_law_334 rfl ?_
  refine VS_iadd (pc := 335) dL_law_335 (fun x_335_233 e_335_233 => ?_)
  have t_335_233 : x_335_233.toInt = i.toInt + 1 := addT e_335_233 rfl rfl (by omega) (by omega)
  refine VS_saldk (pc := 336) (j := 6 * t + 1) dL_law_336 (by omega) (by omega) ?_
  refine VS_aload_n (pc := 337) 0 dL_law_337 rfl rfl ?_
  refine VS_iload_n (pc := 338) 3 dL_law_338 rfl rfl ?_
  refine VS_iconst (pc := 339) (v := 2) dL_law_339 rfl ?_
  refine VS_iadd (pc := 340) dL_law_340 (fun x_340_239 e_340_239 => ?_)
  have t_340_239 : x_340_239.toInt = i.toInt + 2 := addT e_340_239 rfl rfl (by omega) (by omega)
  refine VS_saldk (pc := 341) (j := 6 * t + 2) dL_law_341 (by omega) (by omega) ?_
  refine VS_callV (pc := 342) (As := [.int (xs (6 * t + 1)), .int (xs (6 * t + 2))]) (st := []) (c_X11_about G (t : Int) X (xs (6 * t + 1)) (xs (6 * t + 2)) hJ ) mf_X11_about ml_L_27 iv_X11_about (wN hw (by decide)) (wS1 hw (by decide) rfl) (by decide) rfl dL_law_342 rfl rfl (by omega) (by omega) (by omega) (Nat.le_of_ble_eq_true rfl) (fun r1 n1 sh1 I1 L1 R1 hq1 => ?_)
  obtain ⟨hA, hfr, hw1, w1, rfl⟩ := hq1
  obtain ⟨J1, rfl⟩ : ∃ J1, I1 = mx J1 X := ⟨I1, mx_ag (fun a h1 h2 => (hfr a h1 h2).trans (congrFun (rfl : mx J X = mx J X) a |>.trans (mx_i ⟨h1, h2⟩)))⟩
  refine VS_aload_n (pc := 345) 2 dL_law_345 rfl rfl ?_
  refine VS_aload_n (pc := 346) 0 dL_law_346 rfl rfl ?_
  refine VS_iload_n (pc := 347) 3 dL_law_347 rfl rfl ?_
  refine VS_iconst (pc := 348) (v := 1) dL_law_348 rfl ?_
  refine VS_iadd (pc := 349) dL_law_349 (fun x_349_249 e_349_249 => ?_)
  have t_349_249 : x_349_249.toInt = i.toInt + 1 := addT e_349_249 rfl rfl (by omega) (by omega)
  refine VS_saldk (pc := 350) (j := 6 * t + 1) dL_law_350 (by omega) (by omega) ?_
  refine VS_aload_n (pc := 351) 0 dL_law_351 rfl rfl ?_
  refine VS_iload_n (pc := 352) 3 dL_law_352 rfl rfl ?_
  refine VS_iconst (pc := 353) (v := 2) dL_law_353 rfl ?_
  refine VS_iadd (pc := 354) dL_law_354 (fun x_354_255 e_354_255 => ?_)
  have t_354_255 : x_354_255.toInt = i.toInt + 2 := addT e_354_255 rfl rfl (by omega) (by omega)
  refine VS_saldk (pc := 355) (j := 6 * t + 2) dL_law_355 (by omega) (by omega) ?_
  refine VS_callV (pc := 356) (As := [.int (xs (6 * t + 1)), .int (xs (6 * t + 2))]) (st := [w1]) (c_X12_about G (xs (6 * t + 1)) (xs (6 * t + 2)) hw1 h1 h24) mf_X12_about ml_L_31 iv_X12_about (wN hw1 (by decide)) (wS1 hw1 (by decide) rfl) (by decide) rfl dL_law_356 rfl rfl (by omega) (by omega) (by omega) (by have := cat2 w1; show w1.category + 0 ≤ 8; omega) (fun r2 n2 sh2 I2 L2 R2 hq2 => ?_)
  obtain ⟨rfl, rfl, rfl, rfl, hq2⟩ := hq2
  obtain ⟨X2, rfl, hp⟩ := Lo_iN (J := J1) (X := X) Ln_sAbout hq2
  obtain ⟨e1, hJ3⟩ := two hA hp
  obtain ⟨-, v2, rfl, -⟩ := id hp
  obtain rfl := Option.some.inj e1
  refine VS_icmp_eq (pc := 359) (tgt := 1332) dL_law_359 (by decide) (fun _ => ?_) (fun c => absurd rfl c)
  exact K _ _ _ _ _ _ _ _ hJ3 (by omega) (by omega)
set_option maxRecDepth 100000 in
set_option maxHeartbeats 4000000 in
theorem law_c4 (G : vG) {sb Ln : Nat} {xs : Nat → Int32} {n ce sl : Nat} {sh : vS} {J X : vI} {L : vL} {R : vR} (t : Nat) (i : Int32) (hJ : JZ (t : Int) n sh (mx J X) L R X) (hi : i.toInt = 6 * (t : Int)) (hLn : 6 * t + 6 ≤ Ln) (hL : Ln ≤ 3072) (hce : ce ≤ 60 + 4 * t) (hsl : sl ≤ 1500 + 40 * t) (K : ∀ (n' : Nat) (sh' : vS) (J' : vI) (L' : vL) (R' : vR) (X' : vI) (ce' sl' : Nat), JZ ((t : Int) + 1) n' sh' (mx J' X') L' R' X' → ce' ≤ 60 + 4 * (t + 1) → sl' ≤ 1500 + 40 * (t + 1) → VS G sb Ln xs 1332 [(0, .ref sb), (1, .ref (ad G 0)), (2, .ref (ad G 27)), (3, .int i)] [] ce' sl' n' sh' (mx J' X') L' R') : VS G sb Ln xs 364 [(0, .ref sb), (1, .ref (ad G 0)), (2, .ref (ad G 27)), (3, .int i)] [] ce sl n sh (mx J X) L R := by
  have hw := hJ.1.1
  obtain ⟨h1, hs, h24, h27, h30, h35, hck, h25, hv, hpv, hcl, hld, h12, hlen, hE, hb0⟩ := XF hJ
  refine VS_aload_n (pc := 364) 1 dL_law_364 rfl rfl ?_
  refine VS_aload_n (pc := 365) 0 dL_law_365 rfl rfl ?_
  refine VS_iload_n (pc := 366) 3 dL_law_366 rfl rfl ?_
  refine VS_iconst (pc := 367) (v := 1) dL_law_367 rfl ?_
  refine VS_iadd (pc := 368) dL_law_368 (fun x_368_274 e_368_274 => ?_)
  have t_368_274 : x_368_274.toInt = i.toInt + 1 := addT e_368_274 rfl rfl (by omega) (by omega)
  refine VS_saldk (pc := 369) (j := 6 * t + 1) dL_law_369 (by omega) (by omega) ?_
  refine VS_aload_n (pc := 370) 0 dL_law_370 rfl rfl ?_
  refine VS_iload_n (pc := 371) 3 dL_law_371 rfl rfl ?_
  refine VS_iconst (pc := 372) (v := 2) dL_law_372 rfl ?_
  refine VS_iadd (pc := 373) dL_law_373 (fun x_373_280 e_373_280 => ?_)
  have t_373_280 : x_373_280.toInt = i.toInt + 2 := addT e_373_280 rfl rfl (by omega) (by omega)
  refine VS_saldk (pc := 374) (j := 6 * t + 2) dL_law_374 (by omega) (by omega) ?_
  refine VS_aload_n (pc := 375) 0 dL_law_375 rfl rfl ?_
  refine VS_iload_n (pc := 376) 3 dL_law_376 rfl rfl ?_
  refine VS_iconst (pc := 377) (v := 3) dL_law_377 rfl ?_
  refine VS_iadd (pc := 378) dL_law_378 (fun x_378_286 e_378_286 => ?_)
  have t_378_286 : x_378_286.toInt = i.toInt + 3 := addT e_378_286 rfl rfl (by omega) (by omega)
  refine VS_saldk (pc := 379) (j := 6 * t + 3) dL_law_379 (by omega) (by omega) ?_
  refine VS_aload_n (pc := 380) 0 dL_law_380 rfl rfl ?_
  refine VS_iload_n (pc := 381) 3 dL_law_381 rfl rfl ?_
  refine VS_iconst (pc := 382) (v := 4) dL_law_382 rfl ?_
  refine VS_iadd (pc := 383) dL_law_383 (fun x_383_292 e_383_292 => ?_)
  have t_383_292 : x_383_292.toInt = i.toInt + 4 := addT e_383_292 rfl rfl (by omega) (by omega)
  refine VS_saldk (pc := 384) (j := 6 * t + 4) dL_law_384 (by omega) (by omega) ?_
  refine VS_callV (pc := 385) (As := [.int (xs (6 * t + 1)), .int (xs (6 * t + 2)), .int (xs (6 * t + 3)), .int (xs (6 * t + 4))]) (st := []) (c_X11_book G (t : Int) X (xs (6 * t + 1)) (xs (6 * t + 2)) (xs (6 * t + 3)) (xs (6 * t + 4)) hJ ) mf_X11_book ml_L_32 iv_X11_book (wN hw (by decide)) (wS1 hw (by decide) rfl) (by decide) rfl dL_law_385 rfl rfl (by omega) (by omega) (by omega) (Nat.le_of_ble_eq_true rfl) (fun r1 n1 sh1 I1 L1 R1 hq1 => ?_)
  obtain ⟨hA, hfr, hw1, w1, rfl⟩ := hq1
  obtain ⟨J1, rfl⟩ : ∃ J1, I1 = mx J1 X := ⟨I1, mx_ag (fun a h1 h2 => (hfr a h1 h2).trans (congrFun (rfl : mx J X = mx J X) a |>.trans (mx_i ⟨h1, h2⟩)))⟩
  refine VS_aload_n (pc := 388) 2 dL_law_388 rfl rfl ?_
  refine VS_aload_n (pc := 389) 0 dL_law_389 rfl rfl ?_
  refine VS_iload_n (pc := 390) 3 dL_law_390 rfl rfl ?_
  refine VS_iconst (pc := 391) (v := 1) dL_law_391 rfl ?_
  refine VS_iadd (pc := 392) dL_law_392 (fun x_392_302 e_392_302 => ?_)
  have t_392_302 : x_392_302.toInt = i.toInt + 1 := addT e_392_302 rfl rfl (by omega) (by omega)
  refine VS_saldk (pc := 393) (j := 6 * t + 1) dL_law_393 (by omega) (by omega) ?_
  refine VS_aload_n (pc := 394) 0 dL_law_394 rfl rfl ?_
  refine VS_iload_n (pc := 395) 3 dL_law_395 rfl rfl ?_
  refine VS_iconst (pc := 396) (v := 2) dL_law_396 rfl ?_
  refine VS_iadd (pc := 397) dL_law_397 (fun x_397_308 e_397_308 => ?_)
  have t_397_308 : x_397_308.toInt = i.toInt + 2 := addT e_397_308 rfl rfl (by omega) (by omega)
  refine VS_saldk (pc := 398) (j := 6 * t + 2) dL_law_398 (by omega) (by omega) ?_
  refine VS_aload_n (pc := 399) 0 dL_law_399 rfl rfl ?_
  refine VS_iload_n (pc := 400) 3 dL_law_400 rfl rfl ?_
  refine VS_iconst (pc := 401) (v := 3) dL_law_401 rfl ?_
  refine VS_iadd (pc := 402) dL_law_402 (fun x_402_314 e_402_314 => ?_)
  have t_402_314 : x_402_314.toInt = i.toInt + 3 := addT e_402_314 rfl rfl (by omega) (by omega)
  refine VS_saldk (pc := 403) (j := 6 * t + 3) dL_law_403 (by omega) (by omega) ?_
  refine VS_aload_n (pc := 404) 0 dL_law_404 rfl rfl ?_
  refine VS_iload_n (pc := 405) 3 dL_law_405 rfl rfl ?_
  refine VS_iconst (pc := 406) (v := 4) dL_law_406 rfl ?_
  refine VS_iadd (pc := 407) dL_law_407 (fun x_407_320 e_407_320 => ?_)
  have t_407_320 : x_407_320.toInt = i.toInt + 4 := addT e_407_320 rfl rfl (by omega) (by omega)
  refine VS_saldk (pc := 408) (j := 6 * t + 4) dL_law_408 (by omega) (by omega) ?_
  refine VS_callV (pc := 409) (As := [.int (xs (6 * t + 1)), .int (xs (6 * t + 2)), .int (xs (6 * t + 3)), .int (xs (6 * t + 4))]) (st := [w1]) (c_X12_book G (xs (6 * t + 1)) (xs (6 * t + 2)) (xs (6 * t + 3)) (xs (6 * t + 4)) hw1 hs) mf_X12_book ml_L_35 iv_X12_book (wN hw1 (by decide)) (wS1 hw1 (by decide) rfl) (by decide) rfl dL_law_409 rfl rfl (by omega) (by omega) (by omega) (by have := cat2 w1; show w1.category + 0 ≤ 8; omega) (fun r2 n2 sh2 I2 L2 R2 hq2 => ?_)
  obtain ⟨rfl, rfl, rfl, rfl, hq2⟩ := hq2
  obtain ⟨X2, rfl, hp⟩ := Lo_qi Lp_sBook hq2
  obtain ⟨e1, hJ3⟩ := two hA hp
  obtain ⟨v2, -, rfl⟩ := id hp
  obtain rfl := Option.some.inj e1
  refine VS_icmp_eq (pc := 412) (tgt := 1332) dL_law_412 (by decide) (fun _ => ?_) (fun c => absurd rfl c)
  exact K _ _ _ _ _ _ _ _ hJ3 (by omega) (by omega)
set_option maxRecDepth 100000 in
set_option maxHeartbeats 4000000 in
theorem law_c5 (G : vG) {sb Ln : Nat} {xs : Nat → Int32} {n ce sl : Nat} {sh : vS} {J X : vI} {L : vL} {R : vR} (t : Nat) (i : Int32) (hJ : JZ (t : Int) n sh (mx J X) L R X) (hi : i.toInt = 6 * (t : Int)) (hLn : 6 * t + 6 ≤ Ln) (hL : Ln ≤ 3072) (hce : ce ≤ 60 + 4 * t) (hsl : sl ≤ 1500 + 40 * t) (K : ∀ (n' : Nat) (sh' : vS) (J' : vI) (L' : vL) (R' : vR) (X' : vI) (ce' sl' : Nat), JZ ((t : Int) + 1) n' sh' (mx J' X') L' R' X' → ce' ≤ 60 + 4 * (t + 1) → sl' ≤ 1500 + 40 * (t + 1) → VS G sb Ln xs 1332 [(0, .ref sb), (1, .ref (ad G 0)), (2, .ref (ad G 27)), (3, .int i)] [] ce' sl' n' sh' (mx J' X') L' R') : VS G sb Ln xs 417 [(0, .ref sb), (1, .ref (ad G 0)), (2, .ref (ad G 27)), (3, .int i)] [] ce sl n sh (mx J X) L R := by
  have hw := hJ.1.1
  obtain ⟨h1, hs, h24, h27, h30, h35, hck, h25, hv, hpv, hcl, hld, h12, hlen, hE, hb0⟩ := XF hJ
  refine VS_aload_n (pc := 417) 1 dL_law_417 rfl rfl ?_
  refine VS_callV (pc := 418) (As := []) (st := []) (c_X11_ways G (t : Int) X  hJ ) mf_X11_ways ml_L_36 iv_X11_ways (wN hw (by decide)) (wS1 hw (by decide) rfl) (by decide) rfl dL_law_418 rfl rfl (by omega) (by omega) (by omega) (Nat.le_of_ble_eq_true rfl) (fun r1 n1 sh1 I1 L1 R1 hq1 => ?_)
  obtain ⟨hA, hfr, hw1, w1, rfl⟩ := hq1
  obtain ⟨J1, rfl⟩ : ∃ J1, I1 = mx J1 X := ⟨I1, mx_ag (fun a h1 h2 => (hfr a h1 h2).trans (congrFun (rfl : mx J X = mx J X) a |>.trans (mx_i ⟨h1, h2⟩)))⟩
  refine VS_aload_n (pc := 421) 2 dL_law_421 rfl rfl ?_
  refine VS_callV (pc := 422) (As := []) (st := [w1]) (c_X12_ways G  hw1 h12 hE hb0) mf_X12_ways ml_L_40 iv_X12_ways (wN hw1 (by decide)) (wS1 hw1 (by decide) rfl) (by decide) rfl dL_law_422 rfl rfl (by omega) (by omega) (by omega) (by have := cat2 w1; show w1.category + 0 ≤ 8; omega) (fun r2 n2 sh2 I2 L2 R2 hq2 => ?_)
  obtain ⟨rfl, rfl, rfl, rfl, hq2⟩ := hq2
  obtain ⟨X2, rfl, hp⟩ := Lo_wy hq2
  obtain ⟨e1, hJ3⟩ := two hA hp
  obtain ⟨v2, rfl, -⟩ := id hp
  obtain rfl := Option.some.inj e1
  refine VS_icmp_eq (pc := 425) (tgt := 1332) dL_law_425 (by decide) (fun _ => ?_) (fun c => absurd rfl c)
  exact K _ _ _ _ _ _ _ _ hJ3 (by omega) (by omega)
set_option maxRecDepth 100000 in
set_option maxHeartbeats 4000000 in
theorem law_c6 (G : vG) {sb Ln : Nat} {xs : Nat → Int32} {n ce sl : Nat} {sh : vS} {J X : vI} {L : vL} {R : vR} (t : Nat) (i : Int32) (hJ : JZ (t : Int) n sh (mx J X) L R X) (hi : i.toInt = 6 * (t : Int)) (hLn : 6 * t + 6 ≤ Ln) (hL : Ln ≤ 3072) (hce : ce ≤ 60 + 4 * t) (hsl : sl ≤ 1500 + 40 * t) (K : ∀ (n' : Nat) (sh' : vS) (J' : vI) (L' : vL) (R' : vR) (X' : vI) (ce' sl' : Nat), JZ ((t : Int) + 1) n' sh' (mx J' X') L' R' X' → ce' ≤ 60 + 4 * (t + 1) → sl' ≤ 1500 + 40 * (t + 1) → VS G sb Ln xs 1332 [(0, .ref sb), (1, .ref (ad G 0)), (2, .ref (ad G 27)), (3, .int i)] [] ce' sl' n' sh' (mx J' X') L' R') : VS G sb Ln xs 430 [(0, .ref sb), (1, .ref (ad G 0)), (2, .ref (ad G 27)), (3, .int i)] [] ce sl n sh (mx J X) L R := by
  have hw := hJ.1.1
  obtain ⟨h1, hs, h24, h27, h30, h35, hck, h25, hv, hpv, hcl, hld, h12, hlen, hE, hb0⟩ := XF hJ
  refine VS_aload_n (pc := 430) 1 dL_law_430 rfl rfl ?_
  refine VS_callV (pc := 431) (As := []) (st := []) (c_X11_lay G (t : Int) X  hJ ) mf_X11_lay ml_L_41 iv_X11_lay (wN hw (by decide)) (wS1 hw (by decide) rfl) (by decide) rfl dL_law_431 rfl rfl (by omega) (by omega) (by omega) (Nat.le_of_ble_eq_true rfl) (fun r1 n1 sh1 I1 L1 R1 hq1 => ?_)
  obtain ⟨hA, hfr, hw1, w1, rfl⟩ := hq1
  obtain ⟨J1, rfl⟩ : ∃ J1, I1 = mx J1 X := ⟨I1, mx_ag (fun a h1 h2 => (hfr a h1 h2).trans (congrFun (rfl : mx J X = mx J X) a |>.trans (mx_i ⟨h1, h2⟩)))⟩
  refine VS_aload_n (pc := 434) 2 dL_law_434 rfl rfl ?_
  refine VS_callV (pc := 435) (As := []) (st := [w1]) (c_X12_lay G  hw1 h12 hE hb0 (XB h1)) mf_X12_lay ml_L_44 iv_X12_lay (wN hw1 (by decide)) (wS1 hw1 (by decide) rfl) (by decide) rfl dL_law_435 rfl rfl (by omega) (by omega) (by omega) (by have := cat2 w1; show w1.category + 0 ≤ 8; omega) (fun r2 n2 sh2 I2 L2 R2 hq2 => ?_)
  obtain ⟨rfl, rfl, rfl, rfl, hq2⟩ := hq2
  obtain ⟨X2, rfl, hp⟩ := Lo_ly hq2
  obtain ⟨e1, hJ3⟩ := two hA hp
  obtain ⟨v2, rfl, -⟩ := id hp
  obtain rfl := Option.some.inj e1
  refine VS_icmp_eq (pc := 438) (tgt := 1332) dL_law_438 (by decide) (fun _ => ?_) (fun c => absurd rfl c)
  exact K _ _ _ _ _ _ _ _ hJ3 (by omega) (by omega)
set_option maxRecDepth 100000 in
set_option maxHeartbeats 4000000 in
theorem law_c7 (G : vG) {sb Ln : Nat} {xs : Nat → Int32} {n ce sl : Nat} {sh : vS} {J X : vI} {L : vL} {R : vR} (t : Nat) (i : Int32) (hJ : JZ (t : Int) n sh (mx J X) L R X) (hi : i.toInt = 6 * (t : Int)) (hLn : 6 * t + 6 ≤ Ln) (hL : Ln ≤ 3072) (hce : ce ≤ 60 + 4 * t) (hsl : sl ≤ 1500 + 40 * t) (K : ∀ (n' : Nat) (sh' : vS) (J' : vI) (L' : vL) (R' : vR) (X' : vI) (ce' sl' : Nat), JZ ((t : Int) + 1) n' sh' (mx J' X') L' R' X' → ce' ≤ 60 + 4 * (t + 1) → sl' ≤ 1500 + 40 * (t + 1) → VS G sb Ln xs 1332 [(0, .ref sb), (1, .ref (ad G 0)), (2, .ref (ad G 27)), (3, .int i)] [] ce' sl' n' sh' (mx J' X') L' R') : VS G sb Ln xs 443 [(0, .ref sb), (1, .ref (ad G 0)), (2, .ref (ad G 27)), (3, .int i)] [] ce sl n sh (mx J X) L R := by
  have hw := hJ.1.1
  obtain ⟨h1, hs, h24, h27, h30, h35, hck, h25, hv, hpv, hcl, hld, h12, hlen, hE, hb0⟩ := XF hJ
  refine VS_aload_n (pc := 443) 1 dL_law_443 rfl rfl ?_
  refine VS_aload_n (pc := 444) 0 dL_law_444 rfl rfl ?_
  refine VS_iload_n (pc := 445) 3 dL_law_445 rfl rfl ?_
  refine VS_iconst (pc := 446) (v := 1) dL_law_446 rfl ?_
  refine VS_iadd (pc := 447) dL_law_447 (fun x_447_373 e_447_373 => ?_)
  have t_447_373 : x_447_373.toInt = i.toInt + 1 := addT e_447_373 rfl rfl (by omega) (by omega)
  refine VS_saldk (pc := 448) (j := 6 * t + 1) dL_law_448 (by omega) (by omega) ?_
  refine VS_callV (pc := 449) (As := [.int (xs (6 * t + 1))]) (st := []) (c_X11_laid G (t : Int) X (xs (6 * t + 1)) hJ ) mf_X11_laid ml_L_45 iv_X11_laid (wN hw (by decide)) (wS1 hw (by decide) rfl) (by decide) rfl dL_law_449 rfl rfl (by omega) (by omega) (by omega) (Nat.le_of_ble_eq_true rfl) (fun r1 n1 sh1 I1 L1 R1 hq1 => ?_)
  obtain ⟨hA, hfr, hw1, w1, rfl⟩ := hq1
  obtain ⟨J1, rfl⟩ : ∃ J1, I1 = mx J1 X := ⟨I1, mx_ag (fun a h1 h2 => (hfr a h1 h2).trans (congrFun (rfl : mx J X = mx J X) a |>.trans (mx_i ⟨h1, h2⟩)))⟩
  refine VS_aload_n (pc := 452) 2 dL_law_452 rfl rfl ?_
  refine VS_aload_n (pc := 453) 0 dL_law_453 rfl rfl ?_
  refine VS_iload_n (pc := 454) 3 dL_law_454 rfl rfl ?_
  refine VS_iconst (pc := 455) (v := 1) dL_law_455 rfl ?_
  refine VS_iadd (pc := 456) dL_law_456 (fun x_456_383 e_456_383 => ?_)
  have t_456_383 : x_456_383.toInt = i.toInt + 1 := addT e_456_383 rfl rfl (by omega) (by omega)
  refine VS_saldk (pc := 457) (j := 6 * t + 1) dL_law_457 (by omega) (by omega) ?_
  refine VS_callV (pc := 458) (As := [.int (xs (6 * t + 1))]) (st := [w1]) (c_X12_laid G (xs (6 * t + 1)) hw1 h24) mf_X12_laid ml_L_49 iv_X12_laid (wN hw1 (by decide)) (wS1 hw1 (by decide) rfl) (by decide) rfl dL_law_458 rfl rfl (by omega) (by omega) (by omega) (by have := cat2 w1; show w1.category + 0 ≤ 8; omega) (fun r2 n2 sh2 I2 L2 R2 hq2 => ?_)
  obtain ⟨rfl, rfl, rfl, rfl, hq2⟩ := hq2
  obtain ⟨X2, rfl, hp⟩ := Lo_eN (J := J1) (X := X) Ln_sLaid hq2
  obtain ⟨e1, hJ3⟩ := two hA hp
  obtain ⟨-, rfl⟩ := id hp
  obtain rfl := Option.some.inj e1
  refine VS_icmp_eq (pc := 461) (tgt := 1332) dL_law_461 (by decide) (fun _ => ?_) (fun c => absurd rfl c)
  exact K _ _ _ _ _ _ _ _ hJ3 (by omega) (by omega)
set_option maxRecDepth 100000 in
set_option maxHeartbeats 4000000 in
theorem law_c8 (G : vG) {sb Ln : Nat} {xs : Nat → Int32} {n ce sl : Nat} {sh : vS} {J X : vI} {L : vL} {R : vR} (t : Nat) (i : Int32) (hJ : JZ (t : Int) n sh (mx J X) L R X) (hi : i.toInt = 6 * (t : Int)) (hLn : 6 * t + 6 ≤ Ln) (hL : Ln ≤ 3072) (hce : ce ≤ 60 + 4 * t) (hsl : sl ≤ 1500 + 40 * t) (K : ∀ (n' : Nat) (sh' : vS) (J' : vI) (L' : vL) (R' : vR) (X' : vI) (ce' sl' : Nat), JZ ((t : Int) + 1) n' sh' (mx J' X') L' R' X' → ce' ≤ 60 + 4 * (t + 1) → sl' ≤ 1500 + 40 * (t + 1) → VS G sb Ln xs 1332 [(0, .ref sb), (1, .ref (ad G 0)), (2, .ref (ad G 27)), (3, .int i)] [] ce' sl' n' sh' (mx J' X') L' R') : VS G sb Ln xs 466 [(0, .ref sb), (1, .ref (ad G 0)), (2, .ref (ad G 27)), (3, .int i)] [] ce sl n sh (mx J X) L R := by
  have hw := hJ.1.1
  obtain ⟨h1, hs, h24, h27, h30, h35, hck, h25, hv, hpv, hcl, hld, h12, hlen, hE, hb0⟩ := XF hJ
  refine VS_aload_n (pc := 466) 1 dL_law_466 rfl rfl ?_
  refine VS_aload_n (pc := 467) 0 dL_law_467 rfl rfl ?_
  refine VS_iload_n (pc := 468) 3 dL_law_468 rfl rfl ?_
  refine VS_iconst (pc := 469) (v := 1) dL_law_469 rfl ?_
  refine VS_iadd (pc := 470) dL_law_470 (fun x_470_402 e_470_402 => ?_)
  have t_470_402 : x_470_402.toInt = i.toInt + 1 := addT e_470_402 rfl rfl (by omega) (by omega)
  refine VS_saldk (pc := 471) (j := 6 * t + 1) dL_law_471 (by omega) (by omega) ?_
  refine VS_aload_n (pc := 472) 0 dL_law_472 rfl rfl ?_
  refine VS_iload_n (pc := 473) 3 dL_law_473 rfl rfl ?_
  refine VS_iconst (pc := 474) (v := 2) dL_law_474 rfl ?_
  refine VS_iadd (pc := 475) dL_law_475 (fun x_475_408 e_475_408 => ?_)
  have t_475_408 : x_475_408.toInt = i.toInt + 2 := addT e_475_408 rfl rfl (by omega) (by omega)
  refine VS_saldk (pc := 476) (j := 6 * t + 2) dL_law_476 (by omega) (by omega) ?_
  refine VS_aload_n (pc := 477) 0 dL_law_477 rfl rfl ?_
  refine VS_iload_n (pc := 478) 3 dL_law_478 rfl rfl ?_
  refine VS_iconst (pc := 479) (v := 3) dL_law_479 rfl ?_
  refine VS_iadd (pc := 480) dL_law_480 (fun x_480_414 e_480_414 => ?_)
  have t_480_414 : x_480_414.toInt = i.toInt + 3 := addT e_480_414 rfl rfl (by omega) (by omega)
  refine VS_saldk (pc := 481) (j := 6 * t + 3) dL_law_481 (by omega) (by omega) ?_
  refine VS_aload_n (pc := 482) 0 dL_law_482 rfl rfl ?_
  refine VS_iload_n (pc := 483) 3 dL_law_483 rfl rfl ?_
  refine VS_iconst (pc := 484) (v := 4) dL_law_484 rfl ?_
  refine VS_iadd (pc := 485) dL_law_485 (fun x_485_420 e_485_420 => ?_)
  have t_485_420 : x_485_420.toInt = i.toInt + 4 := addT e_485_420 rfl rfl (by omega) (by omega)
  refine VS_saldk (pc := 486) (j := 6 * t + 4) dL_law_486 (by omega) (by omega) ?_
  refine VS_callV (pc := 487) (As := [.int (xs (6 * t + 1)), .int (xs (6 * t + 2)), .int (xs (6 * t + 3)), .int (xs (6 * t + 4))]) (st := []) (c_X11_proof G (t : Int) X (xs (6 * t + 1)) (xs (6 * t + 2)) (xs (6 * t + 3)) (xs (6 * t + 4)) hJ ) mf_X11_proof ml_L_50 iv_X11_proof (wN hw (by decide)) (wS1 hw (by decide) rfl) (by decide) rfl dL_law_487 rfl rfl (by omega) (by omega) (by omega) (Nat.le_of_ble_eq_true rfl) (fun r1 n1 sh1 I1 L1 R1 hq1 => ?_)
  obtain ⟨hA, hfr, hw1, w1, rfl⟩ := hq1
  obtain ⟨J1, rfl⟩ : ∃ J1, I1 = mx J1 X := ⟨I1, mx_ag (fun a h1 h2 => (hfr a h1 h2).trans (congrFun (rfl : mx J X = mx J X) a |>.trans (mx_i ⟨h1, h2⟩)))⟩
  refine VS_aload_n (pc := 490) 2 dL_law_490 rfl rfl ?_
  refine VS_aload_n (pc := 491) 0 dL_law_491 rfl rfl ?_
  refine VS_iload_n (pc := 492) 3 dL_law_492 rfl rfl ?_
  refine VS_iconst (pc := 493) (v := 1) dL_law_493 rfl ?_
  refine VS_iadd (pc := 494) dL_law_494 (fun x_494_430 e_494_430 => ?_)
  have t_494_430 : x_494_430.toInt = i.toInt + 1 := addT e_494_430 rfl rfl (by omega) (by omega)
  refine VS_saldk (pc := 495) (j := 6 * t + 1) dL_law_495 (by omega) (by omega) ?_
  refine VS_aload_n (pc := 496) 0 dL_law_496 rfl rfl ?_
  refine VS_iload_n (pc := 497) 3 dL_law_497 rfl rfl ?_
  refine VS_iconst (pc := 498) (v := 2) dL_law_498 rfl ?_
  refine VS_iadd (pc := 499) dL_law_499 (fun x_499_436 e_499_436 => ?_)
  have t_499_436 : x_499_436.toInt = i.toInt + 2 := addT e_499_436 rfl rfl (by omega) (by omega)
  refine VS_saldk (pc := 500) (j := 6 * t + 2) dL_law_500 (by omega) (by omega) ?_
  refine VS_aload_n (pc := 501) 0 dL_law_501 rfl rfl ?_
  refine VS_iload_n (pc := 502) 3 dL_law_502 rfl rfl ?_
  refine VS_iconst (pc := 503) (v := 3) dL_law_503 rfl ?_
  refine VS_iadd (pc := 504) dL_law_504 (fun x_504_442 e_504_442 => ?_)
  have t_504_442 : x_504_442.toInt = i.toInt + 3 := addT e_504_442 rfl rfl (by omega) (by omega)
  refine VS_saldk (pc := 505) (j := 6 * t + 3) dL_law_505 (by omega) (by omega) ?_
  refine VS_aload_n (pc := 506) 0 dL_law_506 rfl rfl ?_
  refine VS_iload_n (pc := 507) 3 dL_law_507 rfl rfl ?_
  refine VS_iconst (pc := 508) (v := 4) dL_law_508 rfl ?_
  refine VS_iadd (pc := 509) dL_law_509 (fun x_509_448 e_509_448 => ?_)
  have t_509_448 : x_509_448.toInt = i.toInt + 4 := addT e_509_448 rfl rfl (by omega) (by omega)
  refine VS_saldk (pc := 510) (j := 6 * t + 4) dL_law_510 (by omega) (by omega) ?_
  refine VS_callV (pc := 511) (As := [.int (xs (6 * t + 1)), .int (xs (6 * t + 2)), .int (xs (6 * t + 3)), .int (xs (6 * t + 4))]) (st := [w1]) (c_X12_proof G (xs (6 * t + 1)) (xs (6 * t + 2)) (xs (6 * t + 3)) (xs (6 * t + 4)) hw1 hs h1 h12 hlen) mf_X12_proof ml_L_54 iv_X12_proof (wN hw1 (by decide)) (wS1 hw1 (by decide) rfl) (by decide) rfl dL_law_511 rfl rfl (by omega) (by omega) (by omega) (by have := cat2 w1; show w1.category + 0 ≤ 8; omega) (fun r2 n2 sh2 I2 L2 R2 hq2 => ?_)
  obtain ⟨rfl, rfl, rfl, rfl, hq2⟩ := hq2
  obtain ⟨X2, rfl, hp⟩ := Lo_qz Lp_sProof hq2
  obtain ⟨e1, hJ3⟩ := two hA hp
  obtain ⟨v2, -, rfl⟩ := id hp
  obtain rfl := Option.some.inj e1
  refine VS_lcmp (pc := 514) dL_law_514 (fun z ez => ?_)
  have hz0 : z.toInt = 0 := (lcT_eq ez).mpr rfl
  refine VS_if_eq (pc := 515) (tgt := 1332) dL_law_515 (by decide) (fun _ => ?_) (fun c => absurd hz0 c)
  exact K _ _ _ _ _ _ _ _ hJ3 (by omega) (by omega)
set_option maxRecDepth 100000 in
set_option maxHeartbeats 4000000 in
theorem law_c9 (G : vG) {sb Ln : Nat} {xs : Nat → Int32} {n ce sl : Nat} {sh : vS} {J X : vI} {L : vL} {R : vR} (t : Nat) (i : Int32) (hJ : JZ (t : Int) n sh (mx J X) L R X) (hi : i.toInt = 6 * (t : Int)) (hLn : 6 * t + 6 ≤ Ln) (hL : Ln ≤ 3072) (hce : ce ≤ 60 + 4 * t) (hsl : sl ≤ 1500 + 40 * t) (K : ∀ (n' : Nat) (sh' : vS) (J' : vI) (L' : vL) (R' : vR) (X' : vI) (ce' sl' : Nat), JZ ((t : Int) + 1) n' sh' (mx J' X') L' R' X' → ce' ≤ 60 + 4 * (t + 1) → sl' ≤ 1500 + 40 * (t + 1) → VS G sb Ln xs 1332 [(0, .ref sb), (1, .ref (ad G 0)), (2, .ref (ad G 27)), (3, .int i)] [] ce' sl' n' sh' (mx J' X') L' R') : VS G sb Ln xs 520 [(0, .ref sb), (1, .ref (ad G 0)), (2, .ref (ad G 27)), (3, .int i)] [] ce sl n sh (mx J X) L R := by
  have hw := hJ.1.1
  obtain ⟨h1, hs, h24, h27, h30, h35, hck, h25, hv, hpv, hcl, hld, h12, hlen, hE, hb0⟩ := XF hJ
  refine VS_aload_n (pc := 520) 1 dL_law_520 rfl rfl ?_
  refine VS_aload_n (pc := 521) 0 dL_law_521 rfl rfl ?_
  refine VS_iload_n (pc := 522) 3 dL_law_522 rfl rfl ?_
  refine VS_iconst (pc := 523) (v := 1) dL_law_523 rfl ?_
  refine VS_iadd (pc := 524) dL_law_524 (fun x_524_469 e_524_469 => ?_)
  have t_524_469 : x_524_469.toInt = i.toInt + 1 := addT e_524_469 rfl rfl (by omega) (by omega)
  refine VS_saldk (pc := 525) (j := 6 * t + 1) dL_law_525 (by omega) (by omega) ?_
  refine VS_aload_n (pc := 526) 0 dL_law_526 rfl rfl ?_
  refine VS_iload_n (pc := 527) 3 dL_law_527 rfl rfl ?_
  refine VS_iconst (pc := 528) (v := 2) dL_law_528 rfl ?_
  refine VS_iadd (pc := 529) dL_law_529 (fun x_529_475 e_529_475 => ?_)
  have t_529_475 : x_529_475.toInt = i.toInt + 2 := addT e_529_475 rfl rfl (by omega) (by omega)
  refine VS_saldk (pc := 530) (j := 6 * t + 2) dL_law_530 (by omega) (by omega) ?_
  refine VS_callV (pc := 531) (As := [.int (xs (6 * t + 1)), .int (xs (6 * t + 2))]) (st := []) (c_X11_speed G (t : Int) X (xs (6 * t + 1)) (xs (6 * t + 2)) hJ ) mf_X11_speed ml_L_55 iv_X11_speed (wN hw (by decide)) (wS1 hw (by decide) rfl) (by decide) rfl dL_law_531 rfl rfl (by omega) (by omega) (by omega) (Nat.le_of_ble_eq_true rfl) (fun r1 n1 sh1 I1 L1 R1 hq1 => ?_)
  obtain ⟨hA, hfr, hw1, w1, rfl⟩ := hq1
  obtain ⟨J1, rfl⟩ : ∃ J1, I1 = mx J1 X := ⟨I1, mx_ag (fun a h1 h2 => (hfr a h1 h2).trans (congrFun (rfl : mx J X = mx J X) a |>.trans (mx_i ⟨h1, h2⟩)))⟩
  refine VS_aload_n (pc := 534) 2 dL_law_534 rfl rfl ?_
  refine VS_aload_n (pc := 535) 0 dL_law_535 rfl rfl ?_
  refine VS_iload_n (pc := 536) 3 dL_law_536 rfl rfl ?_
  refine VS_iconst (pc := 537) (v := 1) dL_law_537 rfl ?_
  refine VS_iadd (pc := 538) dL_law_538 (fun x_538_485 e_538_485 => ?_)
  have t_538_485 : x_538_485.toInt = i.toInt + 1 := addT e_538_485 rfl rfl (by omega) (by omega)
  refine VS_saldk (pc := 539) (j := 6 * t + 1) dL_law_539 (by omega) (by omega) ?_
  refine VS_aload_n (pc := 540) 0 dL_law_540 rfl rfl ?_
  refine VS_iload_n (pc := 541) 3 dL_law_541 rfl rfl ?_
  refine VS_iconst (pc := 542) (v := 2) dL_law_542 rfl ?_
  refine VS_iadd (pc := 543) dL_law_543 (fun x_543_491 e_543_491 => ?_)
  have t_543_491 : x_543_491.toInt = i.toInt + 2 := addT e_543_491 rfl rfl (by omega) (by omega)
  refine VS_saldk (pc := 544) (j := 6 * t + 2) dL_law_544 (by omega) (by omega) ?_
  refine VS_callV (pc := 545) (As := [.int (xs (6 * t + 1)), .int (xs (6 * t + 2))]) (st := [w1]) (c_X12_speed G (xs (6 * t + 1)) (xs (6 * t + 2)) hw1 h27) mf_X12_speed ml_L_58 iv_X12_speed (wN hw1 (by decide)) (wS1 hw1 (by decide) rfl) (by decide) rfl dL_law_545 rfl rfl (by omega) (by omega) (by omega) (by have := cat2 w1; show w1.category + 0 ≤ 8; omega) (fun r2 n2 sh2 I2 L2 R2 hq2 => ?_)
  obtain ⟨rfl, rfl, rfl, rfl, hq2⟩ := hq2
  obtain ⟨X2, rfl, hp⟩ := Lo_qi Lp_sSpeed hq2
  obtain ⟨e1, hJ3⟩ := two hA hp
  obtain ⟨v2, -, rfl⟩ := id hp
  obtain rfl := Option.some.inj e1
  refine VS_icmp_eq (pc := 548) (tgt := 1332) dL_law_548 (by decide) (fun _ => ?_) (fun c => absurd rfl c)
  exact K _ _ _ _ _ _ _ _ hJ3 (by omega) (by omega)
set_option maxRecDepth 100000 in
set_option maxHeartbeats 4000000 in
theorem law_c10 (G : vG) {sb Ln : Nat} {xs : Nat → Int32} {n ce sl : Nat} {sh : vS} {J X : vI} {L : vL} {R : vR} (t : Nat) (i : Int32) (hJ : JZ (t : Int) n sh (mx J X) L R X) (hi : i.toInt = 6 * (t : Int)) (hLn : 6 * t + 6 ≤ Ln) (hL : Ln ≤ 3072) (hce : ce ≤ 60 + 4 * t) (hsl : sl ≤ 1500 + 40 * t) (K : ∀ (n' : Nat) (sh' : vS) (J' : vI) (L' : vL) (R' : vR) (X' : vI) (ce' sl' : Nat), JZ ((t : Int) + 1) n' sh' (mx J' X') L' R' X' → ce' ≤ 60 + 4 * (t + 1) → sl' ≤ 1500 + 40 * (t + 1) → VS G sb Ln xs 1332 [(0, .ref sb), (1, .ref (ad G 0)), (2, .ref (ad G 27)), (3, .int i)] [] ce' sl' n' sh' (mx J' X') L' R') : VS G sb Ln xs 553 [(0, .ref sb), (1, .ref (ad G 0)), (2, .ref (ad G 27)), (3, .int i)] [] ce sl n sh (mx J X) L R := by
  have hw := hJ.1.1
  obtain ⟨h1, hs, h24, h27, h30, h35, hck, h25, hv, hpv, hcl, hld, h12, hlen, hE, hb0⟩ := XF hJ
  refine VS_aload_n (pc := 553) 1 dL_law_553 rfl rfl ?_
  refine VS_aload_n (pc := 554) 0 dL_law_554 rfl rfl ?_
  refine VS_iload_n (pc := 555) 3 dL_law_555 rfl rfl ?_
  refine VS_iconst (pc := 556) (v := 1) dL_law_556 rfl ?_
  refine VS_iadd (pc := 557) dL_law_557 (fun x_557_510 e_557_510 => ?_)
  have t_557_510 : x_557_510.toInt = i.toInt + 1 := addT e_557_510 rfl rfl (by omega) (by omega)
  refine VS_saldk (pc := 558) (j := 6 * t + 1) dL_law_558 (by omega) (by omega) ?_
  refine VS_callV (pc := 559) (As := [.int (xs (6 * t + 1))]) (st := []) (c_X11_due G (t : Int) X (xs (6 * t + 1)) hJ ) mf_X11_due ml_L_59 iv_X11_due (wN hw (by decide)) (wS1 hw (by decide) rfl) (by decide) rfl dL_law_559 rfl rfl (by omega) (by omega) (by omega) (Nat.le_of_ble_eq_true rfl) (fun r1 n1 sh1 I1 L1 R1 hq1 => ?_)
  obtain ⟨hA, hfr, hw1, w1, rfl⟩ := hq1
  obtain ⟨J1, rfl⟩ : ∃ J1, I1 = mx J1 X := ⟨I1, mx_ag (fun a h1 h2 => (hfr a h1 h2).trans (congrFun (rfl : mx J X = mx J X) a |>.trans (mx_i ⟨h1, h2⟩)))⟩
  refine VS_aload_n (pc := 562) 2 dL_law_562 rfl rfl ?_
  refine VS_aload_n (pc := 563) 0 dL_law_563 rfl rfl ?_
  refine VS_iload_n (pc := 564) 3 dL_law_564 rfl rfl ?_
  refine VS_iconst (pc := 565) (v := 1) dL_law_565 rfl ?_
  refine VS_iadd (pc := 566) dL_law_566 (fun x_566_520 e_566_520 => ?_)
  have t_566_520 : x_566_520.toInt = i.toInt + 1 := addT e_566_520 rfl rfl (by omega) (by omega)
  refine VS_saldk (pc := 567) (j := 6 * t + 1) dL_law_567 (by omega) (by omega) ?_
  refine VS_callV (pc := 568) (As := [.int (xs (6 * t + 1))]) (st := [w1]) (c_X12_due G (xs (6 * t + 1)) hw1 h27 h24.1 h25.2 hv) mf_X12_due ml_L_63 iv_X12_due (wN hw1 (by decide)) (wS1 hw1 (by decide) rfl) (by decide) rfl dL_law_568 rfl rfl (by omega) (by omega) (by omega) (by have := cat2 w1; show w1.category + 0 ≤ 8; omega) (fun r2 n2 sh2 I2 L2 R2 hq2 => ?_)
  obtain ⟨rfl, rfl, rfl, rfl, hq2⟩ := hq2
  obtain ⟨X2, rfl, hp⟩ := Lo_zL (J := J1) (X := X) Ln_sDue hq2
  obtain ⟨e1, hJ3⟩ := two hA hp
  obtain ⟨-, v2, rfl, -⟩ := id hp
  obtain rfl := Option.some.inj e1
  refine VS_lcmp (pc := 571) dL_law_571 (fun z ez => ?_)
  have hz0 : z.toInt = 0 := (lcT_eq ez).mpr rfl
  refine VS_if_eq (pc := 572) (tgt := 1332) dL_law_572 (by decide) (fun _ => ?_) (fun c => absurd hz0 c)
  exact K _ _ _ _ _ _ _ _ hJ3 (by omega) (by omega)
set_option maxRecDepth 100000 in
set_option maxHeartbeats 4000000 in
theorem law_c11 (G : vG) {sb Ln : Nat} {xs : Nat → Int32} {n ce sl : Nat} {sh : vS} {J X : vI} {L : vL} {R : vR} (t : Nat) (i : Int32) (hJ : JZ (t : Int) n sh (mx J X) L R X) (hi : i.toInt = 6 * (t : Int)) (hLn : 6 * t + 6 ≤ Ln) (hL : Ln ≤ 3072) (hce : ce ≤ 60 + 4 * t) (hsl : sl ≤ 1500 + 40 * t) (K : ∀ (n' : Nat) (sh' : vS) (J' : vI) (L' : vL) (R' : vR) (X' : vI) (ce' sl' : Nat), JZ ((t : Int) + 1) n' sh' (mx J' X') L' R' X' → ce' ≤ 60 + 4 * (t + 1) → sl' ≤ 1500 + 40 * (t + 1) → VS G sb Ln xs 1332 [(0, .ref sb), (1, .ref (ad G 0)), (2, .ref (ad G 27)), (3, .int i)] [] ce' sl' n' sh' (mx J' X') L' R') : VS G sb Ln xs 577 [(0, .ref sb), (1, .ref (ad G 0)), (2, .ref (ad G 27)), (3, .int i)] [] ce sl n sh (mx J X) L R := by
  have hw := hJ.1.1
  obtain ⟨h1, hs, h24, h27, h30, h35, hck, h25, hv, hpv, hcl, hld, h12, hlen, hE, hb0⟩ := XF hJ
  refine VS_aload_n (pc := 577) 1 dL_law_577 rfl rfl ?_
  refine VS_aload_n (pc := 578) 0 dL_law_578 rfl rfl ?_
  refine VS_iload_n (pc := 579) 3 dL_law_579 rfl rfl ?_
  refine VS_iconst (pc := 580) (v := 1) dL_law_580 rfl ?_
  refine VS_iadd (pc := 581) dL_law_581 (fun x_581_541 e_581_541 => ?_)
  have t_581_541 : x_581_541.toInt = i.toInt + 1 := addT e_581_541 rfl rfl (by omega) (by omega)
  refine VS_saldk (pc := 582) (j := 6 * t + 1) dL_law_582 (by omega) (by omega) ?_
  refine VS_callV (pc := 583) (As := [.int (xs (6 * t + 1))]) (st := []) (c_X11_roadAt G (t : Int) X (xs (6 * t + 1)) hJ ) mf_X11_roadAt ml_L_64 iv_X11_roadAt (wN hw (by decide)) (wS1 hw (by decide) rfl) (by decide) rfl dL_law_583 rfl rfl (by omega) (by omega) (by omega) (Nat.le_of_ble_eq_true rfl) (fun r1 n1 sh1 I1 L1 R1 hq1 => ?_)
  obtain ⟨hA, hfr, hw1, w1, rfl⟩ := hq1
  obtain ⟨J1, rfl⟩ : ∃ J1, I1 = mx J1 X := ⟨I1, mx_ag (fun a h1 h2 => (hfr a h1 h2).trans (congrFun (rfl : mx J X = mx J X) a |>.trans (mx_i ⟨h1, h2⟩)))⟩
  refine VS_aload_n (pc := 586) 2 dL_law_586 rfl rfl ?_
  refine VS_aload_n (pc := 587) 0 dL_law_587 rfl rfl ?_
  refine VS_iload_n (pc := 588) 3 dL_law_588 rfl rfl ?_
  refine VS_iconst (pc := 589) (v := 1) dL_law_589 rfl ?_
  refine VS_iadd (pc := 590) dL_law_590 (fun x_590_551 e_590_551 => ?_)
  have t_590_551 : x_590_551.toInt = i.toInt + 1 := addT e_590_551 rfl rfl (by omega) (by omega)
  refine VS_saldk (pc := 591) (j := 6 * t + 1) dL_law_591 (by omega) (by omega) ?_
  refine VS_callV (pc := 592) (As := [.int (xs (6 * t + 1))]) (st := [w1]) (c_X12_roadAt G (xs (6 * t + 1)) hw1 h24 hld) mf_X12_roadAt ml_L_67 iv_X12_roadAt (wN hw1 (by decide)) (wS1 hw1 (by decide) rfl) (by decide) rfl dL_law_592 rfl rfl (by omega) (by omega) (by omega) (by have := cat2 w1; show w1.category + 0 ≤ 8; omega) (fun r2 n2 sh2 I2 L2 R2 hq2 => ?_)
  obtain ⟨rfl, rfl, rfl, rfl, hq2⟩ := hq2
  obtain ⟨X2, rfl, hp⟩ := Lo_iN (J := J1) (X := X) Ln_sRoadAt hq2
  obtain ⟨e1, hJ3⟩ := two hA hp
  obtain ⟨-, v2, rfl, -⟩ := id hp
  obtain rfl := Option.some.inj e1
  refine VS_icmp_eq (pc := 595) (tgt := 1332) dL_law_595 (by decide) (fun _ => ?_) (fun c => absurd rfl c)
  exact K _ _ _ _ _ _ _ _ hJ3 (by omega) (by omega)
set_option maxRecDepth 100000 in
set_option maxHeartbeats 4000000 in
theorem law_c12 (G : vG) {sb Ln : Nat} {xs : Nat → Int32} {n ce sl : Nat} {sh : vS} {J X : vI} {L : vL} {R : vR} (t : Nat) (i : Int32) (hJ : JZ (t : Int) n sh (mx J X) L R X) (hi : i.toInt = 6 * (t : Int)) (hLn : 6 * t + 6 ≤ Ln) (hL : Ln ≤ 3072) (hce : ce ≤ 60 + 4 * t) (hsl : sl ≤ 1500 + 40 * t) (K : ∀ (n' : Nat) (sh' : vS) (J' : vI) (L' : vL) (R' : vR) (X' : vI) (ce' sl' : Nat), JZ ((t : Int) + 1) n' sh' (mx J' X') L' R' X' → ce' ≤ 60 + 4 * (t + 1) → sl' ≤ 1500 + 40 * (t + 1) → VS G sb Ln xs 1332 [(0, .ref sb), (1, .ref (ad G 0)), (2, .ref (ad G 27)), (3, .int i)] [] ce' sl' n' sh' (mx J' X') L' R') : VS G sb Ln xs 600 [(0, .ref sb), (1, .ref (ad G 0)), (2, .ref (ad G 27)), (3, .int i)] [] ce sl n sh (mx J X) L R := by
  have hw := hJ.1.1
  obtain ⟨h1, hs, h24, h27, h30, h35, hck, h25, hv, hpv, hcl, hld, h12, hlen, hE, hb0⟩ := XF hJ
  refine VS_aload_n (pc := 600) 1 dL_law_600 rfl rfl ?_
  refine VS_aload_n (pc := 601) 0 dL_law_601 rfl rfl ?_
  refine VS_iload_n (pc := 602) 3 dL_law_602 rfl rfl ?_
  refine VS_iconst (pc := 603) (v := 1) dL_law_603 rfl ?_
  refine VS_iadd (pc := 604) dL_law_604 (fun x_604_570 e_604_570 => ?_)
  have t_604_570 : x_604_570.toInt = i.toInt + 1 := addT e_604_570 rfl rfl (by omega) (by omega)
  refine VS_saldk (pc := 605) (j := 6 * t + 1) dL_law_605 (by omega) (by omega) ?_
  refine VS_callV (pc := 606) (As := [.int (xs (6 * t + 1))]) (st := []) (c_X11_control G (t : Int) X (xs (6 * t + 1)) hJ ) mf_X11_control ml_L_68 iv_X11_control (wN hw (by decide)) (wS1 hw (by decide) rfl) (by decide) rfl dL_law_606 rfl rfl (by omega) (by omega) (by omega) (Nat.le_of_ble_eq_true rfl) (fun r1 n1 sh1 I1 L1 R1 hq1 => ?_)
  obtain ⟨hA, hfr, hw1, w1, rfl⟩ := hq1
  obtain ⟨J1, rfl⟩ : ∃ J1, I1 = mx J1 X := ⟨I1, mx_ag (fun a h1 h2 => (hfr a h1 h2).trans (congrFun (rfl : mx J X = mx J X) a |>.trans (mx_i ⟨h1, h2⟩)))⟩
  refine VS_aload_n (pc := 609) 2 dL_law_609 rfl rfl ?_
  refine VS_aload_n (pc := 610) 0 dL_law_610 rfl rfl ?_
  refine VS_iload_n (pc := 611) 3 dL_law_611 rfl rfl ?_
  refine VS_iconst (pc := 612) (v := 1) dL_law_612 rfl ?_
  refine VS_iadd (pc := 613) dL_law_613 (fun x_613_580 e_613_580 => ?_)
  have t_613_580 : x_613_580.toInt = i.toInt + 1 := addT e_613_580 rfl rfl (by omega) (by omega)
  refine VS_saldk (pc := 614) (j := 6 * t + 1) dL_law_614 (by omega) (by omega) ?_
  refine VS_callV (pc := 615) (As := [.int (xs (6 * t + 1))]) (st := [w1]) (c_X12_control G (xs (6 * t + 1)) hw1 h30) mf_X12_control ml_L_71 iv_X12_control (wN hw1 (by decide)) (wS1 hw1 (by decide) rfl) (by decide) rfl dL_law_615 rfl rfl (by omega) (by omega) (by omega) (by have := cat2 w1; show w1.category + 0 ≤ 8; omega) (fun r2 n2 sh2 I2 L2 R2 hq2 => ?_)
  obtain ⟨rfl, rfl, rfl, rfl, hq2⟩ := hq2
  obtain ⟨X2, rfl, hp⟩ := Lo_qi Lp_sControl hq2
  obtain ⟨e1, hJ3⟩ := two hA hp
  obtain ⟨v2, -, rfl⟩ := id hp
  obtain rfl := Option.some.inj e1
  refine VS_icmp_eq (pc := 618) (tgt := 1332) dL_law_618 (by decide) (fun _ => ?_) (fun c => absurd rfl c)
  exact K _ _ _ _ _ _ _ _ hJ3 (by omega) (by omega)
set_option maxRecDepth 100000 in
set_option maxHeartbeats 4000000 in
theorem law_c13 (G : vG) {sb Ln : Nat} {xs : Nat → Int32} {n ce sl : Nat} {sh : vS} {J X : vI} {L : vL} {R : vR} (t : Nat) (i : Int32) (hJ : JZ (t : Int) n sh (mx J X) L R X) (hi : i.toInt = 6 * (t : Int)) (hLn : 6 * t + 6 ≤ Ln) (hL : Ln ≤ 3072) (hce : ce ≤ 60 + 4 * t) (hsl : sl ≤ 1500 + 40 * t) (K : ∀ (n' : Nat) (sh' : vS) (J' : vI) (L' : vL) (R' : vR) (X' : vI) (ce' sl' : Nat), JZ ((t : Int) + 1) n' sh' (mx J' X') L' R' X' → ce' ≤ 60 + 4 * (t + 1) → sl' ≤ 1500 + 40 * (t + 1) → VS G sb Ln xs 1332 [(0, .ref sb), (1, .ref (ad G 0)), (2, .ref (ad G 27)), (3, .int i)] [] ce' sl' n' sh' (mx J' X') L' R') : VS G sb Ln xs 623 [(0, .ref sb), (1, .ref (ad G 0)), (2, .ref (ad G 27)), (3, .int i)] [] ce sl n sh (mx J X) L R := by
  have hw := hJ.1.1
  obtain ⟨h1, hs, h24, h27, h30, h35, hck, h25, hv, hpv, hcl, hld, h12, hlen, hE, hb0⟩ := XF hJ
  refine VS_aload_n (pc := 623) 1 dL_law_623 rfl rfl ?_
  refine VS_aload_n (pc := 624) 0 dL_law_624 rfl rfl ?_
  refine VS_iload_n (pc := 625) 3 dL_law_625 rfl rfl ?_
  refine VS_iconst (pc := 626) (v := 1) dL_law_626 rfl ?_
  refine VS_iadd (pc := 627) dL_law_627 (fun x_627_599 e_627_599 => ?_)
  have t_627_599 : x_627_599.toInt = i.toInt + 1 := addT e_627_599 rfl rfl (by omega) (by omega)
  refine VS_saldk (pc := 628) (j := 6 * t + 1) dL_law_628 (by omega) (by omega) ?_
  refine VS_aload_n (pc := 629) 0 dL_law_629 rfl rfl ?_
  refine VS_iload_n (pc := 630) 3 dL_law_630 rfl rfl ?_
  refine VS_iconst (pc := 631) (v := 2) dL_law_631 rfl ?_
  refine VS_iadd (pc := 632) dL_law_632 (fun x_632_605 e_632_605 => ?_)
  have t_632_605 : x_632_605.toInt = i.toInt + 2 := addT e_632_605 rfl rfl (by omega) (by omega)
  refine VS_saldk (pc := 633) (j := 6 * t + 2) dL_law_633 (by omega) (by omega) ?_
  refine VS_aload_n (pc := 634) 0 dL_law_634 rfl rfl ?_
  refine VS_iload_n (pc := 635) 3 dL_law_635 rfl rfl ?_
  refine VS_iconst (pc := 636) (v := 3) dL_law_636 rfl ?_
  refine VS_iadd (pc := 637) dL_law_637 (fun x_637_611 e_637_611 => ?_)
  have t_637_611 : x_637_611.toInt = i.toInt + 3 := addT e_637_611 rfl rfl (by omega) (by omega)
  refine VS_saldk (pc := 638) (j := 6 * t + 3) dL_law_638 (by omega) (by omega) ?_
  refine VS_aload_n (pc := 639) 0 dL_law_639 rfl rfl ?_
  refine VS_iload_n (pc := 640) 3 dL_law_640 rfl rfl ?_
  refine VS_iconst (pc := 641) (v := 4) dL_law_641 rfl ?_
  refine VS_iadd (pc := 642) dL_law_642 (fun x_642_617 e_642_617 => ?_)
  have t_642_617 : x_642_617.toInt = i.toInt + 4 := addT e_642_617 rfl rfl (by omega) (by omega)
  refine VS_saldk (pc := 643) (j := 6 * t + 4) dL_law_643 (by omega) (by omega) ?_
  refine VS_aload_n (pc := 644) 0 dL_law_644 rfl rfl ?_
  refine VS_iload_n (pc := 645) 3 dL_law_645 rfl rfl ?_
  refine VS_iconst (pc := 646) (v := 5) dL_law_646 rfl ?_
  refine VS_iadd (pc := 647) dL_law_647 (fun x_647_623 e_647_623 => ?_)
  have t_647_623 : x_647_623.toInt = i.toInt + 5 := addT e_647_623 rfl rfl (by omega) (by omega)
  refine VS_saldk (pc := 648) (j := 6 * t + 5) dL_law_648 (by omega) (by omega) ?_
  refine VS_callV (pc := 649) (As := [.int (xs (6 * t + 1)), .int (xs (6 * t + 2)), .int (xs (6 * t + 3)), .int (xs (6 * t + 4)), .int (xs (6 * t + 5))]) (st := []) (c_X11_watch G (t : Int) X (xs (6 * t + 1)) (xs (6 * t + 2)) (xs (6 * t + 3)) (xs (6 * t + 4)) (xs (6 * t + 5)) hJ ) mf_X11_watch ml_L_72 iv_X11_watch (wN hw (by decide)) (wS1 hw (by decide) rfl) (by decide) rfl dL_law_649 rfl rfl (by omega) (by omega) (by omega) (Nat.le_of_ble_eq_true rfl) (fun r1 n1 sh1 I1 L1 R1 hq1 => ?_)
  obtain ⟨hA, hfr, hw1, w1, rfl⟩ := hq1
  obtain ⟨J1, rfl⟩ : ∃ J1, I1 = mx J1 X := ⟨I1, mx_ag (fun a h1 h2 => (hfr a h1 h2).trans (congrFun (rfl : mx J X = mx J X) a |>.trans (mx_i ⟨h1, h2⟩)))⟩
  refine VS_aload_n (pc := 652) 2 dL_law_652 rfl rfl ?_
  refine VS_aload_n (pc := 653) 0 dL_law_653 rfl rfl ?_
  refine VS_iload_n (pc := 654) 3 dL_law_654 rfl rfl ?_
  refine VS_iconst (pc := 655) (v := 1) dL_law_655 rfl ?_
  refine VS_iadd (pc := 656) dL_law_656 (fun x_656_633 e_656_633 => ?_)
  have t_656_633 : x_656_633.toInt = i.toInt + 1 := addT e_656_633 rfl rfl (by omega) (by omega)
  refine VS_saldk (pc := 657) (j := 6 * t + 1) dL_law_657 (by omega) (by omega) ?_
  refine VS_aload_n (pc := 658) 0 dL_law_658 rfl rfl ?_
  refine VS_iload_n (pc := 659) 3 dL_law_659 rfl rfl ?_
  refine VS_iconst (pc := 660) (v := 2) dL_law_660 rfl ?_
  refine VS_iadd (pc := 661) dL_law_661 (fun x_661_639 e_661_639 => ?_)
  have t_661_639 : x_661_639.toInt = i.toInt + 2 := addT e_661_639 rfl rfl (by omega) (by omega)
  refine VS_saldk (pc := 662) (j := 6 * t + 2) dL_law_662 (by omega) (by omega) ?_
  refine VS_aload_n (pc := 663) 0 dL_law_663 rfl rfl ?_
  refine VS_iload_n (pc := 664) 3 dL_law_664 rfl rfl ?_
  refine VS_iconst (pc := 665) (v := 3) dL_law_665 rfl ?_
  refine VS_iadd (pc := 666) dL_law_666 (fun x_666_645 e_666_645 => ?_)
  have t_666_645 : x_666_645.toInt = i.toInt + 3 := addT e_666_645 rfl rfl (by omega) (by omega)
  refine VS_saldk (pc := 667) (j := 6 * t + 3) dL_law_667 (by omega) (by omega) ?_
  refine VS_aload_n (pc := 668) 0 dL_law_668 rfl rfl ?_
  refine VS_iload_n (pc := 669) 3 dL_law_669 rfl rfl ?_
  refine VS_iconst (pc := 670) (v := 4) dL_law_670 rfl ?_
  refine VS_iadd (pc := 671) dL_law_671 (fun x_671_651 e_671_651 => ?_)
  have t_671_651 : x_671_651.toInt = i.toInt + 4 := addT e_671_651 rfl rfl (by omega) (by omega)
  refine VS_saldk (pc := 672) (j := 6 * t + 4) dL_law_672 (by omega) (by omega) ?_
  refine VS_aload_n (pc := 673) 0 dL_law_673 rfl rfl ?_
  refine VS_iload_n (pc := 674) 3 dL_law_674 rfl rfl ?_
  refine VS_iconst (pc := 675) (v := 5) dL_law_675 rfl ?_
  refine VS_iadd (pc := 676) dL_law_676 (fun x_676_657 e_676_657 => ?_)
  have t_676_657 : x_676_657.toInt = i.toInt + 5 := addT e_676_657 rfl rfl (by omega) (by omega)
  refine VS_saldk (pc := 677) (j := 6 * t + 5) dL_law_677 (by omega) (by omega) ?_
  refine VS_callV (pc := 678) (As := [.int (xs (6 * t + 1)), .int (xs (6 * t + 2)), .int (xs (6 * t + 3)), .int (xs (6 * t + 4)), .int (xs (6 * t + 5))]) (st := [w1]) (c_X12_watch G (xs (6 * t + 1)) (xs (6 * t + 2)) (xs (6 * t + 3)) (xs (6 * t + 4)) (xs (6 * t + 5)) hw1 h30) mf_X12_watch ml_L_76 iv_X12_watch (wN hw1 (by decide)) (wS1 hw1 (by decide) rfl) (by decide) rfl dL_law_678 rfl rfl (by omega) (by omega) (by omega) (by have := cat2 w1; show w1.category + 0 ≤ 8; omega) (fun r2 n2 sh2 I2 L2 R2 hq2 => ?_)
  obtain ⟨rfl, rfl, rfl, rfl, hq2⟩ := hq2
  obtain ⟨X2, rfl, hp⟩ := Lo_qi Lp_sWatch hq2
  obtain ⟨e1, hJ3⟩ := two hA hp
  obtain ⟨v2, -, rfl⟩ := id hp
  obtain rfl := Option.some.inj e1
  refine VS_icmp_eq (pc := 681) (tgt := 1332) dL_law_681 (by decide) (fun _ => ?_) (fun c => absurd rfl c)
  exact K _ _ _ _ _ _ _ _ hJ3 (by omega) (by omega)
set_option maxRecDepth 100000 in
set_option maxHeartbeats 4000000 in
theorem law_c14 (G : vG) {sb Ln : Nat} {xs : Nat → Int32} {n ce sl : Nat} {sh : vS} {J X : vI} {L : vL} {R : vR} (t : Nat) (i : Int32) (hJ : JZ (t : Int) n sh (mx J X) L R X) (hi : i.toInt = 6 * (t : Int)) (hLn : 6 * t + 6 ≤ Ln) (hL : Ln ≤ 3072) (hce : ce ≤ 60 + 4 * t) (hsl : sl ≤ 1500 + 40 * t) (K : ∀ (n' : Nat) (sh' : vS) (J' : vI) (L' : vL) (R' : vR) (X' : vI) (ce' sl' : Nat), JZ ((t : Int) + 1) n' sh' (mx J' X') L' R' X' → ce' ≤ 60 + 4 * (t + 1) → sl' ≤ 1500 + 40 * (t + 1) → VS G sb Ln xs 1332 [(0, .ref sb), (1, .ref (ad G 0)), (2, .ref (ad G 27)), (3, .int i)] [] ce' sl' n' sh' (mx J' X') L' R') : VS G sb Ln xs 686 [(0, .ref sb), (1, .ref (ad G 0)), (2, .ref (ad G 27)), (3, .int i)] [] ce sl n sh (mx J X) L R := by
  have hw := hJ.1.1
  obtain ⟨h1, hs, h24, h27, h30, h35, hck, h25, hv, hpv, hcl, hld, h12, hlen, hE, hb0⟩ := XF hJ
  refine VS_aload_n (pc := 686) 1 dL_law_686 rfl rfl ?_
  refine VS_aload_n (pc := 687) 0 dL_law_687 rfl rfl ?_
  refine VS_iload_n (pc := 688) 3 dL_law_688 rfl rfl ?_
  refine VS_iconst (pc := 689) (v := 1) dL_law_689 rfl ?_
  refine VS_iadd (pc := 690) dL_law_690 (fun x_690_676 e_690_676 => ?_)
  have t_690_676 : x_690_676.toInt = i.toInt + 1 := addT e_690_676 rfl rfl (by omega) (by omega)
  refine VS_saldk (pc := 691) (j := 6 * t + 1) dL_law_691 (by omega) (by omega) ?_
  refine VS_aload_n (pc := 692) 0 dL_law_692 rfl rfl ?_
  refine VS_iload_n (pc := 693) 3 dL_law_693 rfl rfl ?_
  refine VS_iconst (pc := 694) (v := 2) dL_law_694 rfl ?_
  refine VS_iadd (pc := 695) dL_law_695 (fun x_695_682 e_695_682 => ?_)
  have t_695_682 : x_695_682.toInt = i.toInt + 2 := addT e_695_682 rfl rfl (by omega) (by omega)
  refine VS_saldk (pc := 696) (j := 6 * t + 2) dL_law_696 (by omega) (by omega) ?_
  refine VS_callV (pc := 697) (As := [.int (xs (6 * t + 1)), .int (xs (6 * t + 2))]) (st := []) (c_X11_right G (t : Int) X (xs (6 * t + 1)) (xs (6 * t + 2)) hJ ) mf_X11_right ml_L_77 iv_X11_right (wN hw (by decide)) (wS1 hw (by decide) rfl) (by decide) rfl dL_law_697 rfl rfl (by omega) (by omega) (by omega) (Nat.le_of_ble_eq_true rfl) (fun r1 n1 sh1 I1 L1 R1 hq1 => ?_)
  obtain ⟨hA, hfr, hw1, w1, rfl⟩ := hq1
  obtain ⟨J1, rfl⟩ : ∃ J1, I1 = mx J1 X := ⟨I1, mx_ag (fun a h1 h2 => (hfr a h1 h2).trans (congrFun (rfl : mx J X = mx J X) a |>.trans (mx_i ⟨h1, h2⟩)))⟩
  refine VS_aload_n (pc := 700) 2 dL_law_700 rfl rfl ?_
  refine VS_aload_n (pc := 701) 0 dL_law_701 rfl rfl ?_
  refine VS_iload_n (pc := 702) 3 dL_law_702 rfl rfl ?_
  refine VS_iconst (pc := 703) (v := 1) dL_law_703 rfl ?_
  refine VS_iadd (pc := 704) dL_law_704 (fun x_704_692 e_704_692 => ?_)
  have t_704_692 : x_704_692.toInt = i.toInt + 1 := addT e_704_692 rfl rfl (by omega) (by omega)
  refine VS_saldk (pc := 705) (j := 6 * t + 1) dL_law_705 (by omega) (by omega) ?_
  refine VS_aload_n (pc := 706) 0 dL_law_706 rfl rfl ?_
  refine VS_iload_n (pc := 707) 3 dL_law_707 rfl rfl ?_
  refine VS_iconst (pc := 708) (v := 2) dL_law_708 rfl ?_
  refine VS_iadd (pc := 709) dL_law_709 (fun x_709_698 e_709_698 => ?_)
  have t_709_698 : x_709_698.toInt = i.toInt + 2 := addT e_709_698 rfl rfl (by omega) (by omega)
  refine VS_saldk (pc := 710) (j := 6 * t + 2) dL_law_710 (by omega) (by omega) ?_
  refine VS_callV (pc := 711) (As := [.int (xs (6 * t + 1)), .int (xs (6 * t + 2))]) (st := [w1]) (c_X12_right G (xs (6 * t + 1)) (xs (6 * t + 2)) hw1 h30 hck) mf_X12_right ml_L_81 iv_X12_right (wN hw1 (by decide)) (wS1 hw1 (by decide) rfl) (by decide) rfl dL_law_711 rfl rfl (by omega) (by omega) (by omega) (by have := cat2 w1; show w1.category + 0 ≤ 8; omega) (fun r2 n2 sh2 I2 L2 R2 hq2 => ?_)
  obtain ⟨rfl, rfl, rfl, rfl, hq2⟩ := hq2
  obtain ⟨X2, rfl, hp⟩ := Lo_zL (J := J1) (X := X) Ln_sRight hq2
  obtain ⟨e1, hJ3⟩ := two hA hp
  obtain ⟨-, v2, rfl, -⟩ := id hp
  obtain rfl := Option.some.inj e1
  refine VS_lcmp (pc := 714) dL_law_714 (fun z ez => ?_)
  have hz0 : z.toInt = 0 := (lcT_eq ez).mpr rfl
  refine VS_if_eq (pc := 715) (tgt := 1332) dL_law_715 (by decide) (fun _ => ?_) (fun c => absurd hz0 c)
  exact K _ _ _ _ _ _ _ _ hJ3 (by omega) (by omega)
set_option maxRecDepth 100000 in
set_option maxHeartbeats 4000000 in
theorem law_c15 (G : vG) {sb Ln : Nat} {xs : Nat → Int32} {n ce sl : Nat} {sh : vS} {J X : vI} {L : vL} {R : vR} (t : Nat) (i : Int32) (hJ : JZ (t : Int) n sh (mx J X) L R X) (hi : i.toInt = 6 * (t : Int)) (hLn : 6 * t + 6 ≤ Ln) (hL : Ln ≤ 3072) (hce : ce ≤ 60 + 4 * t) (hsl : sl ≤ 1500 + 40 * t) (K : ∀ (n' : Nat) (sh' : vS) (J' : vI) (L' : vL) (R' : vR) (X' : vI) (ce' sl' : Nat), JZ ((t : Int) + 1) n' sh' (mx J' X') L' R' X' → ce' ≤ 60 + 4 * (t + 1) → sl' ≤ 1500 + 40 * (t + 1) → VS G sb Ln xs 1332 [(0, .ref sb), (1, .ref (ad G 0)), (2, .ref (ad G 27)), (3, .int i)] [] ce' sl' n' sh' (mx J' X') L' R') : VS G sb Ln xs 720 [(0, .ref sb), (1, .ref (ad G 0)), (2, .ref (ad G 27)), (3, .int i)] [] ce sl n sh (mx J X) L R := by
  have hw := hJ.1.1
  obtain ⟨h1, hs, h24, h27, h30, h35, hck, h25, hv, hpv, hcl, hld, h12, hlen, hE, hb0⟩ := XF hJ
  refine VS_aload_n (pc := 720) 1 dL_law_720 rfl rfl ?_
  refine VS_aload_n (pc := 721) 0 dL_law_721 rfl rfl ?_
  refine VS_iload_n (pc := 722) 3 dL_law_722 rfl rfl ?_
  refine VS_iconst (pc := 723) (v := 1) dL_law_723 rfl ?_
  refine VS_iadd (pc := 724) dL_law_724 (fun x_724_719 e_724_719 => ?_)
  have t_724_719 : x_724_719.toInt = i.toInt + 1 := addT e_724_719 rfl rfl (by omega) (by omega)
  refine VS_saldk (pc := 725) (j := 6 * t + 1) dL_law_725 (by omega) (by omega) ?_
  refine VS_aload_n (pc := 726) 0 dL_law_726 rfl rfl ?_
  refine VS_iload_n (pc := 727) 3 dL_law_727 rfl rfl ?_
  refine VS_iconst (pc := 728) (v := 2) dL_law_728 rfl ?_
  refine VS_iadd (pc := 729) dL_law_729 (fun x_729_725 e_729_725 => ?_)
  have t_729_725 : x_729_725.toInt = i.toInt + 2 := addT e_729_725 rfl rfl (by omega) (by omega)
  refine VS_saldk (pc := 730) (j := 6 * t + 2) dL_law_730 (by omega) (by omega) ?_
  refine VS_if_eq (pc := 731) (tgt := 738) dL_law_731 (by decide) (fun c_731 => ?_) (fun c_731 => ?_)
  · have d_731 : (xs (6 * t + 2)).toInt = 0 := c_731
    refine VS_iconst (pc := 738) (v := 0) dL_law_738 rfl ?_
    refine VS_callV (pc := 739) (As := [.int (xs (6 * t + 1)), .int 0]) (st := []) (c_X11_strike G (t : Int) X (xs (6 * t + 1)) 0 hJ (by decide)) mf_X11_strike ml_L_82 iv_X11_strike (wN hw (by decide)) (wS1 hw (by decide) rfl) (by decide) rfl dL_law_739 rfl rfl (by omega) (by omega) (by omega) (Nat.le_of_ble_eq_true rfl) (fun r1 n1 sh1 I1 L1 R1 hq1 => ?_)
    obtain ⟨hA, hfr, hw1, w1, rfl⟩ := hq1
    obtain ⟨J1, rfl⟩ : ∃ J1, I1 = mx J1 X := ⟨I1, mx_ag (fun a h1 h2 => (hfr a h1 h2).trans (congrFun (rfl : mx J X = mx J X) a |>.trans (mx_i ⟨h1, h2⟩)))⟩
    refine VS_aload_n (pc := 742) 2 dL_law_742 rfl rfl ?_
    refine VS_aload_n (pc := 743) 0 dL_law_743 rfl rfl ?_
    refine VS_iload_n (pc := 744) 3 dL_law_744 rfl rfl ?_
    refine VS_iconst (pc := 745) (v := 1) dL_law_745 rfl ?_
    refine VS_iadd (pc := 746) dL_law_746 (fun x_746_738 e_746_738 => ?_)
    have t_746_738 : x_746_738.toInt = i.toInt + 1 := addT e_746_738 rfl rfl (by omega) (by omega)
    refine VS_saldk (pc := 747) (j := 6 * t + 1) dL_law_747 (by omega) (by omega) ?_
    refine VS_aload_n (pc := 748) 0 dL_law_748 rfl rfl ?_
    refine VS_iload_n (pc := 749) 3 dL_law_749 rfl rfl ?_
    refine VS_iconst (pc := 750) (v := 2) dL_law_750 rfl ?_
    refine VS_iadd (pc := 751) dL_law_751 (fun x_751_744 e_751_744 => ?_)
    have t_751_744 : x_751_744.toInt = i.toInt + 2 := addT e_751_744 rfl rfl (by omega) (by omega)
    refine VS_saldk (pc := 752) (j := 6 * t + 2) dL_law_752 (by omega) (by omega) ?_
    refine VS_if_eq (pc := 753) (tgt := 760) dL_law_753 (by decide) (fun c_753 => ?_) (fun c_753 => ?_)
    · have d_753 : (xs (6 * t + 2)).toInt = 0 := c_753
      refine VS_iconst (pc := 760) (v := 0) dL_law_760 rfl ?_
      refine VS_callV (pc := 761) (As := [.int (xs (6 * t + 1)), .int 0]) (st := [w1]) (c_X12_strike G (xs (6 * t + 1)) 0 hw1 h30 (by decide)) mf_X12_strike ml_L_85 iv_X12_strike (wN hw1 (by decide)) (wS1 hw1 (by decide) rfl) (by decide) rfl dL_law_761 rfl rfl (by omega) (by omega) (by omega) (by have := cat2 w1; show w1.category + 0 ≤ 8; omega) (fun r2 n2 sh2 I2 L2 R2 hq2 => ?_)
      obtain ⟨rfl, rfl, rfl, rfl, hq2⟩ := hq2
      obtain ⟨X2, rfl, hp⟩ := Lo_qi Lp_sStrike hq2
      obtain ⟨e1, hJ3⟩ := two hA hp
      obtain ⟨v2, -, rfl⟩ := id hp
      obtain rfl := Option.some.inj e1
      refine VS_icmp_eq (pc := 764) (tgt := 1332) dL_law_764 (by decide) (fun _ => ?_) (fun c => absurd rfl c)
      exact K _ _ _ _ _ _ _ _ hJ3 (by omega) (by omega)
    · exact absurd (by assumption) c_753
  · have d_731 : ¬ (xs (6 * t + 2)).toInt = 0 := c_731
    refine VS_iconst (pc := 734) (v := 1) dL_law_734 rfl ?_
    refine VS_goto (pc := 735) (tgt := 739) dL_law_735 (by decide) ?_
    refine VS_callV (pc := 739) (As := [.int (xs (6 * t + 1)), .int 1]) (st := []) (c_X11_strike G (t : Int) X (xs (6 * t + 1)) 1 hJ (by decide)) mf_X11_strike ml_L_82 iv_X11_strike (wN hw (by decide)) (wS1 hw (by decide) rfl) (by decide) rfl dL_law_739 rfl rfl (by omega) (by omega) (by omega) (Nat.le_of_ble_eq_true rfl) (fun r1 n1 sh1 I1 L1 R1 hq1 => ?_)
    obtain ⟨hA, hfr, hw1, w1, rfl⟩ := hq1
    obtain ⟨J1, rfl⟩ : ∃ J1, I1 = mx J1 X := ⟨I1, mx_ag (fun a h1 h2 => (hfr a h1 h2).trans (congrFun (rfl : mx J X = mx J X) a |>.trans (mx_i ⟨h1, h2⟩)))⟩
    refine VS_aload_n (pc := 742) 2 dL_law_742 rfl rfl ?_
    refine VS_aload_n (pc := 743) 0 dL_law_743 rfl rfl ?_
    refine VS_iload_n (pc := 744) 3 dL_law_744 rfl rfl ?_
    refine VS_iconst (pc := 745) (v := 1) dL_law_745 rfl ?_
    refine VS_iadd (pc := 746) dL_law_746 (fun x_746_769 e_746_769 => ?_)
    have t_746_769 : x_746_769.toInt = i.toInt + 1 := addT e_746_769 rfl rfl (by omega) (by omega)
    refine VS_saldk (pc := 747) (j := 6 * t + 1) dL_law_747 (by omega) (by omega) ?_
    refine VS_aload_n (pc := 748) 0 dL_law_748 rfl rfl ?_
    refine VS_iload_n (pc := 749) 3 dL_law_749 rfl rfl ?_
    refine VS_iconst (pc := 750) (v := 2) dL_law_750 rfl ?_
    refine VS_iadd (pc := 751) dL_law_751 (fun x_751_775 e_751_775 => ?_)
    have t_751_775 : x_751_775.toInt = i.toInt + 2 := addT e_751_775 rfl rfl (by omega) (by omega)
    refine VS_saldk (pc := 752) (j := 6 * t + 2) dL_law_752 (by omega) (by omega) ?_
    refine VS_if_eq (pc := 753) (tgt := 760) dL_law_753 (by decide) (fun c_753 => ?_) (fun c_753 => ?_)
    · exact absurd c_753 (by assumption)
    · have d_753 : ¬ (xs (6 * t + 2)).toInt = 0 := c_753
      refine VS_iconst (pc := 756) (v := 1) dL_law_756 rfl ?_
      refine VS_goto (pc := 757) (tgt := 761) dL_law_757 (by decide) ?_
      refine VS_callV (pc := 761) (As := [.int (xs (6 * t + 1)), .int 1]) (st := [w1]) (c_X12_strike G (xs (6 * t + 1)) 1 hw1 h30 (by decide)) mf_X12_strike ml_L_85 iv_X12_strike (wN hw1 (by decide)) (wS1 hw1 (by decide) rfl) (by decide) rfl dL_law_761 rfl rfl (by omega) (by omega) (by omega) (by have := cat2 w1; show w1.category + 0 ≤ 8; omega) (fun r2 n2 sh2 I2 L2 R2 hq2 => ?_)
      obtain ⟨rfl, rfl, rfl, rfl, hq2⟩ := hq2
      obtain ⟨X2, rfl, hp⟩ := Lo_qi Lp_sStrike hq2
      obtain ⟨e1, hJ3⟩ := two hA hp
      obtain ⟨v2, -, rfl⟩ := id hp
      obtain rfl := Option.some.inj e1
      refine VS_icmp_eq (pc := 764) (tgt := 1332) dL_law_764 (by decide) (fun _ => ?_) (fun c => absurd rfl c)
      exact K _ _ _ _ _ _ _ _ hJ3 (by omega) (by omega)
set_option maxRecDepth 100000 in
set_option maxHeartbeats 4000000 in
theorem law_c16 (G : vG) {sb Ln : Nat} {xs : Nat → Int32} {n ce sl : Nat} {sh : vS} {J X : vI} {L : vL} {R : vR} (t : Nat) (i : Int32) (hJ : JZ (t : Int) n sh (mx J X) L R X) (hi : i.toInt = 6 * (t : Int)) (hLn : 6 * t + 6 ≤ Ln) (hL : Ln ≤ 3072) (hce : ce ≤ 60 + 4 * t) (hsl : sl ≤ 1500 + 40 * t) (K : ∀ (n' : Nat) (sh' : vS) (J' : vI) (L' : vL) (R' : vR) (X' : vI) (ce' sl' : Nat), JZ ((t : Int) + 1) n' sh' (mx J' X') L' R' X' → ce' ≤ 60 + 4 * (t + 1) → sl' ≤ 1500 + 40 * (t + 1) → VS G sb Ln xs 1332 [(0, .ref sb), (1, .ref (ad G 0)), (2, .ref (ad G 27)), (3, .int i)] [] ce' sl' n' sh' (mx J' X') L' R') : VS G sb Ln xs 769 [(0, .ref sb), (1, .ref (ad G 0)), (2, .ref (ad G 27)), (3, .int i)] [] ce sl n sh (mx J X) L R := by
  have hw := hJ.1.1
  obtain ⟨h1, hs, h24, h27, h30, h35, hck, h25, hv, hpv, hcl, hld, h12, hlen, hE, hb0⟩ := XF hJ
  refine VS_aload_n (pc := 769) 1 dL_law_769 rfl rfl ?_
  refine VS_aload_n (pc := 770) 0 dL_law_770 rfl rfl ?_
  refine VS_iload_n (pc := 771) 3 dL_law_771 rfl rfl ?_
  refine VS_iconst (pc := 772) (v := 1) dL_law_772 rfl ?_
  refine VS_iadd (pc := 773) dL_law_773 (fun x_773_799 e_773_799 => ?_)
  have t_773_799 : x_773_799.toInt = i.toInt + 1 := addT e_773_799 rfl rfl (by omega) (by omega)
  refine VS_saldk (pc := 774) (j := 6 * t + 1) dL_law_774 (by omega) (by omega) ?_
  refine VS_aload_n (pc := 775) 0 dL_law_775 rfl rfl ?_
  refine VS_iload_n (pc := 776) 3 dL_law_776 rfl rfl ?_
  refine VS_iconst (pc := 777) (v := 2) dL_law_777 rfl ?_
  refine VS_iadd (pc := 778) dL_law_778 (fun x_778_805 e_778_805 => ?_)
  have t_778_805 : x_778_805.toInt = i.toInt + 2 := addT e_778_805 rfl rfl (by omega) (by omega)
  refine VS_saldk (pc := 779) (j := 6 * t + 2) dL_law_779 (by omega) (by omega) ?_
  refine VS_callV (pc := 780) (As := [.int (xs (6 * t + 1)), .int (xs (6 * t + 2))]) (st := []) (c_X11_car G (t : Int) X (xs (6 * t + 1)) (xs (6 * t + 2)) hJ ) mf_X11_car ml_L_86 iv_X11_car (wN hw (by decide)) (wS1 hw (by decide) rfl) (by decide) rfl dL_law_780 rfl rfl (by omega) (by omega) (by omega) (Nat.le_of_ble_eq_true rfl) (fun r1 n1 sh1 I1 L1 R1 hq1 => ?_)
  obtain ⟨hA, hfr, hw1, w1, rfl⟩ := hq1
  obtain ⟨J1, rfl⟩ : ∃ J1, I1 = mx J1 X := ⟨I1, mx_ag (fun a h1 h2 => (hfr a h1 h2).trans (congrFun (rfl : mx J X = mx J X) a |>.trans (mx_i ⟨h1, h2⟩)))⟩
  refine VS_aload_n (pc := 783) 2 dL_law_783 rfl rfl ?_
  refine VS_aload_n (pc := 784) 0 dL_law_784 rfl rfl ?_
  refine VS_iload_n (pc := 785) 3 dL_law_785 rfl rfl ?_
  refine VS_iconst (pc := 786) (v := 1) dL_law_786 rfl ?_
  refine VS_iadd (pc := 787) dL_law_787 (fun x_787_815 e_787_815 => ?_)
  have t_787_815 : x_787_815.toInt = i.toInt + 1 := addT e_787_815 rfl rfl (by omega) (by omega)
  refine VS_saldk (pc := 788) (j := 6 * t + 1) dL_law_788 (by omega) (by omega) ?_
  refine VS_aload_n (pc := 789) 0 dL_law_789 rfl rfl ?_
  refine VS_iload_n (pc := 790) 3 dL_law_790 rfl rfl ?_
  refine VS_iconst (pc := 791) (v := 2) dL_law_791 rfl ?_
  refine VS_iadd (pc := 792) dL_law_792 (fun x_792_821 e_792_821 => ?_)
  have t_792_821 : x_792_821.toInt = i.toInt + 2 := addT e_792_821 rfl rfl (by omega) (by omega)
  refine VS_saldk (pc := 793) (j := 6 * t + 2) dL_law_793 (by omega) (by omega) ?_
  refine VS_callV (pc := 794) (As := [.int (xs (6 * t + 1)), .int (xs (6 * t + 2))]) (st := [w1]) (c_X12_car G (xs (6 * t + 1)) (xs (6 * t + 2)) hw1 h35) mf_X12_car ml_L_89 iv_X12_car (wN hw1 (by decide)) (wS1 hw1 (by decide) rfl) (by decide) rfl dL_law_794 rfl rfl (by omega) (by omega) (by omega) (by have := cat2 w1; show w1.category + 0 ≤ 8; omega) (fun r2 n2 sh2 I2 L2 R2 hq2 => ?_)
  obtain ⟨rfl, rfl, rfl, rfl, hq2⟩ := hq2
  obtain ⟨X2, rfl, hp⟩ := Lo_qi Lp_sCar hq2
  obtain ⟨e1, hJ3⟩ := two hA hp
  obtain ⟨v2, -, rfl⟩ := id hp
  obtain rfl := Option.some.inj e1
  refine VS_icmp_eq (pc := 797) (tgt := 1332) dL_law_797 (by decide) (fun _ => ?_) (fun c => absurd rfl c)
  exact K _ _ _ _ _ _ _ _ hJ3 (by omega) (by omega)
