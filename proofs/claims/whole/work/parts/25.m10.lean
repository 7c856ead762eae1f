/-- a level's run from the scan on (road r0 next), and from the loop's head on -/
def Cl90 (G : vG) (n : Nat) (sh : vS) (L : vL) (R : vR) (post : PT) (E : vI) (D c : Nat) : Prop := ∀ (d : Nat) (w : Nat → Int32) (s fo su : Int) (r0 : Nat) (I : vI) (x : Int32), D + 1 + d = 10 → (r0 : Int) + (c : Int) = (E 27 1).toInt → SM E d w s fo su I → x.toInt = (r0 : Int) → (∀ (I' : vI) (sp : Bool), lvR E D d w s fo su c r0 (sgM I) = (sgM I', sp) → SF E I' → BL I I' d → SB (sgM I') → (sp = false → (I' 27 19).toInt = (d : Int) - 1 → V G RX12 cX12_search (some .boolean) false 3 0 0 3 post 53 [(0, .ref (ad G 27))] [] 0 0 n sh I' L R) ∧ (sp = true → V G RX12 cX12_search (some .boolean) false 3 0 0 3 post 210 [(0, .ref (ad G 27))] [] 0 0 n sh I' L R)) → V G RX12 cX12_search (some .boolean) false 3 0 0 3 post 90 [(0, .ref (ad G 27)), (1, .int x), (2, .int (-1))] [] 0 0 n sh I L R
def Cl53 (G : vG) (n : Nat) (sh : vS) (L : vL) (R : vR) (post : PT) (E : vI) (D c : Nat) : Prop := ∀ (d : Nat) (w : Nat → Int32) (s fo su : Int) (r0 : Nat) (I : vI), D + d = 10 → (D = 0 ∨ ((r0 : Int) + (c : Int) = (E 27 1).toInt ∧ (I 40 d).toInt = (r0 : Int) - 1)) → SM E d w s fo su I → (∀ (I' : vI) (sp : Bool), (match D with | 0 => (sgM I, false) | D' + 1 => lvR E D' d w s fo su c r0 (sgM I)) = (sgM I', sp) → SF E I' → BL I I' d → SB (sgM I') → (sp = false → (I' 27 19).toInt = (d : Int) - 1 → V G RX12 cX12_search (some .boolean) false 3 0 0 3 post 53 [(0, .ref (ad G 27))] [] 0 0 n sh I' L R) ∧ (sp = true → V G RX12 cX12_search (some .boolean) false 3 0 0 3 post 210 [(0, .ref (ad G 27))] [] 0 0 n sh I' L R)) → V G RX12 cX12_search (some .boolean) false 3 0 0 3 post 53 [(0, .ref (ad G 27))] [] 0 0 n sh I L R
set_option maxRecDepth 100000 in
set_option maxHeartbeats 4000000 in
theorem sr_53 (G : vG) {n : Nat} {sh : vS} {L : vL} {R : vR} {post : PT} (I : vI) (d r0 : Nat) (hw : WF n sh R) (hd : (I 27 19).toInt = (d : Int)) (hd10 : d < 10) (h1 : 0 ≤ (I 27 1).toInt ∧ (I 27 1).toInt ≤ 16) (hr : (I 40 d).toInt = (r0 : Int) - 1) (h16 : r0 ≤ 16) (k : ∀ x : Int32, x.toInt = (r0 : Int) → V G RX12 cX12_search (some .boolean) false 3 0 0 3 post 90 [(0, .ref (ad G 27)), (1, .int x), (2, .int (-1))] [] 0 0 n sh I L R) : V G RX12 cX12_search (some .boolean) false 3 0 0 3 post 53 [(0, .ref (ad G 27))] [] 0 0 n sh I L R := by
  refine V_aload_n (pc := 53) 0 dX12_search_53 rfl rfl ?_
  refine V_gI (pc := 54) (v := (I 27 19)) rfl fk_X12_164_12 dX12_search_54 (wN hw (by decide)) (wS1 hw (by decide) rfl) ?_
  refine V_if_lt (pc := 57) (tgt := 360) dX12_search_57 (by decide) (fun c_57_1 => ?_) (fun c_57_1 => ?_)
  · have c_57_1 : (I 27 19).toInt < 0 := c_57_1
    exfalso; omega
  · have c_57_1 : 0 ≤ (I 27 19).toInt := c_57_1
    refine V_aload_n (pc := 60) 0 dX12_search_60 rfl rfl ?_
    refine V_gI (pc := 61) (v := (I 27 19)) rfl fk_X12_164_12 dX12_search_61 (wN hw (by decide)) (wS1 hw (by decide) rfl) ?_
    refine V_bipush (pc := 64) (v := 10) dX12_search_64 rfl ?_
    refine V_icmp_ne (pc := 66) (tgt := 76) dX12_search_66 (by decide) (fun c_66_2 => ?_) (fun c_66_2 => ?_)
    · have c_66_2 : (I 27 19).toInt ≠ 10 := c_66_2
      refine V_aload_n (pc := 76) 0 dX12_search_76 rfl rfl ?_
      refine V_getR (pc := 77) (j := 40) fk_X12_47_12 (wR hw (i := 27) (k := 20) (j := 40) rfl) dX12_search_77 (wN hw (by decide)) (wS1 hw (by decide) rfl) ?_
      refine V_aload_n (pc := 80) 0 dX12_search_80 rfl rfl ?_
      refine V_gI (pc := 81) (v := (I 27 19)) rfl fk_X12_164_12 dX12_search_81 (wN hw (by decide)) (wS1 hw (by decide) rfl) ?_
      refine V_ia (pc := 84) (k := d) (v := (I 40 d)) rfl dX12_search_84 (wN hw (by decide)) (wS hw (by decide) rfl) hd (by omega) ?_
      refine V_iconst (pc := 85) (v := 1) dX12_search_85 rfl ?_
      refine V_iadd (pc := 86) dX12_search_86 (fun x_86_3 e_86_3 => ?_)
      have t_86_3 : x_86_3.toInt = (I 40 d).toInt + 1 := addT e_86_3 rfl rfl (by omega) (by omega)
      refine V_istore_n (pc := 87) (lo' := [(0, .ref (ad G 27)), (1, .int x_86_3)]) dX12_search_87 rfl (by decide) rfl ?_
      refine V_iconst (pc := 88) (v := (-1)) dX12_search_88 rfl ?_
      refine V_istore_n (pc := 89) (lo' := [(0, .ref (ad G 27)), (1, .int x_86_3), (2, .int (-1))]) dX12_search_89 rfl (by decide) rfl ?_
      first | exact k _ (by omega) | (exfalso; omega)
    · have c_66_2 : (I 27 19).toInt = 10 := c_66_2
      refine V_aload_n (pc := 69) 0 dX12_search_69 rfl rfl ?_
      refine V_gI (pc := 70) (v := (I 27 1)) rfl fk_X12_108_12 dX12_search_70 (wN hw (by decide)) (wS1 hw (by decide) rfl) ?_
      refine V_goto (pc := 73) (tgt := 87) dX12_search_73 (by decide) ?_
      refine V_istore_n (pc := 87) (lo' := [(0, .ref (ad G 27)), (1, .int (I 27 1))]) dX12_search_87 rfl (by decide) rfl ?_
      refine V_iconst (pc := 88) (v := (-1)) dX12_search_88 rfl ?_
      refine V_istore_n (pc := 89) (lo' := [(0, .ref (ad G 27)), (1, .int (I 27 1)), (2, .int (-1))]) dX12_search_89 rfl (by decide) rfl ?_
      first | exact k _ (by omega) | (exfalso; omega)
set_option maxRecDepth 100000 in
set_option maxHeartbeats 4000000 in
theorem sr_201 (G : vG) {n : Nat} {sh : vS} {L : vL} {R : vR} {post : PT} (E : vI) (hw : WF n sh R) (hE : SE E) (D c : Nat) (ihD : ∀ c, Cl53 G n sh L R post E D c) (ihc : Cl90 G n sh L R post E D c) (d : Nat) (w : Nat → Int32) (s fo su : Int) (r0 : Nat) (I : vI) (x1 nx : Int32) (hDd : D + 1 + d = 10) (hrc : (r0 : Int) + ((c + 1 : Nat) : Int) = (E 27 1).toInt) (hM : SM E d w s fo su I) (hx : x1.toInt = (r0 : Int)) (hin : ¬ ∃ k, k < (I 27 19).toInt.toNat ∧ inP I (r0 : Int) k) (hnx : nx.toInt = leadsF E r0 s) (h0 : 0 ≤ nx.toInt) (hns : ¬ (0 ≤ (I 27 15).toInt ∧ (I 27 15).toInt < su + (I 30 r0).toInt)) (K : ∀ (I' : vI) (sp : Bool), lvR E D d w s fo su (c + 1) r0 (sgM I) = (sgM I', sp) → SF E I' → BL I I' d → SB (sgM I') → (sp = false → (I' 27 19).toInt = (d : Int) - 1 → V G RX12 cX12_search (some .boolean) false 3 0 0 3 post 53 [(0, .ref (ad G 27))] [] 0 0 n sh I' L R) ∧ (sp = true → V G RX12 cX12_search (some .boolean) false 3 0 0 3 post 210 [(0, .ref (ad G 27))] [] 0 0 n sh I' L R)) : V G RX12 cX12_search (some .boolean) false 3 0 0 3 post 201 [(0, .ref (ad G 27)), (1, .int x1), (2, .int nx)] [] 0 0 n sh I L R := by
  have hd0 := hM.2.1
  obtain ⟨hSF, hd, hrow, hs, hfo, hsu, hSB, bs, bf, bu⟩ := id hM
  have h1 := hE.1
  have e27 := hSF 27 1 rfl
  have e27t : (I 27 1).toInt = (E 27 1).toInt := by rw [e27]
  have e12 := hSF 27 12 rfl
  have h12 := hE.2.1
  rw [← e27] at h1
  rw [← e12] at h12
  rw [← e12] at bf
  have hd10 : d < 10 := by omega
  have hlen := (hE.2.2 r0 (by omega)).2.2
  rw [← hSF 30 r0 rfl] at hlen
  have hlb := leads_b hE (r := r0) (by omega) s
  have hbs : -1 ≤ (I 27 15).toInt ∧ (I 27 15).toInt ≤ 200000 := ⟨hSB.2.2.1, hSB.2.2.2.1⟩
  have htr : 0 ≤ (I 27 14).toInt ∧ (I 27 14).toInt ≤ 60000 := ⟨hSB.1, hSB.2.1⟩
  have hrv : 0 ≤ (I 27 18).toInt ∧ (I 27 18).toInt ≤ (I 27 14).toInt := ⟨hSB.2.2.2.2.1, hSB.2.2.2.2.2⟩
  refine V_aload_n (pc := 201) 0 dX12_search_201 rfl rfl ?_
  refine V_gI (pc := 202) (v := (I 27 14)) rfl fk_X12_176_12 dX12_search_202 (wN hw (by decide)) (wS1 hw (by decide) rfl) ?_
  refine V_ldc (pc := 205) dX12_search_205 kk_X12_185 ?_
  refine V_icmp_ne (pc := 207) (tgt := 212) dX12_search_207 (by decide) (fun c_207_1 => ?_) (fun c_207_1 => ?_)
  · have c_207_1 : (I 27 14).toInt ≠ 60000 := c_207_1
    refine V_aload_n (pc := 212) 0 dX12_search_212 rfl rfl ?_
    refine V_dup (pc := 213) dX12_search_213 rfl ?_
    refine V_gI (pc := 214) (v := (I 27 14)) rfl fk_X12_176_12 dX12_search_214 (wN hw (by decide)) (wS1 hw (by decide) rfl) ?_
    refine V_iconst (pc := 217) (v := 1) dX12_search_217 rfl ?_
    refine V_iadd (pc := 218) dX12_search_218 (fun x_218_2 e_218_2 => ?_)
    have t_218_2 : x_218_2.toInt = (I 27 14).toInt + 1 := addT e_218_2 rfl rfl (by omega) (by omega)
    refine V_putI (pc := 219) fw_X12_176_12 rfl rfl dX12_search_219 (wN hw (by decide)) (wS1 hw (by decide) rfl) ?_
    refine V_aload_n (pc := 222) 0 dX12_search_222 rfl rfl ?_
    refine V_getR (pc := 223) (j := 40) fk_X12_47_12 (wR hw (i := 27) (k := 20) (j := 40) rfl) dX12_search_223 (wN hw (by decide)) (wS1 hw (by decide) rfl) ?_
    refine V_aload_n (pc := 226) 0 dX12_search_226 rfl rfl ?_
    refine V_gI (pc := 227) (v := (I 27 19)) rfl fk_X12_164_12 dX12_search_227 (wN hw (by decide)) (wS1 hw (by decide) rfl) ?_
    refine V_iload_n (pc := 230) 1 dX12_search_230 rfl rfl ?_
    refine V_iask (pc := 231) (k := d) dX12_search_231 (wN hw (by decide)) (wS hw (by decide) rfl) hd (by omega) ?_
    refine V_aload_n (pc := 232) 0 dX12_search_232 rfl rfl ?_
    refine V_dup (pc := 233) dX12_search_233 rfl ?_
    refine V_gI (pc := 234) (v := (I 27 19)) rfl fk_X12_164_12 dX12_search_234 (wN hw (by decide)) (wS1 hw (by decide) rfl) ?_
    refine V_iconst (pc := 237) (v := 1) dX12_search_237 rfl ?_
    refine V_iadd (pc := 238) dX12_search_238 (fun x_238_3 e_238_3 => ?_)
    have t_238_3 : x_238_3.toInt = (I 27 19).toInt + 1 := addT e_238_3 rfl rfl (by omega) (by omega)
    refine V_putI (pc := 239) fw_X12_164_12 rfl rfl dX12_search_239 (wN hw (by decide)) (wS1 hw (by decide) rfl) ?_
    refine V_aload_n (pc := 242) 0 dX12_search_242 rfl rfl ?_
    refine V_getR (pc := 243) (j := 41) fk_X12_50_12 (wR hw (i := 27) (k := 21) (j := 41) rfl) dX12_search_243 (wN hw (by decide)) (wS1 hw (by decide) rfl) ?_
    refine V_aload_n (pc := 246) 0 dX12_search_246 rfl rfl ?_
    refine V_gI (pc := 247) (v := x_238_3) rfl fk_X12_164_12 dX12_search_247 (wN hw (by decide)) (wS1 hw (by decide) rfl) ?_
    refine V_iload_n (pc := 250) 2 dX12_search_250 rfl rfl ?_
    refine V_iask (pc := 251) (k := (d + 1)) dX12_search_251 (wN hw (by decide)) (wS hw (by decide) rfl) (by omega) (by omega) ?_
    refine V_aload_n (pc := 252) 0 dX12_search_252 rfl rfl ?_
    refine V_getR (pc := 253) (j := 43) fk_X12_56_12 (wR hw (i := 27) (k := 23) (j := 43) rfl) dX12_search_253 (wN hw (by decide)) (wS1 hw (by decide) rfl) ?_
    refine V_aload_n (pc := 256) 0 dX12_search_256 rfl rfl ?_
    refine V_gI (pc := 257) (v := x_238_3) rfl fk_X12_164_12 dX12_search_257 (wN hw (by decide)) (wS1 hw (by decide) rfl) ?_
    refine V_aload_n (pc := 260) 0 dX12_search_260 rfl rfl ?_
    refine V_getR (pc := 261) (j := 43) fk_X12_56_12 (wR hw (i := 27) (k := 23) (j := 43) rfl) dX12_search_261 (wN hw (by decide)) (wS1 hw (by decide) rfl) ?_
    refine V_aload_n (pc := 264) 0 dX12_search_264 rfl rfl ?_
    refine V_gI (pc := 265) (v := x_238_3) rfl fk_X12_164_12 dX12_search_265 (wN hw (by decide)) (wS1 hw (by decide) rfl) ?_
    refine V_iconst (pc := 268) (v := 1) dX12_search_268 rfl ?_
    refine V_isub (pc := 269) dX12_search_269 (fun x_269_4 e_269_4 => ?_)
    have t_269_4 : x_269_4.toInt = x_238_3.toInt - 1 := subT e_269_4 rfl rfl (by omega) (by omega)
    refine V_ia (pc := 270) (k := d) (v := (I 43 d)) rfl dX12_search_270 (wN hw (by decide)) (wS hw (by decide) rfl) (by omega) (by omega) ?_
    refine V_aload_n (pc := 271) 0 dX12_search_271 rfl rfl ?_
    refine V_getR (pc := 272) (j := 30) fk_X12_16_12 (wR hw (i := 27) (k := 4) (j := 30) rfl) dX12_search_272 (wN hw (by decide)) (wS1 hw (by decide) rfl) ?_
    refine V_iload_n (pc := 275) 1 dX12_search_275 rfl rfl ?_
    refine V_ia (pc := 276) (k := r0) (v := (I 30 r0)) rfl dX12_search_276 (wN hw (by decide)) (wS hw (by decide) rfl) hx (by omega) ?_
    refine V_iadd (pc := 277) dX12_search_277 (fun x_277_5 e_277_5 => ?_)
    have t_277_5 : x_277_5.toInt = (I 43 d).toInt + (I 30 r0).toInt := addT e_277_5 rfl rfl (by omega) (by omega)
    refine V_iask (pc := 278) (k := (d + 1)) dX12_search_278 (wN hw (by decide)) (wS hw (by decide) rfl) (by omega) (by omega) ?_
    refine V_aload_n (pc := 279) 0 dX12_search_279 rfl rfl ?_
    refine V_getR (pc := 280) (j := 42) fk_X12_53_12 (wR hw (i := 27) (k := 22) (j := 42) rfl) dX12_search_280 (wN hw (by decide)) (wS1 hw (by decide) rfl) ?_
    refine V_aload_n (pc := 283) 0 dX12_search_283 rfl rfl ?_
    refine V_gI (pc := 284) (v := x_238_3) rfl fk_X12_164_12 dX12_search_284 (wN hw (by decide)) (wS1 hw (by decide) rfl) ?_
    refine V_aload_n (pc := 287) 0 dX12_search_287 rfl rfl ?_
    refine V_getR (pc := 288) (j := 42) fk_X12_53_12 (wR hw (i := 27) (k := 22) (j := 42) rfl) dX12_search_288 (wN hw (by decide)) (wS1 hw (by decide) rfl) ?_
    refine V_aload_n (pc := 291) 0 dX12_search_291 rfl rfl ?_
    refine V_gI (pc := 292) (v := x_238_3) rfl fk_X12_164_12 dX12_search_292 (wN hw (by decide)) (wS1 hw (by decide) rfl) ?_
    refine V_iconst (pc := 295) (v := 1) dX12_search_295 rfl ?_
    refine V_isub (pc := 296) dX12_search_296 (fun x_296_6 e_296_6 => ?_)
    have t_296_6 : x_296_6.toInt = x_238_3.toInt - 1 := subT e_296_6 rfl rfl (by omega) (by omega)
    refine V_ia (pc := 297) (k := d) (v := (I 42 d)) rfl dX12_search_297 (wN hw (by decide)) (wS hw (by decide) rfl) (by omega) (by omega) ?_
    refine V_aload_n (pc := 298) 0 dX12_search_298 rfl rfl ?_
    refine V_getR (pc := 299) (j := 42) fk_X12_53_12 (wR hw (i := 27) (k := 22) (j := 42) rfl) dX12_search_299 (wN hw (by decide)) (wS1 hw (by decide) rfl) ?_
    refine V_aload_n (pc := 302) 0 dX12_search_302 rfl rfl ?_
    refine V_gI (pc := 303) (v := x_238_3) rfl fk_X12_164_12 dX12_search_303 (wN hw (by decide)) (wS1 hw (by decide) rfl) ?_
    refine V_iconst (pc := 306) (v := 1) dX12_search_306 rfl ?_
    refine V_isub (pc := 307) dX12_search_307 (fun x_307_7 e_307_7 => ?_)
    have t_307_7 : x_307_7.toInt = x_238_3.toInt - 1 := subT e_307_7 rfl rfl (by omega) (by omega)
    refine V_ia (pc := 308) (k := d) (v := (I 42 d)) rfl dX12_search_308 (wN hw (by decide)) (wS hw (by decide) rfl) (by omega) (by omega) ?_
    refine V_aload_n (pc := 309) 0 dX12_search_309 rfl rfl ?_
    refine V_gI (pc := 310) (v := (I 27 12)) rfl fk_X12_161_12 dX12_search_310 (wN hw (by decide)) (wS1 hw (by decide) rfl) ?_
    have jn_341 : ∀ b : Int32, b.toInt = (if (I 42 d).toInt < (I 27 12).toInt ∧ (I 38 (I 42 d).toInt.toNat).toInt = nx.toInt then 1 else 0) → V G RX12 cX12_search (some .boolean) false 3 0 0 3 post 341 [(0, .ref (ad G 27)), (1, .int x1), (2, .int nx)] [.int b, .int (I 42 d), .int x_238_3, .ref (ad G 42)] 0 0 n sh (up2 (up2 (up2 (up2 (up2 I 27 14 x_218_2) 40 d x1) 27 19 x_238_3) 41 (d + 1) nx) 43 (d + 1) x_277_5) L R := by
      intro b hb
      have hb01 : 0 ≤ b.toInt ∧ b.toInt ≤ 1 := by split at hb <;> omega
      refine V_iadd (pc := 341) dX12_search_341 (fun x_341_8 e_341_8 => ?_)
      have t_341_8 : x_341_8.toInt = (I 42 d).toInt + b.toInt := addT e_341_8 rfl rfl (by omega) (by omega)
      refine V_iask (pc := 342) (k := (d + 1)) dX12_search_342 (wN hw (by decide)) (wS hw (by decide) rfl) (by omega) (by omega) ?_
      refine V_aload_n (pc := 343) 0 dX12_search_343 rfl rfl ?_
      refine V_getR (pc := 344) (j := 40) fk_X12_47_12 (wR hw (i := 27) (k := 20) (j := 40) rfl) dX12_search_344 (wN hw (by decide)) (wS1 hw (by decide) rfl) ?_
      refine V_aload_n (pc := 347) 0 dX12_search_347 rfl rfl ?_
      refine V_gI (pc := 348) (v := x_238_3) rfl fk_X12_164_12 dX12_search_348 (wN hw (by decide)) (wS1 hw (by decide) rfl) ?_
      refine V_iconst (pc := 351) (v := (-1)) dX12_search_351 rfl ?_
      refine V_iask (pc := 352) (k := (d + 1)) dX12_search_352 (wN hw (by decide)) (wS hw (by decide) rfl) (by omega) (by omega) ?_
      refine V_aload_n (pc := 353) 0 dX12_search_353 rfl rfl ?_
      obtain ⟨J, hJ⟩ : ∃ J : vI, J = (up2 (up2 (up2 (up2 (up2 (up2 (up2 I 27 14 x_218_2) 40 d x1) 27 19 x_238_3) 41 (d + 1) nx) 43 (d + 1) x_277_5) 42 (d + 1) x_341_8) 40 (d + 1) (-1)) := ⟨_, rfl⟩
      rw [← hJ]
      have a1 : SF E J := by rw [hJ]; exact (SF_up (SF_up (SF_up (SF_up (SF_up (SF_up (SF_up hSF rfl) rfl) rfl) rfl) rfl) rfl) rfl)
      have a2 : J 27 19 = x_238_3 := by rw [hJ]; rfl
      have a3 : J 27 14 = x_218_2 := by rw [hJ]; rfl
      have a4 : J 27 15 = I 27 15 ∧ J 27 16 = I 27 16 ∧ J 27 18 = I 27 18 := by rw [hJ]; exact ⟨rfl, rfl, rfl⟩
      have a5 : J 39 = I 39 := by rw [hJ]; rfl
      have a6 : J 41 (d + 1) = nx := by rw [hJ]; simp [up2]
      have a7 : J 43 (d + 1) = x_277_5 := by rw [hJ]; simp [up2]
      have a8 : J 42 (d + 1) = x_341_8 := by rw [hJ]; simp [up2]
      have a9 : J 40 d = x1 := by rw [hJ]; simp [up2]; first | done | exact ti_eq.mpr (by omega)
      have a10 : (J 40 (d + 1)).toInt = -1 := by rw [hJ]; simp [up2]
      have a11 : BL I J d := fun k hk => by
        have k1 : ¬ k = d := by omega
        have k2 : ¬ k = d + 1 := by omega
        rw [hJ]
        simp [up2, k1, k2]
      have a12 : J 41 d = I 41 d ∧ J 42 d = I 42 d ∧ J 43 d = I 43 d := by rw [hJ]; simp [up2]
      have b1 : (J 27 19).toInt = ((d + 1 : Nat) : Int) := by rw [a2]; omega
      have b2 : (J 27 14).toInt = (I 27 14).toInt + 1 := by rw [a3]; omega
      clear hJ
      have exr : x1 = nI r0 := ti_eq.mpr (by rw [nI_toInt (by omega)]; omega)
      have w1 : ∀ k, k < d + 1 → J 40 k = upd w d (nI r0) k := fun k hk => by
        unfold upd
        by_cases q : k = d
        · rw [if_pos q, q, a9, exr]
        · rw [if_neg q, (a11 k (by omega)).1, hrow k (by omega)]
      have f1 : (J 42 (d + 1)).toInt = foF E fo (leadsF E r0 s) := by
        rw [a8]
        unfold foF
        rw [← e12, ← hSF 38 _ rfl, ← hnx, ← hfo, ← hb]
        omega
      have f2 : (J 43 (d + 1)).toInt = su + (E 30 r0).toInt := by rw [a7, ← hSF 30 r0 rfl]; omega
      refine V_callV (pc := 354) (As := []) (st := []) (c_X12_judge G (d + 1) hw b1 (by omega) (by rw [a1 27 12 rfl, ← e12]; omega) (by rw [a4.2.2]; omega)) mf_X12_judge ml_X12_186 iv_X12_judge (wN hw (by decide)) (wS1 hw (by decide) rfl) (by decide) rfl dX12_search_354 rfl rfl (by omega) (by omega) (by omega) (Nat.le_of_ble_eq_true rfl) (fun r_354_9 n_354_9 sh_354_9 J1 L_354_9 R_354_9 hq_354_9 => ?_)
      obtain ⟨rfl, rfl, rfl, rfl, rfl, hJF, hsg⟩ := hq_354_9
      rw [jgF_d a1 w1, a6, hnx, f1, f2] at hsg
      refine V_goto (pc := 357) (tgt := 53) dX12_search_357 (by decide) ?_
      refine V_lo (pc := 53) (lo' := [(0, .ref (ad G 27))]) [0] rfl ?_
      have g0 : ∀ a b, sfk a b = true → J1 a b = J a b := fun a b z => hJF a b (fun q => by rw [q] at z; cases z) (fun ⟨q1, q2⟩ => by rw [q1] at z; rcases q2 with q | q | q <;> rw [q] at z <;> cases z)
      have g1 : SF E J1 := SF_t a1 g0
      have g2 : ∀ a b, a = 40 ∨ a = 41 ∨ a = 42 ∨ a = 43 → J1 a b = J a b := fun a b z => hJF a b (by omega) (by omega)
      have g3 : J1 27 19 = J 27 19 := hJF 27 19 (by decide) (by decide)
      have gE : sgM J = ((sgM I).1 + 1, (sgM I).2) := by
        unfold sgM
        rw [a4.1, a4.2.1, a4.2.2, a5, b2]
      rw [gE] at hsg
      have hst : stR E (fun w' s' fo' su' g' => goR E D (d + 1) w' s' fo' su' g') d w s fo su r0 (sgM I) = goR E D (d + 1) (upd w d (nI r0)) (leadsF E r0 s) (foF E fo (leadsF E r0 s)) (su + (E 30 r0).toInt) (sgM J1) := by
        rw [hsg]
        unfold stR
        rw [if_neg (by rintro (z | z | z) <;> first | omega | (obtain ⟨q, q1, q2⟩ := (exE_i _ _ _).mp z; exact hin ⟨q, by omega, by unfold inP; rw [hrow q q1]; omega⟩) | (have z1 := z.1; have z2 := z.2; rw [← hSF 30 r0 rfl] at z2; first | omega | (have z3 : (sgM I).2.1 = (I 27 15).toInt := rfl; rw [z3] at z1 z2; omega))), if_neg (by show ¬ (I 27 14).toInt = 60000; omega)]
      have hfb : 1 ≤ foF E fo (leadsF E r0 s) ∧ foF E fo (leadsF E r0 s) ≤ (E 27 12).toInt := by
        unfold foF
        rw [e12] at bf
        split <;> omega
      have hSB1 : SB (sgM J1) := by
        rw [hsg]
        exact jg_SB (by show 0 ≤ (I 27 14).toInt + 1 ∧ (I 27 14).toInt + 1 ≤ 60000; omega) hbs (by show 0 ≤ (I 27 18).toInt ∧ (I 27 18).toInt + 1 ≤ (I 27 14).toInt + 1; omega) (by rw [← hSF 30 r0 rfl]; omega)
      have hM1 : SM E (d + 1) (upd w d (nI r0)) (leadsF E r0 s) (foF E fo (leadsF E r0 s)) (su + (E 30 r0).toInt) J1 := ⟨g1, by rw [g3]; exact b1, fun k hk => by rw [g2 40 k (by omega)]; exact w1 k hk, by rw [g2 41 _ (by omega), a6]; exact hnx, by rw [g2 42 _ (by omega)]; exact f1, by rw [g2 43 _ (by omega)]; exact f2, hSB1, ⟨by omega, hlb.2⟩, hfb, ⟨by rw [← hSF 30 r0 rfl]; omega, by rw [← hSF 30 r0 rfl]; omega⟩⟩
      have hB1 : BL I J1 d := fun k hk => by
        obtain ⟨q1, q2, q3, q4⟩ := a11 k hk
        exact ⟨(g2 40 k (by omega)).trans q1, (g2 41 k (by omega)).trans q2, (g2 42 k (by omega)).trans q3, (g2 43 k (by omega)).trans q4⟩
      refine ihD (E 27 1).toInt.toNat (d + 1) (upd w d (nI r0)) (leadsF E r0 s) (foF E fo (leadsF E r0 s)) (su + (E 30 r0).toInt) 0 J1 (by omega) (Or.inr ⟨by rw [← e27]; omega, by rw [g2 40 _ (by omega)]; omega⟩) hM1 (fun I2 sp h hS2 hB2 hSB2 => ?_)
      have h' : goR E D (d + 1) (upd w d (nI r0)) (leadsF E r0 s) (foF E fo (leadsF E r0 s)) (su + (E 30 r0).toInt) (sgM J1) = (sgM I2, sp) := by cases D <;> exact h
      rw [h'] at hst
      have hB3 : BL I I2 d := fun k hk => by
        obtain ⟨q1, q2, q3, q4⟩ := hB2 k (by omega)
        obtain ⟨p1, p2, p3, p4⟩ := hB1 k hk
        exact ⟨q1.trans p1, q2.trans p2, q3.trans p3, q4.trans p4⟩
      obtain ⟨m1, m2, m3, m4⟩ := hB2 d (by omega)
      refine ⟨fun e hdd => ?_, fun e => ?_⟩
      · subst e
        have hM2 : SM E d w s fo su I2 := ⟨hS2, by rw [hdd]; omega, fun k hk => by rw [(hB3 k hk).1]; exact hrow k hk, by rw [m2, g2 41 _ (by omega), a12.1]; exact hs, by rw [m3, g2 42 _ (by omega), a12.2.1]; exact hfo, by rw [m4, g2 43 _ (by omega), a12.2.2]; exact hsu, hSB2, bs, by rw [e12] at bf; exact bf, bu⟩
        refine sr_53 G I2 d (r0 + 1) hw hM2.2.1 hd10 (by rw [hS2 27 1 rfl, ← e27]; exact h1) (by rw [m1, g2 40 _ (by omega), a9]; omega) (by omega) (fun y hy => ?_)
        refine ihc d w s fo su (r0 + 1) I2 y hDd (by omega) hM2 hy (fun I3 sp3 h3 hS3 hB4 hSB3 => ?_)
        refine K I3 sp3 ?_ hS3 (fun k hk => ?_) hSB3
        · unfold lvR at h3 ⊢
          rw [itR_s, hst, if_neg (fun z => by cases z)]
          exact h3
        · obtain ⟨q1, q2, q3, q4⟩ := hB4 k hk
          obtain ⟨p1, p2, p3, p4⟩ := hB3 k hk
          exact ⟨q1.trans p1, q2.trans p2, q3.trans p3, q4.trans p4⟩
      · subst e
        refine (K I2 true ?_ hS2 hB3 hSB2).2 rfl
        unfold lvR
        rw [itR_s, hst, if_pos rfl]
    refine V_icmp_ge (pc := 313) (tgt := 340) dX12_search_313 (by decide) (fun c_313_10 => ?_) (fun c_313_10 => ?_)
    · have c_313_10 : (I 27 12).toInt ≤ (I 42 d).toInt := c_313_10
      refine V_iconst (pc := 340) (v := 0) dX12_search_340 rfl ?_
      exact jn_341 _ (by first | (rw [if_pos ⟨by omega, by omega⟩]; rfl) | (rw [if_neg (by omega)]; rfl))
    · have c_313_10 : (I 42 d).toInt < (I 27 12).toInt := c_313_10
      refine V_aload_n (pc := 316) 0 dX12_search_316 rfl rfl ?_
      refine V_getR (pc := 317) (j := 38) fk_X12_41_12 (wR hw (i := 27) (k := 13) (j := 38) rfl) dX12_search_317 (wN hw (by decide)) (wS1 hw (by decide) rfl) ?_
      refine V_aload_n (pc := 320) 0 dX12_search_320 rfl rfl ?_
      refine V_getR (pc := 321) (j := 42) fk_X12_53_12 (wR hw (i := 27) (k := 22) (j := 42) rfl) dX12_search_321 (wN hw (by decide)) (wS1 hw (by decide) rfl) ?_
      refine V_aload_n (pc := 324) 0 dX12_search_324 rfl rfl ?_
      refine V_gI (pc := 325) (v := x_238_3) rfl fk_X12_164_12 dX12_search_325 (wN hw (by decide)) (wS1 hw (by decide) rfl) ?_
      refine V_iconst (pc := 328) (v := 1) dX12_search_328 rfl ?_
      refine V_isub (pc := 329) dX12_search_329 (fun x_329_11 e_329_11 => ?_)
      have t_329_11 : x_329_11.toInt = x_238_3.toInt - 1 := subT e_329_11 rfl rfl (by omega) (by omega)
      refine V_ia (pc := 330) (k := d) (v := (I 42 d)) rfl dX12_search_330 (wN hw (by decide)) (wS hw (by decide) rfl) (by omega) (by omega) ?_
      refine V_ia (pc := 331) (k := (I 42 d).toInt.toNat) (v := (I 38 (I 42 d).toInt.toNat)) rfl dX12_search_331 (wN hw (by decide)) (wS hw (by decide) rfl) (by omega) (by omega) ?_
      refine V_iload_n (pc := 332) 2 dX12_search_332 rfl rfl ?_
      refine V_icmp_ne (pc := 333) (tgt := 340) dX12_search_333 (by decide) (fun c_333_12 => ?_) (fun c_333_12 => ?_)
      · have c_333_12 : (I 38 (I 42 d).toInt.toNat).toInt ≠ nx.toInt := c_333_12
        refine V_iconst (pc := 340) (v := 0) dX12_search_340 rfl ?_
        exact jn_341 _ (by first | (rw [if_pos ⟨by omega, by omega⟩]; rfl) | (rw [if_neg (by omega)]; rfl))
      · have c_333_12 : (I 38 (I 42 d).toInt.toNat).toInt = nx.toInt := c_333_12
        refine V_iconst (pc := 336) (v := 1) dX12_search_336 rfl ?_
        refine V_goto (pc := 337) (tgt := 341) dX12_search_337 (by decide) ?_
        exact jn_341 _ (by first | (rw [if_pos ⟨by omega, by omega⟩]; rfl) | (rw [if_neg (by omega)]; rfl))
  · have c_207_1 : (I 27 14).toInt = 60000 := c_207_1
    refine V_lo (pc := 210) (lo' := [(0, .ref (ad G 27))]) [0] rfl ?_
    refine (K I true ?_ hSF (fun k _ => ⟨rfl, rfl, rfl, rfl⟩) hSB).2 rfl
    unfold lvR
    rw [itR_s, show stR E _ d w s fo su r0 (sgM I) = (sgM I, true) from by
      unfold stR
      rw [if_neg (by rintro (z | z | z) <;> first | omega | (obtain ⟨q, q1, q2⟩ := (exE_i _ _ _).mp z; exact hin ⟨q, by omega, by unfold inP; rw [hrow q q1]; omega⟩) | (have z1 := z.1; have z2 := z.2; rw [← hSF 30 r0 rfl] at z2; have z3 : (sgM I).2.1 = (I 27 15).toInt := rfl; rw [z3] at z1 z2; omega)), if_pos (by show (I 27 14).toInt = 60000; omega)], if_pos rfl]
set_option maxRecDepth 100000 in
set_option maxHeartbeats 4000000 in
theorem sr_90 (G : vG) {n : Nat} {sh : vS} {L : vL} {R : vR} {post : PT} (E : vI) (hw : WF n sh R) (hE : SE E) (D : Nat) (ihD : ∀ c, Cl53 G n sh L R post E D c) : ∀ c, Cl90 G n sh L R post E D c := by
  intro c
  induction c with
  | zero =>
    intro d w s fo su r0 I x hDd hrc hM hx K
    obtain ⟨hSF, hd, hrow, hs, hfo, hsu, hSB, bs, bf, bu⟩ := id hM
    have h1 := hE.1
    have e27 := hSF 27 1 rfl
    rw [← e27] at h1 hrc
    have hd10 : d < 10 := by omega
    refine V_iload_n (pc := 90) 1 dX12_search_90 rfl rfl ?_
    refine V_aload_n (pc := 91) 0 dX12_search_91 rfl rfl ?_
    refine V_gI (pc := 92) (v := (I 27 1)) rfl fk_X12_108_12 dX12_search_92 (wN hw (by decide)) (wS1 hw (by decide) rfl) ?_
    refine V_icmp_ge (pc := 95) (tgt := 184) dX12_search_95 (by decide) (fun c_95_1 => ?_) (fun c_95_1 => ?_)
    · have c_95_1 : (I 27 1).toInt ≤ x.toInt := c_95_1
      refine V_iload_n (pc := 184) 2 dX12_search_184 rfl rfl ?_
      refine V_if_ge_f (pc := 185) (tgt := 201) dX12_search_185 (by decide) (by decide) ?_
      refine V_aload_n (pc := 188) 0 dX12_search_188 rfl rfl ?_
      refine V_dup (pc := 189) dX12_search_189 rfl ?_
      refine V_gI (pc := 190) (v := (I 27 19)) rfl fk_X12_164_12 dX12_search_190 (wN hw (by decide)) (wS1 hw (by decide) rfl) ?_
      refine V_iconst (pc := 193) (v := 1) dX12_search_193 rfl ?_
      refine V_isub (pc := 194) dX12_search_194 (fun x_194_2 e_194_2 => ?_)
      have t_194_2 : x_194_2.toInt = (I 27 19).toInt - 1 := subT e_194_2 rfl rfl (by omega) (by omega)
      refine V_putI (pc := 195) fw_X12_164_12 rfl rfl dX12_search_195 (wN hw (by decide)) (wS1 hw (by decide) rfl) ?_
      refine V_goto (pc := 198) (tgt := 357) dX12_search_198 (by decide) ?_
      refine V_goto (pc := 357) (tgt := 53) dX12_search_357 (by decide) ?_
      refine V_lo (pc := 53) (lo' := [(0, .ref (ad G 27))]) [0] rfl ?_
      exact (K (up2 I 27 19 x_194_2) false rfl (SF_up hSF rfl) (fun k hk => ⟨rfl, rfl, rfl, rfl⟩) hSB).1 rfl (by simp only [up2_e]; omega)
    · have c_95_1 : x.toInt < (I 27 1).toInt := c_95_1
      exfalso; omega
  | succ c ihc =>
    intro d w s fo su r0 I x hDd hrc hM hx K
    have hrcE := hrc
    obtain ⟨hSF, hd, hrow, hs, hfo, hsu, hSB, bs, bf, bu⟩ := id hM
    have h1 := hE.1
    have e27 := hSF 27 1 rfl
    have e27t : (I 27 1).toInt = (E 27 1).toInt := by rw [e27]
    have e12 := hSF 27 12 rfl
    have h12 := hE.2.1
    rw [← e27] at h1
    rw [← e27] at hrc
    rw [← e12] at h12
    rw [← e12] at bf
    have hd10 : d < 10 := by omega
    have hlen := (hE.2.2 r0 (by omega)).2.2
    rw [← hSF 30 r0 rfl] at hlen
    have hlb := leads_b hE (r := r0) (by omega) s
    have hbs : -1 ≤ (I 27 15).toInt ∧ (I 27 15).toInt ≤ 200000 := ⟨hSB.2.2.1, hSB.2.2.2.1⟩
    have htr : 0 ≤ (I 27 14).toInt ∧ (I 27 14).toInt ≤ 60000 := ⟨hSB.1, hSB.2.1⟩
    have hrv : 0 ≤ (I 27 18).toInt ∧ (I 27 18).toInt ≤ (I 27 14).toInt := ⟨hSB.2.2.2.2.1, hSB.2.2.2.2.2⟩
    have hskip : (exE w (r0 : Int) d = true ∨ leadsF E r0 s < 0 ∨ (0 ≤ (I 27 15).toInt ∧ (I 27 15).toInt < su + (E 30 r0).toInt)) → ∀ y : Int32, y.toInt = ((r0 + 1 : Nat) : Int) → V G RX12 cX12_search (some .boolean) false 3 0 0 3 post 90 [(0, .ref (ad G 27)), (1, .int y), (2, .int (-1))] [] 0 0 n sh I L R := fun hc y hy => ihc d w s fo su (r0 + 1) I y hDd (by omega) hM hy (fun I' sp h => K I' sp (by unfold lvR at h ⊢; rw [itR_s, show stR E _ d w s fo su r0 (sgM I) = (sgM I, false) from if_pos hc, if_neg (fun z => by cases z)]; exact h))
    refine V_iload_n (pc := 90) 1 dX12_search_90 rfl rfl ?_
    refine V_aload_n (pc := 91) 0 dX12_search_91 rfl rfl ?_
    refine V_gI (pc := 92) (v := (I 27 1)) rfl fk_X12_108_12 dX12_search_92 (wN hw (by decide)) (wS1 hw (by decide) rfl) ?_
    refine V_icmp_ge (pc := 95) (tgt := 184) dX12_search_95 (by decide) (fun c_95_1 => ?_) (fun c_95_1 => ?_)
    · have c_95_1 : (I 27 1).toInt ≤ x.toInt := c_95_1
      refine V_iload_n (pc := 184) 2 dX12_search_184 rfl rfl ?_
      refine V_if_ge_f (pc := 185) (tgt := 201) dX12_search_185 (by decide) (by decide) ?_
      exfalso; omega
    · have c_95_1 : x.toInt < (I 27 1).toInt := c_95_1
      refine V_iload_n (pc := 98) 2 dX12_search_98 rfl rfl ?_
      refine V_if_ge_f (pc := 99) (tgt := 184) dX12_search_99 (by decide) (by decide) ?_
      refine V_aload_n (pc := 102) 0 dX12_search_102 rfl rfl ?_
      refine V_iload_n (pc := 103) 1 dX12_search_103 rfl rfl ?_
      refine V_callV (pc := 104) (As := [.int x]) (st := []) (c_X12_isIn G x hw (by omega)) mf_X12_isIn ml_X12_179 iv_X12_isIn (wN hw (by decide)) (wS1 hw (by decide) rfl) (by decide) rfl dX12_search_104 rfl rfl (by omega) (by omega) (by omega) (Nat.le_of_ble_eq_true rfl) (fun r_104_2 n_104_2 sh_104_2 I_104_2 L_104_2 R_104_2 hq_104_2 => ?_)
      obtain ⟨rfl, rfl, rfl, rfl, rfl, hq_104_2⟩ := hq_104_2
      rcases hq_104_2 with ⟨hin, rfl⟩ | ⟨hin, rfl⟩
      · have hd0 := hd
        refine V_if_eq_f (pc := 107) (tgt := 114) dX12_search_107 (by decide) (by decide) ?_
        refine V_iconst (pc := 110) (v := (-1)) dX12_search_110 rfl ?_
        refine V_goto (pc := 111) (tgt := 128) dX12_search_111 (by decide) ?_
        refine V_istore_n (pc := 128) (lo' := [(0, .ref (ad G 27)), (1, .int x), (2, .int (-1))]) dX12_search_128 rfl (by decide) rfl ?_
        refine V_iload_n (pc := 129) 2 dX12_search_129 rfl rfl ?_
        refine V_if_lt_t (pc := 130) (tgt := 167) dX12_search_130 (by decide) (by decide) ?_
        refine V_iload_n (pc := 167) 2 dX12_search_167 rfl rfl ?_
        refine V_istore_n (pc := 168) (lo' := [(0, .ref (ad G 27)), (1, .int x), (2, .int (-1))]) dX12_search_168 rfl (by decide) rfl ?_
        refine V_iload_n (pc := 169) 1 dX12_search_169 rfl rfl ?_
        refine V_iload_n (pc := 170) 2 dX12_search_170 rfl rfl ?_
        refine V_if_ge_f (pc := 171) (tgt := 178) dX12_search_171 (by decide) (by decide) ?_
        refine V_iconst (pc := 174) (v := 1) dX12_search_174 rfl ?_
        refine V_goto (pc := 175) (tgt := 179) dX12_search_175 (by decide) ?_
        refine V_iadd (pc := 179) dX12_search_179 (fun x_179_3 e_179_3 => ?_)
        have t_179_3 : x_179_3.toInt = x.toInt + 1 := addT e_179_3 rfl rfl (by omega) (by omega)
        refine V_istore_n (pc := 180) (lo' := [(0, .ref (ad G 27)), (1, .int x_179_3), (2, .int (-1))]) dX12_search_180 rfl (by decide) rfl ?_
        refine V_goto (pc := 181) (tgt := 90) dX12_search_181 (by decide) ?_
        exact hskip (by first | exact Or.inl ((exE_i _ _ _).mpr (by rcases hin with ⟨q, q1, q2⟩; exact ⟨q, by omega, by rw [← hrow q (by omega)]; unfold inP at q2; omega⟩)) | exact Or.inr (Or.inl (by omega)) | exact Or.inr (Or.inr (by rw [← hSF 30 r0 rfl]; omega))) x_179_3 (by omega)
      · have hd0 := hd
        refine V_if_eq_t (pc := 107) (tgt := 114) dX12_search_107 (by decide) (by decide) ?_
        refine V_aload_n (pc := 114) 0 dX12_search_114 rfl rfl ?_
        refine V_iload_n (pc := 115) 1 dX12_search_115 rfl rfl ?_
        refine V_aload_n (pc := 116) 0 dX12_search_116 rfl rfl ?_
        refine V_getR (pc := 117) (j := 41) fk_X12_50_12 (wR hw (i := 27) (k := 21) (j := 41) rfl) dX12_search_117 (wN hw (by decide)) (wS1 hw (by decide) rfl) ?_
        refine V_aload_n (pc := 120) 0 dX12_search_120 rfl rfl ?_
        refine V_gI (pc := 121) (v := (I 27 19)) rfl fk_X12_164_12 dX12_search_121 (wN hw (by decide)) (wS1 hw (by decide) rfl) ?_
        refine V_ia (pc := 124) (k := d) (v := (I 41 d)) rfl dX12_search_124 (wN hw (by decide)) (wS hw (by decide) rfl) hd (by omega) ?_
        refine V_callV (pc := 125) (As := [.int x, .int (I 41 d)]) (st := []) (c_X12_leads G x (I 41 d) hw (by omega)) mf_X12_leads ml_X12_182 iv_X12_leads (wN hw (by decide)) (wS1 hw (by decide) rfl) (by decide) rfl dX12_search_125 rfl rfl (by omega) (by omega) (by omega) (Nat.le_of_ble_eq_true rfl) (fun r_125_4 n_125_4 sh_125_4 I_125_4 L_125_4 R_125_4 hq_125_4 => ?_)
        obtain ⟨rfl, rfl, rfl, rfl, rfl, nx, rfl, hnx⟩ := hq_125_4
        rw [hx, hs, leadsF_SF hSF, Int.toNat_natCast] at hnx
        refine V_istore_n (pc := 128) (lo' := [(0, .ref (ad G 27)), (1, .int x), (2, .int nx)]) dX12_search_128 rfl (by decide) rfl ?_
        refine V_iload_n (pc := 129) 2 dX12_search_129 rfl rfl ?_
        refine V_if_lt (pc := 130) (tgt := 167) dX12_search_130 (by decide) (fun c_130_5 => ?_) (fun c_130_5 => ?_)
        · have c_130_5 : nx.toInt < 0 := c_130_5
          refine V_iload_n (pc := 167) 2 dX12_search_167 rfl rfl ?_
          refine V_istore_n (pc := 168) (lo' := [(0, .ref (ad G 27)), (1, .int x), (2, .int nx)]) dX12_search_168 rfl (by decide) rfl ?_
          refine V_iload_n (pc := 169) 1 dX12_search_169 rfl rfl ?_
          refine V_iload_n (pc := 170) 2 dX12_search_170 rfl rfl ?_
          refine V_if_ge (pc := 171) (tgt := 178) dX12_search_171 (by decide) (fun c_171_6 => ?_) (fun c_171_6 => ?_)
          · have c_171_6 : 0 ≤ nx.toInt := c_171_6
            refine V_iconst (pc := 178) (v := 0) dX12_search_178 rfl ?_
            refine V_iadd (pc := 179) dX12_search_179 (fun x_179_7 e_179_7 => ?_)
            have t_179_7 : x_179_7.toInt = x.toInt + 0 := addT e_179_7 rfl rfl (by omega) (by omega)
            refine V_istore_n (pc := 180) (lo' := [(0, .ref (ad G 27)), (1, .int x_179_7), (2, .int nx)]) dX12_search_180 rfl (by decide) rfl ?_
            refine V_goto (pc := 181) (tgt := 90) dX12_search_181 (by decide) ?_
            refine V_iload_n (pc := 90) 1 dX12_search_90 rfl rfl ?_
            refine V_aload_n (pc := 91) 0 dX12_search_91 rfl rfl ?_
            refine V_gI (pc := 92) (v := (I 27 1)) rfl fk_X12_108_12 dX12_search_92 (wN hw (by decide)) (wS1 hw (by decide) rfl) ?_
            refine V_icmp_ge (pc := 95) (tgt := 184) dX12_search_95 (by decide) (fun c_95_8 => ?_) (fun c_95_8 => ?_)
            · have c_95_8 : (I 27 1).toInt ≤ x_179_7.toInt := c_95_8
              exfalso; omega
            · have c_95_8 : x_179_7.toInt < (I 27 1).toInt := c_95_8
              refine V_iload_n (pc := 98) 2 dX12_search_98 rfl rfl ?_
              refine V_if_ge (pc := 99) (tgt := 184) dX12_search_99 (by decide) (fun c_99_9 => ?_) (fun c_99_9 => ?_)
              · have c_99_9 : 0 ≤ nx.toInt := c_99_9
                refine V_iload_n (pc := 184) 2 dX12_search_184 rfl rfl ?_
                refine V_if_ge (pc := 185) (tgt := 201) dX12_search_185 (by decide) (fun c_185_10 => ?_) (fun c_185_10 => ?_)
                · have c_185_10 : 0 ≤ nx.toInt := c_185_10
                  exact sr_201 G E hw hE D c ihD ihc d w s fo su r0 I _ nx hDd hrcE hM (by omega) (by rw [hx] at hin; exact hin) hnx (by omega) (by omega) K
                · have c_185_10 : nx.toInt < 0 := c_185_10
                  exfalso; omega
              · have c_99_9 : nx.toInt < 0 := c_99_9
                exfalso; omega
          · have c_171_6 : nx.toInt < 0 := c_171_6
            refine V_iconst (pc := 174) (v := 1) dX12_search_174 rfl ?_
            refine V_goto (pc := 175) (tgt := 179) dX12_search_175 (by decide) ?_
            refine V_iadd (pc := 179) dX12_search_179 (fun x_179_11 e_179_11 => ?_)
            have t_179_11 : x_179_11.toInt = x.toInt + 1 := addT e_179_11 rfl rfl (by omega) (by omega)
            refine V_istore_n (pc := 180) (lo' := [(0, .ref (ad G 27)), (1, .int x_179_11), (2, .int nx)]) dX12_search_180 rfl (by decide) rfl ?_
            refine V_goto (pc := 181) (tgt := 90) dX12_search_181 (by decide) ?_
            have e0 : nx = -1 := ti_eq.mpr (by show nx.toInt = -1; omega)
            rw [e0]
            exact hskip (Or.inr (Or.inl (by omega))) x_179_11 (by omega)
        · have c_130_5 : 0 ≤ nx.toInt := c_130_5
          refine V_aload_n (pc := 133) 0 dX12_search_133 rfl rfl ?_
          refine V_gI (pc := 134) (v := (I 27 15)) rfl fk_X12_167_12 dX12_search_134 (wN hw (by decide)) (wS1 hw (by decide) rfl) ?_
          refine V_if_lt (pc := 137) (tgt := 167) dX12_search_137 (by decide) (fun c_137_12 => ?_) (fun c_137_12 => ?_)
          · have c_137_12 : (I 27 15).toInt < 0 := c_137_12
            refine V_iload_n (pc := 167) 2 dX12_search_167 rfl rfl ?_
            refine V_istore_n (pc := 168) (lo' := [(0, .ref (ad G 27)), (1, .int x), (2, .int nx)]) dX12_search_168 rfl (by decide) rfl ?_
            refine V_iload_n (pc := 169) 1 dX12_search_169 rfl rfl ?_
            refine V_iload_n (pc := 170) 2 dX12_search_170 rfl rfl ?_
            refine V_if_ge (pc := 171) (tgt := 178) dX12_search_171 (by decide) (fun c_171_13 => ?_) (fun c_171_13 => ?_)
            · have c_171_13 : 0 ≤ nx.toInt := c_171_13
              refine V_iconst (pc := 178) (v := 0) dX12_search_178 rfl ?_
              refine V_iadd (pc := 179) dX12_search_179 (fun x_179_14 e_179_14 => ?_)
              have t_179_14 : x_179_14.toInt = x.toInt + 0 := addT e_179_14 rfl rfl (by omega) (by omega)
              refine V_istore_n (pc := 180) (lo' := [(0, .ref (ad G 27)), (1, .int x_179_14), (2, .int nx)]) dX12_search_180 rfl (by decide) rfl ?_
              refine V_goto (pc := 181) (tgt := 90) dX12_search_181 (by decide) ?_
              refine V_iload_n (pc := 90) 1 dX12_search_90 rfl rfl ?_
              refine V_aload_n (pc := 91) 0 dX12_search_91 rfl rfl ?_
              refine V_gI (pc := 92) (v := (I 27 1)) rfl fk_X12_108_12 dX12_search_92 (wN hw (by decide)) (wS1 hw (by decide) rfl) ?_
              refine V_icmp_ge (pc := 95) (tgt := 184) dX12_search_95 (by decide) (fun c_95_15 => ?_) (fun c_95_15 => ?_)
              · have c_95_15 : (I 27 1).toInt ≤ x_179_14.toInt := c_95_15
                exfalso; omega
              · have c_95_15 : x_179_14.toInt < (I 27 1).toInt := c_95_15
                refine V_iload_n (pc := 98) 2 dX12_search_98 rfl rfl ?_
                refine V_if_ge (pc := 99) (tgt := 184) dX12_search_99 (by decide) (fun c_99_16 => ?_) (fun c_99_16 => ?_)
                · have c_99_16 : 0 ≤ nx.toInt := c_99_16
                  refine V_iload_n (pc := 184) 2 dX12_search_184 rfl rfl ?_
                  refine V_if_ge (pc := 185) (tgt := 201) dX12_search_185 (by decide) (fun c_185_17 => ?_) (fun c_185_17 => ?_)
                  · have c_185_17 : 0 ≤ nx.toInt := c_185_17
                    exact sr_201 G E hw hE D c ihD ihc d w s fo su r0 I _ nx hDd hrcE hM (by omega) (by rw [hx] at hin; exact hin) hnx (by omega) (by omega) K
                  · have c_185_17 : nx.toInt < 0 := c_185_17
                    exfalso; omega
                · have c_99_16 : nx.toInt < 0 := c_99_16
                  exfalso; omega
            · have c_171_13 : nx.toInt < 0 := c_171_13
              refine V_iconst (pc := 174) (v := 1) dX12_search_174 rfl ?_
              refine V_goto (pc := 175) (tgt := 179) dX12_search_175 (by decide) ?_
              refine V_iadd (pc := 179) dX12_search_179 (fun x_179_18 e_179_18 => ?_)
              have t_179_18 : x_179_18.toInt = x.toInt + 1 := addT e_179_18 rfl rfl (by omega) (by omega)
              refine V_istore_n (pc := 180) (lo' := [(0, .ref (ad G 27)), (1, .int x_179_18), (2, .int nx)]) dX12_search_180 rfl (by decide) rfl ?_
              refine V_goto (pc := 181) (tgt := 90) dX12_search_181 (by decide) ?_
              have e0 : nx = -1 := ti_eq.mpr (by show nx.toInt = -1; omega)
              rw [e0]
              exact hskip (Or.inr (Or.inl (by omega))) x_179_18 (by omega)
          · have c_137_12 : 0 ≤ (I 27 15).toInt := c_137_12
            refine V_aload_n (pc := 140) 0 dX12_search_140 rfl rfl ?_
            refine V_getR (pc := 141) (j := 43) fk_X12_56_12 (wR hw (i := 27) (k := 23) (j := 43) rfl) dX12_search_141 (wN hw (by decide)) (wS1 hw (by decide) rfl) ?_
            refine V_aload_n (pc := 144) 0 dX12_search_144 rfl rfl ?_
            refine V_gI (pc := 145) (v := (I 27 19)) rfl fk_X12_164_12 dX12_search_145 (wN hw (by decide)) (wS1 hw (by decide) rfl) ?_
            refine V_ia (pc := 148) (k := d) (v := (I 43 d)) rfl dX12_search_148 (wN hw (by decide)) (wS hw (by decide) rfl) hd (by omega) ?_
            refine V_aload_n (pc := 149) 0 dX12_search_149 rfl rfl ?_
            refine V_getR (pc := 150) (j := 30) fk_X12_16_12 (wR hw (i := 27) (k := 4) (j := 30) rfl) dX12_search_150 (wN hw (by decide)) (wS1 hw (by decide) rfl) ?_
            refine V_iload_n (pc := 153) 1 dX12_search_153 rfl rfl ?_
            refine V_ia (pc := 154) (k := r0) (v := (I 30 r0)) rfl dX12_search_154 (wN hw (by decide)) (wS hw (by decide) rfl) hx (by omega) ?_
            refine V_iadd (pc := 155) dX12_search_155 (fun x_155_19 e_155_19 => ?_)
            have t_155_19 : x_155_19.toInt = (I 43 d).toInt + (I 30 r0).toInt := addT e_155_19 rfl rfl (by omega) (by omega)
            refine V_aload_n (pc := 156) 0 dX12_search_156 rfl rfl ?_
            refine V_gI (pc := 157) (v := (I 27 15)) rfl fk_X12_167_12 dX12_search_157 (wN hw (by decide)) (wS1 hw (by decide) rfl) ?_
            refine V_icmp_le (pc := 160) (tgt := 167) dX12_search_160 (by decide) (fun c_160_20 => ?_) (fun c_160_20 => ?_)
            · have c_160_20 : x_155_19.toInt ≤ (I 27 15).toInt := c_160_20
              refine V_iload_n (pc := 167) 2 dX12_search_167 rfl rfl ?_
              refine V_istore_n (pc := 168) (lo' := [(0, .ref (ad G 27)), (1, .int x), (2, .int nx)]) dX12_search_168 rfl (by decide) rfl ?_
              refine V_iload_n (pc := 169) 1 dX12_search_169 rfl rfl ?_
              refine V_iload_n (pc := 170) 2 dX12_search_170 rfl rfl ?_
              refine V_if_ge (pc := 171) (tgt := 178) dX12_search_171 (by decide) (fun c_171_21 => ?_) (fun c_171_21 => ?_)
              · have c_171_21 : 0 ≤ nx.toInt := c_171_21
                refine V_iconst (pc := 178) (v := 0) dX12_search_178 rfl ?_
                refine V_iadd (pc := 179) dX12_search_179 (fun x_179_22 e_179_22 => ?_)
                have t_179_22 : x_179_22.toInt = x.toInt + 0 := addT e_179_22 rfl rfl (by omega) (by omega)
                refine V_istore_n (pc := 180) (lo' := [(0, .ref (ad G 27)), (1, .int x_179_22), (2, .int nx)]) dX12_search_180 rfl (by decide) rfl ?_
                refine V_goto (pc := 181) (tgt := 90) dX12_search_181 (by decide) ?_
                refine V_iload_n (pc := 90) 1 dX12_search_90 rfl rfl ?_
                refine V_aload_n (pc := 91) 0 dX12_search_91 rfl rfl ?_
                refine V_gI (pc := 92) (v := (I 27 1)) rfl fk_X12_108_12 dX12_search_92 (wN hw (by decide)) (wS1 hw (by decide) rfl) ?_
                refine V_icmp_ge (pc := 95) (tgt := 184) dX12_search_95 (by decide) (fun c_95_23 => ?_) (fun c_95_23 => ?_)
                · have c_95_23 : (I 27 1).toInt ≤ x_179_22.toInt := c_95_23
                  exfalso; omega
                · have c_95_23 : x_179_22.toInt < (I 27 1).toInt := c_95_23
                  refine V_iload_n (pc := 98) 2 dX12_search_98 rfl rfl ?_
                  refine V_if_ge (pc := 99) (tgt := 184) dX12_search_99 (by decide) (fun c_99_24 => ?_) (fun c_99_24 => ?_)
                  · have c_99_24 : 0 ≤ nx.toInt := c_99_24
                    refine V_iload_n (pc := 184) 2 dX12_search_184 rfl rfl ?_
                    refine V_if_ge (pc := 185) (tgt := 201) dX12_search_185 (by decide) (fun c_185_25 => ?_) (fun c_185_25 => ?_)
                    · have c_185_25 : 0 ≤ nx.toInt := c_185_25
                      exact sr_201 G E hw hE D c ihD ihc d w s fo su r0 I _ nx hDd hrcE hM (by omega) (by rw [hx] at hin; exact hin) hnx (by omega) (by omega) K
                    · have c_185_25 : nx.toInt < 0 := c_185_25
                      exfalso; omega
                  · have c_99_24 : nx.toInt < 0 := c_99_24
                    exfalso; omega
              · have c_171_21 : nx.toInt < 0 := c_171_21
                refine V_iconst (pc := 174) (v := 1) dX12_search_174 rfl ?_
                refine V_goto (pc := 175) (tgt := 179) dX12_search_175 (by decide) ?_
                refine V_iadd (pc := 179) dX12_search_179 (fun x_179_26 e_179_26 => ?_)
                have t_179_26 : x_179_26.toInt = x.toInt + 1 := addT e_179_26 rfl rfl (by omega) (by omega)
                refine V_istore_n (pc := 180) (lo' := [(0, .ref (ad G 27)), (1, .int x_179_26), (2, .int nx)]) dX12_search_180 rfl (by decide) rfl ?_
                refine V_goto (pc := 181) (tgt := 90) dX12_search_181 (by decide) ?_
                have e0 : nx = -1 := ti_eq.mpr (by show nx.toInt = -1; omega)
                rw [e0]
                exact hskip (Or.inr (Or.inl (by omega))) x_179_26 (by omega)
            · have c_160_20 : (I 27 15).toInt < x_155_19.toInt := c_160_20
              refine V_iconst (pc := 163) (v := (-1)) dX12_search_163 rfl ?_
              refine V_goto (pc := 164) (tgt := 168) dX12_search_164 (by decide) ?_
              refine V_istore_n (pc := 168) (lo' := [(0, .ref (ad G 27)), (1, .int x), (2, .int (-1))]) dX12_search_168 rfl (by decide) rfl ?_
              refine V_iload_n (pc := 169) 1 dX12_search_169 rfl rfl ?_
              refine V_iload_n (pc := 170) 2 dX12_search_170 rfl rfl ?_
              refine V_if_ge_f (pc := 171) (tgt := 178) dX12_search_171 (by decide) (by decide) ?_
              refine V_iconst (pc := 174) (v := 1) dX12_search_174 rfl ?_
              refine V_goto (pc := 175) (tgt := 179) dX12_search_175 (by decide) ?_
              refine V_iadd (pc := 179) dX12_search_179 (fun x_179_27 e_179_27 => ?_)
              have t_179_27 : x_179_27.toInt = x.toInt + 1 := addT e_179_27 rfl rfl (by omega) (by omega)
              refine V_istore_n (pc := 180) (lo' := [(0, .ref (ad G 27)), (1, .int x_179_27), (2, .int (-1))]) dX12_search_180 rfl (by decide) rfl ?_
              refine V_goto (pc := 181) (tgt := 90) dX12_search_181 (by decide) ?_
              exact hskip (by first | exact Or.inl ((exE_i _ _ _).mpr (by rcases hin with ⟨q, q1, q2⟩; exact ⟨q, by omega, by rw [← hrow q (by omega)]; unfold inP at q2; omega⟩)) | exact Or.inr (Or.inl (by omega)) | exact Or.inr (Or.inr (by rw [← hSF 30 r0 rfl]; omega))) x_179_27 (by omega)
