theorem fb_rng (x : Int32) : -2147483648 ≤ x.toInt ∧ x.toInt < 2147483648 := by
  have h1 := Int32.le_toInt x
  have h2 := Int32.toInt_lt x
  omega
theorem fb_bmod {z : Int} (h1 : -2147483648 ≤ z) (h2 : z < 2147483648) : z.bmod (2 ^ 32) = z := by
  rw [Int.bmod_eq_of_le (by omega) (by omega)]
theorem fb_addI {x y : Int32} (h1 : -2147483648 ≤ x.toInt + y.toInt) (h2 : x.toInt + y.toInt < 2147483648) : (x + y).toInt = x.toInt + y.toInt := by
  rw [Int32.toInt_add, fb_bmod h1 h2]
theorem fb_subI {x y : Int32} (h1 : -2147483648 ≤ x.toInt - y.toInt) (h2 : x.toInt - y.toInt < 2147483648) : (x - y).toInt = x.toInt - y.toInt := by
  rw [Int32.toInt_sub, fb_bmod h1 h2]
theorem fb_mulI {x y : Int32} (h1 : -2147483648 ≤ x.toInt * y.toInt) (h2 : x.toInt * y.toInt < 2147483648) : (x * y).toInt = x.toInt * y.toInt := by
  rw [Int32.toInt_mul, fb_bmod h1 h2]
theorem fb_negI {x : Int32} (h : x.toInt ≠ -2147483648) : (-x).toInt = -x.toInt := by
  have := fb_rng x
  rw [Int32.toInt_neg, fb_bmod (by omega) (by omega)]
theorem fb_ofI {z : Int} (h1 : -2147483648 ≤ z) (h2 : z < 2147483648) : (Int32.ofInt z).toInt = z := by
  rw [Int32.toInt_ofInt, fb_bmod h1 h2]
theorem fb_asI (x : Int32) : Int32.ofInt x.toInt = x := Int32.ofInt_toInt x
theorem fb_rngL (x : Int64) : -9223372036854775808 ≤ x.toInt ∧ x.toInt < 9223372036854775808 := by
  have h1 := Int64.le_toInt x
  have h2 := Int64.toInt_lt x
  omega
theorem fb_bmodL {z : Int} (h1 : -9223372036854775808 ≤ z) (h2 : z < 9223372036854775808) : z.bmod (2 ^ 64) = z := by
  rw [Int.bmod_eq_of_le (by omega) (by omega)]
theorem fb_addL {x y : Int64} (h1 : -9223372036854775808 ≤ x.toInt + y.toInt) (h2 : x.toInt + y.toInt < 9223372036854775808) : (x + y).toInt = x.toInt + y.toInt := by
  rw [Int64.toInt_add, fb_bmodL h1 h2]
theorem fb_subL {x y : Int64} (h1 : -9223372036854775808 ≤ x.toInt - y.toInt) (h2 : x.toInt - y.toInt < 9223372036854775808) : (x - y).toInt = x.toInt - y.toInt := by
  rw [Int64.toInt_sub, fb_bmodL h1 h2]
theorem fb_mulL {x y : Int64} (h1 : -9223372036854775808 ≤ x.toInt * y.toInt) (h2 : x.toInt * y.toInt < 9223372036854775808) : (x * y).toInt = x.toInt * y.toInt := by
  rw [Int64.toInt_mul, fb_bmodL h1 h2]
/-! ===== cuts of what is narrow already ===== -/
theorem fb_byte {x : Int32} (h1 : -128 ≤ x.toInt) (h2 : x.toInt < 128) : x.toInt8.toInt32 = x := by
  apply Int32.toInt_inj.1
  rw [Int8.toInt_toInt32, Int32.toInt_toInt8, Int.bmod_eq_of_le (by omega) (by omega)]
theorem fb_short {x : Int32} (h1 : -32768 ≤ x.toInt) (h2 : x.toInt < 32768) : x.toInt16.toInt32 = x := by
  apply Int32.toInt_inj.1
  rw [Int16.toInt_toInt32, Int32.toInt_toInt16, Int.bmod_eq_of_le (by omega) (by omega)]
theorem fb_byte_rng (x : Int32) : -128 ≤ x.toInt8.toInt32.toInt ∧ x.toInt8.toInt32.toInt < 128 := by
  rw [Int8.toInt_toInt32]
  have h1 := Int8.le_toInt x.toInt8
  have h2 := Int8.toInt_lt x.toInt8
  omega
theorem fb_short_rng (x : Int32) : -32768 ≤ x.toInt16.toInt32.toInt ∧ x.toInt16.toInt32.toInt < 32768 := by
  rw [Int16.toInt_toInt32]
  have h1 := Int16.le_toInt x.toInt16
  have h2 := Int16.toInt_lt x.toInt16
  omega
theorem fb_byte_twice (x : Int32) : x.toInt8.toInt32.toInt8.toInt32 = x.toInt8.toInt32 := fb_byte (fb_byte_rng x).1 (fb_byte_rng x).2
theorem fb_short_twice (x : Int32) : x.toInt16.toInt32.toInt16.toInt32 = x.toInt16.toInt32 := fb_short (fb_short_rng x).1 (fb_short_rng x).2
theorem addT {x y z : Int32} {a b : Int} (e : z = x + y) (hx : x.toInt = a) (hy : y.toInt = b) (h1 : -2147483648 ≤ a + b) (h2 : a + b < 2147483648) : z.toInt = a + b := by
  subst e hx hy; exact fb_addI h1 h2
theorem subT {x y z : Int32} {a b : Int} (e : z = x - y) (hx : x.toInt = a) (hy : y.toInt = b) (h1 : -2147483648 ≤ a - b) (h2 : a - b < 2147483648) : z.toInt = a - b := by
  subst e hx hy; exact fb_subI h1 h2
theorem mulT {x y z : Int32} {a b : Int} (e : z = x * y) (hx : x.toInt = a) (hy : y.toInt = b) (h1 : -2147483648 ≤ a * b) (h2 : a * b < 2147483648) : z.toInt = a * b := by
  subst e hx hy; exact fb_mulI h1 h2
theorem i2lT {x : Int32} {z : Int64} {a : Int} (e : z = x.toInt64) (hx : x.toInt = a) : z.toInt = a := by
  subst e hx; exact Int32.toInt_toInt64 x
theorem laddT {x y z : Int64} {a b : Int} (e : z = x + y) (hx : x.toInt = a) (hy : y.toInt = b) (h1 : -9223372036854775808 ≤ a + b) (h2 : a + b < 9223372036854775808) : z.toInt = a + b := by
  subst e hx hy; exact fb_addL h1 h2
theorem lsubT {x y z : Int64} {a b : Int} (e : z = x - y) (hx : x.toInt = a) (hy : y.toInt = b) (h1 : -9223372036854775808 ≤ a - b) (h2 : a - b < 9223372036854775808) : z.toInt = a - b := by
  subst e hx hy; exact fb_subL h1 h2
theorem lmulT {x y z : Int64} {a b : Int} (e : z = x * y) (hx : x.toInt = a) (hy : y.toInt = b) (h1 : -9223372036854775808 ≤ a * b) (h2 : a * b < 9223372036854775808) : z.toInt = a * b := by
  subst e hx hy; exact fb_mulL h1 h2
theorem tl_lt {a b : Int64} : a < b ↔ a.toInt < b.toInt := Int64.lt_iff_toInt_lt
theorem tl_eq {a b : Int64} : a = b ↔ a.toInt = b.toInt := ⟨fun h => by rw [h], fun h => Int64.toInt_inj.mp h⟩
theorem lc_3 {x y : Int64} {z : Int32} (e : z = lg_cmp x y) : (z.toInt = 1 ∧ y.toInt < x.toInt) ∨ (z.toInt = 0 ∧ x.toInt = y.toInt) ∨ (z.toInt = -1 ∧ x.toInt < y.toInt) := by
  subst e
  unfold lg_cmp
  by_cases h : x > y
  · rw [if_pos h]; exact Or.inl ⟨rfl, tl_lt.mp h⟩
  · rw [if_neg h]
    have h' : ¬ y.toInt < x.toInt := fun q => h (tl_lt.mpr q)
    by_cases g : x = y
    · rw [if_pos g]; exact Or.inr (Or.inl ⟨rfl, tl_eq.mp g⟩)
    · rw [if_neg g]
      have g' : ¬ x.toInt = y.toInt := fun q => g (tl_eq.mpr q)
      exact Or.inr (Or.inr ⟨rfl, by omega⟩)
theorem lcT_lt {x y : Int64} {z : Int32} (e : z = lg_cmp x y) : z.toInt < 0 ↔ x.toInt < y.toInt := by have := lc_3 e; omega
theorem lcT_ge {x y : Int64} {z : Int32} (e : z = lg_cmp x y) : 0 ≤ z.toInt ↔ y.toInt ≤ x.toInt := by have := lc_3 e; omega
theorem lcT_gt {x y : Int64} {z : Int32} (e : z = lg_cmp x y) : 0 < z.toInt ↔ y.toInt < x.toInt := by have := lc_3 e; omega
theorem lcT_le {x y : Int64} {z : Int32} (e : z = lg_cmp x y) : z.toInt ≤ 0 ↔ x.toInt ≤ y.toInt := by have := lc_3 e; omega
theorem lcT_eq {x y : Int64} {z : Int32} (e : z = lg_cmp x y) : z.toInt = 0 ↔ x.toInt = y.toInt := by have := lc_3 e; omega
theorem lcT_ne {x y : Int64} {z : Int32} (e : z = lg_cmp x y) : z.toInt ≠ 0 ↔ x.toInt ≠ y.toInt := by have := lc_3 e; omega
theorem nbool {x : Int32} (h : x.toInt = 0 ∨ x.toInt = 1) : narrow .boolean (.int x) = .int x := by
  rcases h with h | h
  · rw [show x = 0 from ti_eq.mpr h]; rfl
  · rw [show x = 1 from ti_eq.mpr h]; rfl
theorem b01 {x : Int32} (h : x.toInt = 0 ∨ x.toInt = 1) : x = 0 ∨ x = 1 := by
  rcases h with h | h
  · exact Or.inl (ti_eq.mpr h)
  · exact Or.inr (ti_eq.mpr h)
section VN
variable {G : vG} {own : String} {cc : ByteArray} {ret : Option FieldType} {ini : Bool} {d MC MS nL : Nat} {post : PT} {pc : Nat} {lo : List (Nat × Value)} {st st0 : List Value} {ce sl n : Nat} {sh : vS} {I : vI} {L : vL} {R : vR} {idx : Nat}
theorem V_ialk {i N k : Nat} {x : Int32} (hd : decode cc pc = .ok (.iaload, 1)) (hi : i < n) (hs : sh i = (13, N)) (hk : x.toInt = (k : Int)) (h1 : k < N) (kk : V G own cc ret ini d MC MS nL post (pc + 1) lo (.int (I i k) :: st) ce sl n sh I L R) : V G own cc ret ini d MC MS nL post pc lo (.int x :: .ref (ad G i) :: st) ce sl n sh I L R :=
  V_iald hd hi hs (by omega) (by omega) (by rw [hk]; exact kk)
theorem V_zalk {i N k : Nat} {x : Int32} (hd : decode cc pc = .ok (.baload, 1)) (hi : i < n) (hs : sh i = (14, N)) (hk : x.toInt = (k : Int)) (h1 : k < N) (kk : V G own cc ret ini d MC MS nL post (pc + 1) lo (.int (I i k) :: st) ce sl n sh I L R) : V G own cc ret ini d MC MS nL post pc lo (.int x :: .ref (ad G i) :: st) ce sl n sh I L R :=
  V_zald hd hi hs (by omega) (by omega) (by rw [hk]; exact kk)
theorem V_aalk {i N t j k : Nat} {x : Int32} (hd : decode cc pc = .ok (.aaload, 1)) (hi : i < n) (hs : sh i = (13 + t, N)) (ht : 2 ≤ t) (ht6 : t < 6) (hk : x.toInt = (k : Int)) (h1 : k < N) (hr : R i k = some j) (kk : V G own cc ret ini d MC MS nL post (pc + 1) lo (.ref (ad G j) :: st) ce sl n sh I L R) : V G own cc ret ini d MC MS nL post pc lo (.int x :: .ref (ad G i) :: st) ce sl n sh I L R :=
  V_aald hd hi hs ht ht6 (by omega) (by omega) (by rw [hk]; exact hr) kk
theorem V_iask {i N k : Nat} {x y : Int32} (hd : decode cc pc = .ok (.iastore, 1)) (hi : i < n) (hs : sh i = (13, N)) (hk : x.toInt = (k : Int)) (h1 : k < N) (kk : V G own cc ret ini d MC MS nL post (pc + 1) lo st ce sl n sh (up2 I i k y) L R) : V G own cc ret ini d MC MS nL post pc lo (.int y :: .int x :: .ref (ad G i) :: st) ce sl n sh I L R :=
  V_iast hd hi hs (by omega) (by omega) (by rw [hk]; exact kk)
theorem V_zask {i N k : Nat} {x y : Int32} (hy : y = 0 ∨ y = 1) (hd : decode cc pc = .ok (.bastore, 1)) (hi : i < n) (hs : sh i = (14, N)) (hk : x.toInt = (k : Int)) (h1 : k < N) (kk : V G own cc ret ini d MC MS nL post (pc + 1) lo st ce sl n sh (up2 I i k y) L R) : V G own cc ret ini d MC MS nL post pc lo (.int y :: .int x :: .ref (ad G i) :: st) ce sl n sh I L R :=
  V_zast hy hd hi hs (by omega) (by omega) (by rw [hk]; exact kk)
theorem V_mmin {x y : Int32} (hl : Cond.methodLink own idx Lib.Math.min.name ∈ vT) (hd : decode cc pc = .ok (.invokestatic idx, 3)) (hdd : 1 ≤ d) (hce : ce ≤ MC) (hsl : sl ≤ MS) (hW : (st.map fun v => v.category).sum ≤ 8) (k : ∀ z : Int32, z = (if y < x then y else x) → V G own cc ret ini d MC MS nL post (pc + 3) lo (.int z :: st) ce sl n sh I L R) : V G own cc ret ini d MC MS nL post pc lo (.int y :: .int x :: st) ce sl n sh I L R := by
  intro p e R0 s m args below meth c0 H locs ls hc hP hS hl2
  obtain ⟨h1, h2, h3, h4, h5, hts, hK, h8, h9, h10, h11, h12, h13, h14⟩ := id hc
  exact va_mmin h1 h2 (by rw [h4]; exact hl2.1.symm) h5 (hts _ hl) (hts _ mms_min) (hts _ mm_ini) (hts _ mm_min) (by omega) (by omega) (by omega) (by omega) hd (k _ rfl p e R0 s m args below meth c0 H locs ls hc hP hS hl2)
theorem V_mmaxl {x y : Int64} (hl : Cond.methodLink own idx Lib.MathLoose.max_long.x ∈ vT) (hd : decode cc pc = .ok (.invokestatic idx, 3)) (hdd : 1 ≤ d) (hce : ce ≤ MC) (hsl : sl ≤ MS) (hW : (st.map fun v => v.category).sum ≤ 8) (k : ∀ z : Int64, z = (if x < y then y else x) → V G own cc ret ini d MC MS nL post (pc + 3) lo (.long z :: st) ce sl n sh I L R) : V G own cc ret ini d MC MS nL post pc lo (.long y :: .long x :: st) ce sl n sh I L R := by
  intro p e R0 s m args below meth c0 H locs ls hc hP hS hl2
  obtain ⟨h1, h2, h3, h4, h5, hts, hK, h8, h9, h10, h11, h12, h13, h14⟩ := id hc
  exact va_mmax_long h1 h2 (by rw [h4]; exact hl2.1.symm) h5 (hts _ hl) (hts _ mms_maxl) (hts _ mm_ini) (hts _ mm_maxl) (by omega) (by omega) (by omega) (by omega) hd (k _ (by first | rfl | (split <;> split <;> first | rfl | (exfalso; rename_i q1 q2; rw [tl_lt] at q1 q2; omega) | (apply tl_eq.mpr; rename_i q1 q2; rw [tl_lt] at q1 q2; omega))) p e R0 s m args below meth c0 H locs ls hc hP hS hl2)
theorem V_mminl {x y : Int64} (hl : Cond.methodLink own idx Lib.MathLoose.min_long.x ∈ vT) (hd : decode cc pc = .ok (.invokestatic idx, 3)) (hdd : 1 ≤ d) (hce : ce ≤ MC) (hsl : sl ≤ MS) (hW : (st.map fun v => v.category).sum ≤ 8) (k : ∀ z : Int64, (z.toInt = min x.toInt y.toInt) → V G own cc ret ini d MC MS nL post (pc + 3) lo (.long z :: st) ce sl n sh I L R) : V G own cc ret ini d MC MS nL post pc lo (.long y :: .long x :: st) ce sl n sh I L R := by
  intro p e R0 s m args below meth c0 H locs ls hc hP hS hl2
  obtain ⟨h1, h2, h3, h4, h5, hts, hK, h8, h9, h10, h11, h12, h13, h14⟩ := id hc
  exact va_mmin_long h1 h2 (by rw [h4]; exact hl2.1.symm) h5 (hts _ hl) (hts _ mms_minl) (hts _ mm_ini) (hts _ mm_minl) (by omega) (by omega) (by omega) (by omega) hd (k _ (by split <;> rename_i q <;> simp only [tl_lt] at q <;> omega) p e R0 s m args below meth c0 H locs ls hc hP hS hl2)
theorem V_mabsl {x : Int64} (hl : Cond.methodLink own idx Lib.MathLoose.abs_long.x ∈ vT) (hd : decode cc pc = .ok (.invokestatic idx, 3)) (hdd : 1 ≤ d) (hce : ce ≤ MC) (hsl : sl ≤ MS) (hW : (st.map fun v => v.category).sum ≤ 8) (k : ∀ z : Int64, z = (if 0 < x then x else -x) → V G own cc ret ini d MC MS nL post (pc + 3) lo (.long z :: st) ce sl n sh I L R) : V G own cc ret ini d MC MS nL post pc lo (.long x :: st) ce sl n sh I L R := by
  intro p e R0 s m args below meth c0 H locs ls hc hP hS hl2
  obtain ⟨h1, h2, h3, h4, h5, hts, hK, h8, h9, h10, h11, h12, h13, h14⟩ := id hc
  exact va_mabs_long h1 h2 (by rw [h4]; exact hl2.1.symm) h5 (hts _ hl) (hts _ mms_absl) (hts _ mm_ini) (hts _ mm_absl) (by omega) (by omega) (by omega) (by omega) hd (k _ rfl p e R0 s m args below meth c0 H locs ls hc hP hS hl2)
end VN
section VM
variable {G : vG} {own : String} {cc : ByteArray} {ret : Option FieldType} {ini : Bool} {d MC MS nL : Nat} {post : PT} {pc : Nat} {lo : List (Nat × Value)} {st st0 : List Value} {ce sl n : Nat} {sh : vS} {I : vI} {L : vL} {R : vR}
variable {x y : MethodName} {ccy : ByteArray} {nLy k dy mc ms idx : Nat} {rety : Option FieldType} {As : List Value} {posty : PT}
/-- what the tables say of a call of x that a receiver of class C answers by y -/
def OV (own : String) (idx : Nat) (C : String) (x y : MethodName) (k : Nat) : Prop := Cond.methodLink own idx x ∈ vT ∧ Cond.sameMethod x.cls x.cls x.name x.desc ∈ vT ∧ Cond.instanceMethod ⟨x.cls, x.name, x.desc⟩ ∈ vT ∧ Cond.selects C x y ∈ vT ∧ Cond.instanceMethod y ∈ vT ∧ (∃ (b0 : ByteArray) (m0 : Nat) (r0 : Option FieldType), Cond.code ⟨x.cls, x.name, x.desc⟩ b0 m0 r0 ∈ vT) ∧ (x.cls ≠ "java/lang/invoke/MethodHandle" ∧ x.cls ≠ "java/lang/invoke/VarHandle" ∧ (parseMethodDescriptor x.desc).map (fun d => d.parameters.length) = some k)
theorem V_callO {i c : Nat} {q : vw_C} (hM : CT G y ccy nLy rety dy mc ms (.ref (ad G i) :: As) n sh I L R posty) (hF : MF y ccy nLy rety k) (ho : OV own idx q.1 x y k) (hi : i < n) (hs : (sh i).1 = c) (hc13 : c < 13) (hcl : vwCl[c]? = some q) (hd : decode cc pc = .ok (.invokevirtual idx, 3)) (hk : As.length = k) (hstk : As.reverse ++ .ref (ad G i) :: st = st0) (hdd : dy + 1 ≤ d) (hce : ce + mc ≤ MC) (hsl : sl + ms ≤ MS) (hW : (st.map fun v => v.category).sum ≤ 8)
    (kk : ∀ (r : Option Value) (n' : Nat) (sh' : vS) (I' : vI) (L' : vL) (R' : vR), posty r n' sh' I' L' R' → V G own cc ret ini d MC MS nL post (pc + 3) lo (r.toList ++ st) (ce + mc) (sl + ms) n' sh' I' L' R') : V G own cc ret ini d MC MS nL post pc lo st0 ce sl n sh I L R := by
  intro p e R0 s m args below meth c0 H locs ls hc hP hS hl2
  obtain ⟨h1, h2, h3, h4, h5, hts, hK, h8, h9, h10, h11, h12, h13, h14⟩ := id hc
  obtain ⟨o1, o2, o3, o4, o5, ⟨b0, m0, r0, o6⟩, o7⟩ := ho
  have hg : GoodIn vT (va_wsO own idx q.1 x.cls x y (Cond.code y ccy nLy rety :: vT)) := tb_sub fun w hw => by
    simp only [va_wsO, List.mem_append, List.mem_cons, List.not_mem_nil, or_false] at hw
    rcases hw with (rfl | rfl | rfl | rfl | rfl | rfl) | rfl | h
    · exact o1
    · exact o2
    · exact o3
    · exact o4
    · exact o5
    · exact hF.2.1
    · exact hF.1
    · exact h
  refine V_run (va_runU (C := q.1) (x := x) (As := As) (rest := st) ⟨h1, h2, h4, h5, hts⟩ hM (va_cwO k hts hg rfl rfl rfl o6 o7 ⟨Nat.le_trans hdd h10, by have := hF.2.2.2.2.1; show 8 + (nLy + 11) + 40 * dy ≤ R0.locals; omega⟩) ⟨CT_blind, vrecv hK.1 hP hi hs hc13 hcl, fun U hU hW2 => ⟨rfl, by rw [hU]; exact hP, vK_warm hW2 hK⟩⟩ rfl hk hl2.1 hstk.symm (lv_room hW) hd ⟨by omega, by omega⟩) hS ?_
  intro r n' sh' I' L' R' H1 locs1 hq hP1 hS1
  exact kk r n' sh' I' L' R' hq p e R0 s m args below meth c0 H1 locs1 ls hc hP1 hS1 hl2
theorem V_callSU {i c : Nat} {q : vw_C} (hM : CT G y ccy nLy rety dy mc ms (.ref (ad G i) :: As) n sh I L R posty) (hF : MF y ccy nLy rety k) (ho : Cond.methodLink own idx y ∈ vT ∧ Cond.sameMethod y.cls y.cls y.name y.desc ∈ vT ∧ Cond.superclass own y.cls ∈ vT ∧ Cond.instanceMethod y ∈ vT) (hnm : y.name ≠ "<init>") (hi : i < n) (hs : (sh i).1 = c) (hc13 : c < 13) (hcl : vwCl[c]? = some q) (hd : decode cc pc = .ok (.invokespecial idx, 3)) (hk : As.length = k) (hstk : As.reverse ++ .ref (ad G i) :: st = st0) (hdd : dy + 1 ≤ d) (hce : ce + mc ≤ MC) (hsl : sl + ms ≤ MS) (hW : (st.map fun v => v.category).sum ≤ 8)
    (kk : ∀ (r : Option Value) (n' : Nat) (sh' : vS) (I' : vI) (L' : vL) (R' : vR), posty r n' sh' I' L' R' → V G own cc ret ini d MC MS nL post (pc + 3) lo (r.toList ++ st) (ce + mc) (sl + ms) n' sh' I' L' R') : V G own cc ret ini d MC MS nL post pc lo st0 ce sl n sh I L R := by
  intro p e R0 s m args below meth c0 H locs ls hc hP hS hl2
  obtain ⟨h1, h2, h3, h4, h5, hts, hK, h8, h9, h10, h11, h12, h13, h14⟩ := id hc
  obtain ⟨o1, o2, o3, o4⟩ := ho
  have hg : GoodIn vT (va_wsSU own idx y (Cond.code y ccy nLy rety :: vT)) := tb_sub fun w hw => by
    simp only [va_wsSU, List.mem_append, List.mem_cons, List.not_mem_nil, or_false] at hw
    rcases hw with (rfl | rfl | rfl | rfl | rfl) | rfl | h
    · exact o1
    · exact o2
    · exact o3
    · exact o4
    · exact hF.2.1
    · exact hF.1
    · exact h
  refine V_run (va_runSU (C := q.1) (As := As) (rest := st) (hK.1.1 c q hcl).2 ⟨h1, h2, h4, h5, hts⟩ hM (va_cwSU k hts hg rfl rfl rfl ⟨hnm, hF.2.2.2.1⟩ ⟨Nat.le_trans hdd h10, by have := hF.2.2.2.2.1; show 8 + (nLy + 11) + 40 * dy ≤ R0.locals; omega⟩) ⟨CT_blind, vrecv hK.1 hP hi hs hc13 hcl, fun U hU hW2 => ⟨rfl, by rw [hU]; exact hP, vK_warm hW2 hK⟩⟩ rfl hk hl2.1 hstk.symm (lv_room hW) hd ⟨by omega, by omega⟩) hS ?_
  intro r n' sh' I' L' R' H1 locs1 hq hP1 hS1
  exact kk r n' sh' I' L' R' hq p e R0 s m args below meth c0 H1 locs1 ls hc hP1 hS1 hl2
theorem V_inst {i c : Nat} {q : vw_C} {nm : String} (v : Int32) (hw : Cond.classLink own idx nm ∈ vT) (hv : (v = 1 ∧ q.1 = nm) ∨ (v = 1 ∧ (q.1, nm) ∈ vCa) ∨ (v = 0 ∧ (q.1, nm) ∈ vNca)) (hi : i < n) (hs : (sh i).1 = c) (hc13 : c < 13) (hcl : vwCl[c]? = some q) (hd : decode cc pc = .ok (.instanceof idx, 3)) (kk : V G own cc ret ini d MC MS nL post (pc + 3) lo (.int v :: st) ce sl n sh I L R) : V G own cc ret ini d MC MS nL post pc lo (.ref (ad G i) :: st) ce sl n sh I L R := by
  intro p e R0 s m args below meth c0 H locs ls hc hP hS hl2
  obtain ⟨h1, h2, h3, h4, h5, hts, hK, h8, h9, h10, h11, h12, h13, h14⟩ := id hc
  have hr := vrecv hK.1 hP hi hs hc13 hcl
  have k := kk p e R0 s m args below meth c0 H locs ls hc hP hS hl2
  rcases hv with ⟨rfl, rfl⟩ | ⟨rfl, h⟩ | ⟨rfl, h⟩
  · exact va_instS h1 h2 h5 (hts _ hw) (hK.1.1 c q hcl).2 hr hd k
  · exact va_instY h1 h2 h5 (hts _ hw) (hK.2.2.1 _ h) hr hd k
  · exact va_instNo h1 h2 h5 (hts _ hw) (hK.2.2.2.1 _ h) hr hd k
theorem V_cast {i c : Nat} {q : vw_C} {nm : String} (hw : Cond.classLink own idx nm ∈ vT) (hv : q.1 = nm) (hi : i < n) (hs : (sh i).1 = c) (hc13 : c < 13) (hcl : vwCl[c]? = some q) (hd : decode cc pc = .ok (.checkcast idx, 3)) (kk : V G own cc ret ini d MC MS nL post (pc + 3) lo (.ref (ad G i) :: st) ce sl n sh I L R) : V G own cc ret ini d MC MS nL post pc lo (.ref (ad G i) :: st) ce sl n sh I L R := by
  intro p e R0 s m args below meth c0 H locs ls hc hP hS hl2
  obtain ⟨h1, h2, h3, h4, h5, hts, hK, h8, h9, h10, h11, h12, h13, h14⟩ := id hc
  subst hv
  exact va_castS h1 h2 h5 (hts _ hw) (hK.1.1 c q hcl).2 (vrecv hK.1 hP hi hs hc13 hcl) hd (kk p e R0 s m args below meth c0 H locs ls hc hP hS hl2)
end VM
