/-- the judgement of the law's own walk: the script lies below our cells -/
def VS (G : vG) (sb Ln : Nat) (xs : Nat → Int32) (pc : Nat) (lo : List (Nat × Value)) (st : List Value) (ce sl n : Nat) (sh : vS) (I : vI) (L : vL) (R : vR) : Prop :=
  ∀ (p : Program) (e : Env) (s : State) (m : MethodId) (below : List Frame) (meth : Method) (c : Code) (H : Heap) (locs : List Loc) (ls : Array Slot),
    CX G RL code ret false 60 600000 7302250 4 p room_1 s m #[Value.ref sb] meth c → (va_X sb Ln xs s s.heap ∧ sb < G.2.1 ∧ G.2.1 = s.heap.size) → vRp G n sh I L R H → va_S (vA G) s.heap H locs → lv_has ls 4 lo → W p G.1 e room_1 s m #[Value.ref sb] below meth c H locs ce sl (lw_Z below #[Value.ref sb] s) (F0 m pc ls st)
section VLS
variable {G : vG} {sb Ln : Nat} {xs : Nat → Int32} {pc : Nat} {lo : List (Nat × Value)} {st st0 : List Value} {ce sl n : Nat} {sh : vS} {I : vI} {L : vL} {R : vR}
variable {y : MethodName} {ccy : ByteArray} {nLy k dy mc ms idx : Nat} {rety : Option FieldType} {As : List Value} {posty : PT}
theorem VS_iconst {q : Int} {v : Int32} (hd : decode code pc = .ok (.iconst q, 1)) (hv : Int32.ofInt q = v) (k : VS G sb Ln xs (pc + 1) lo (.int v :: st) ce sl n sh I L R) : VS G sb Ln xs pc lo (st) ce sl n sh I L R := by
  intro p e s m below meth c H locs ls hc hZ hP hS hl
  exact lv_iconst hc.1 hc.2.1 hd hv (k p e s m below meth c H locs ls hc hZ hP hS hl)
theorem VS_bipush {q : Int} {v : Int32} (hd : decode code pc = .ok (.bipush q, 2)) (hv : (Int8.ofInt q).toInt32 = v) (k : VS G sb Ln xs (pc + 2) lo (.int v :: st) ce sl n sh I L R) : VS G sb Ln xs pc lo (st) ce sl n sh I L R := by
  intro p e s m below meth c H locs ls hc hZ hP hS hl
  exact lv_bipush hc.1 hc.2.1 hd hv (k p e s m below meth c H locs ls hc hZ hP hS hl)
theorem VS_sipush {q : Int} {v : Int32} (hd : decode code pc = .ok (.sipush q, 3)) (hv : (Int16.ofInt q).toInt32 = v) (k : VS G sb Ln xs (pc + 3) lo (.int v :: st) ce sl n sh I L R) : VS G sb Ln xs pc lo (st) ce sl n sh I L R := by
  intro p e s m below meth c H locs ls hc hZ hP hS hl
  exact lv_sipush hc.1 hc.2.1 hd hv (k p e s m below meth c H locs ls hc hZ hP hS hl)
theorem VS_iload_n {q : Fin 4} (j : Nat) {i : Nat} {x : Int32} (hd : decode code pc = .ok (.iload_n q, 1)) (hi : (q : Nat) = i) (hj : lo[j]? = some (i, .int x)) (k : VS G sb Ln xs (pc + 1) lo (.int x :: st) ce sl n sh I L R) : VS G sb Ln xs pc lo (st) ce sl n sh I L R := by
  intro p e s m below meth c H locs ls hc hZ hP hS hl
  exact lv_iload_n hc.1 hc.2.1 hd hi (lv_at hl j hj) (k p e s m below meth c H locs ls hc hZ hP hS hl)
theorem VS_aload_n {q : Fin 4} (j : Nat) {i : Nat} {x : Nat} (hd : decode code pc = .ok (.aload_n q, 1)) (hi : (q : Nat) = i) (hj : lo[j]? = some (i, .ref x)) (k : VS G sb Ln xs (pc + 1) lo (.ref x :: st) ce sl n sh I L R) : VS G sb Ln xs pc lo (st) ce sl n sh I L R := by
  intro p e s m below meth c H locs ls hc hZ hP hS hl
  exact lv_aload_n hc.1 hc.2.1 hd hi (lv_at hl j hj) (k p e s m below meth c H locs ls hc hZ hP hS hl)
theorem VS_istore_n {q : Fin 4} {x : Int32} {i : Nat} {lo' : List (Nat × Value)} (hd : decode code pc = .ok (.istore_n q, 1)) (hi : (q : Nat) = i) (hn : i < 4) (hq : lins (i, .int x) (lf1 i lo) = lo') (k : VS G sb Ln xs (pc + 1) lo' st ce sl n sh I L R) : VS G sb Ln xs pc lo (.int x :: st) ce sl n sh I L R := by
  intro p e s m below meth c H locs ls hc hZ hP hS hl
  subst hq
  exact lv_istore_n hc.1 hc.2.1 hd hi hl hn rfl (fun ls1 h1 => k p e s m below meth c H locs ls1 hc hZ hP hS (lins_has h1))
theorem VS_astore_n {q : Fin 4} {x : Nat} {i : Nat} {lo' : List (Nat × Value)} (hd : decode code pc = .ok (.astore_n q, 1)) (hi : (q : Nat) = i) (hn : i < 4) (hq : lins (i, .ref x) (lf1 i lo) = lo') (k : VS G sb Ln xs (pc + 1) lo' st ce sl n sh I L R) : VS G sb Ln xs pc lo (.ref x :: st) ce sl n sh I L R := by
  intro p e s m below meth c H locs ls hc hZ hP hS hl
  subst hq
  exact lv_astore_n hc.1 hc.2.1 hd hi hl hn rfl (fun ls1 h1 => k p e s m below meth c H locs ls1 hc hZ hP hS (lins_has h1))
theorem VS_dup {va : Value} (hd : decode code pc = .ok (.dup, 1)) (hva : va.category = 1) (k : VS G sb Ln xs (pc + 1) lo (va :: va :: st) ce sl n sh I L R) : VS G sb Ln xs pc lo (va :: st) ce sl n sh I L R := by
  intro p e s m below meth c H locs ls hc hZ hP hS hl
  exact lv_dup hc.1 hc.2.1 hd hva (k p e s m below meth c H locs ls hc hZ hP hS hl)
theorem VS_pop {va : Value} (hd : decode code pc = .ok (.pop, 1)) (hva : va.category = 1) (k : VS G sb Ln xs (pc + 1) lo (st) ce sl n sh I L R) : VS G sb Ln xs pc lo (va :: st) ce sl n sh I L R := by
  intro p e s m below meth c H locs ls hc hZ hP hS hl
  exact lv_pop hc.1 hc.2.1 hd hva (k p e s m below meth c H locs ls hc hZ hP hS hl)
theorem VS_isub {x y : Int32} (hd : decode code pc = .ok (.isub, 1))  (k : ∀ z : Int32, z = x - y → VS G sb Ln xs (pc + 1) lo (.int z :: st) ce sl n sh I L R) : VS G sb Ln xs pc lo (.int y :: .int x :: st) ce sl n sh I L R := by
  intro p e s m below meth c H locs ls hc hZ hP hS hl
  exact lv_isub hc.1 hc.2.1 hd  (k _ rfl p e s m below meth c H locs ls hc hZ hP hS hl)
theorem VS_iadd {x y : Int32} (hd : decode code pc = .ok (.iadd, 1))  (k : ∀ z : Int32, z = x + y → VS G sb Ln xs (pc + 1) lo (.int z :: st) ce sl n sh I L R) : VS G sb Ln xs pc lo (.int y :: .int x :: st) ce sl n sh I L R := by
  intro p e s m below meth c H locs ls hc hZ hP hS hl
  exact lv_iadd hc.1 hc.2.1 hd  (k _ rfl p e s m below meth c H locs ls hc hZ hP hS hl)
theorem VS_iand {x y : Int32} (hd : decode code pc = .ok (.iand, 1))  (k : ∀ z : Int32, z = x &&& y → VS G sb Ln xs (pc + 1) lo (.int z :: st) ce sl n sh I L R) : VS G sb Ln xs pc lo (.int y :: .int x :: st) ce sl n sh I L R := by
  intro p e s m below meth c H locs ls hc hZ hP hS hl
  exact lv_iand hc.1 hc.2.1 hd  (k _ rfl p e s m below meth c H locs ls hc hZ hP hS hl)
theorem VS_goto {off : Int} {tgt : Nat} (hd : decode code pc = .ok (.goto off, 3)) (ht : (pc : Int) + off = (tgt : Int)) (k : VS G sb Ln xs tgt lo st ce sl n sh I L R) : VS G sb Ln xs pc lo st ce sl n sh I L R := by
  intro p e s m below meth c H locs ls hc hZ hP hS hl
  exact lv_goto hc.1 hc.2.1 hd ht (k p e s m below meth c H locs ls hc hZ hP hS hl)
theorem VS_icmp_eq {x y : Int32} {off : Int} {tgt : Nat} (hd : decode code pc = .ok (.if_icmp .eq off, 3)) (ht : (pc : Int) + off = (tgt : Int)) (kt : x.toInt = y.toInt → VS G sb Ln xs tgt lo st ce sl n sh I L R) (kf : x.toInt ≠ y.toInt → VS G sb Ln xs (pc + 3) lo st ce sl n sh I L R) : VS G sb Ln xs pc lo (.int y :: .int x :: st) ce sl n sh I L R := by
  intro p e s m below meth c H locs ls hc hZ hP hS hl
  refine lv_icmp_eq hc.1 hc.2.1 hd ht (fun q => kt ?_ p e s m below meth c H locs ls hc hZ hP hS hl) (fun q => kf ?_ p e s m below meth c H locs ls hc hZ hP hS hl)
  all_goals (simp only [ti_lt, ti_le, ti_eq, ne_eq, GE.ge, GT.gt] at q; omega)
theorem VS_icmp_ne {x y : Int32} {off : Int} {tgt : Nat} (hd : decode code pc = .ok (.if_icmp .ne off, 3)) (ht : (pc : Int) + off = (tgt : Int)) (kt : x.toInt ≠ y.toInt → VS G sb Ln xs tgt lo st ce sl n sh I L R) (kf : x.toInt = y.toInt → VS G sb Ln xs (pc + 3) lo st ce sl n sh I L R) : VS G sb Ln xs pc lo (.int y :: .int x :: st) ce sl n sh I L R := by
  intro p e s m below meth c H locs ls hc hZ hP hS hl
  refine lv_icmp_ne hc.1 hc.2.1 hd ht (fun q => kt ?_ p e s m below meth c H locs ls hc hZ hP hS hl) (fun q => kf ?_ p e s m below meth c H locs ls hc hZ hP hS hl)
  all_goals (simp only [ti_lt, ti_le, ti_eq, ne_eq, GE.ge, GT.gt] at q; omega)
theorem VS_icmp_gt {x y : Int32} {off : Int} {tgt : Nat} (hd : decode code pc = .ok (.if_icmp .gt off, 3)) (ht : (pc : Int) + off = (tgt : Int)) (kt : y.toInt < x.toInt → VS G sb Ln xs tgt lo st ce sl n sh I L R) (kf : x.toInt ≤ y.toInt → VS G sb Ln xs (pc + 3) lo st ce sl n sh I L R) : VS G sb Ln xs pc lo (.int y :: .int x :: st) ce sl n sh I L R := by
  intro p e s m below meth c H locs ls hc hZ hP hS hl
  refine lv_icmp_gt hc.1 hc.2.1 hd ht (fun q => kt ?_ p e s m below meth c H locs ls hc hZ hP hS hl) (fun q => kf ?_ p e s m below meth c H locs ls hc hZ hP hS hl)
  all_goals (simp only [ti_lt, ti_le, ti_eq, ne_eq, GE.ge, GT.gt] at q; omega)
theorem VS_icmp_le {x y : Int32} {off : Int} {tgt : Nat} (hd : decode code pc = .ok (.if_icmp .le off, 3)) (ht : (pc : Int) + off = (tgt : Int)) (kt : x.toInt ≤ y.toInt → VS G sb Ln xs tgt lo st ce sl n sh I L R) (kf : y.toInt < x.toInt → VS G sb Ln xs (pc + 3) lo st ce sl n sh I L R) : VS G sb Ln xs pc lo (.int y :: .int x :: st) ce sl n sh I L R := by
  intro p e s m below meth c H locs ls hc hZ hP hS hl
  refine lv_icmp_le hc.1 hc.2.1 hd ht (fun q => kt ?_ p e s m below meth c H locs ls hc hZ hP hS hl) (fun q => kf ?_ p e s m below meth c H locs ls hc hZ hP hS hl)
  all_goals (simp only [ti_lt, ti_le, ti_eq, ne_eq, GE.ge, GT.gt] at q; omega)
theorem VS_if_eq {x : Int32} {off : Int} {tgt : Nat} (hd : decode code pc = .ok (.ifCond .eq off, 3)) (ht : (pc : Int) + off = (tgt : Int)) (kt : x.toInt = 0 → VS G sb Ln xs tgt lo st ce sl n sh I L R) (kf : x.toInt ≠ 0 → VS G sb Ln xs (pc + 3) lo st ce sl n sh I L R) : VS G sb Ln xs pc lo (.int x :: st) ce sl n sh I L R := by
  intro p e s m below meth c H locs ls hc hZ hP hS hl
  refine lv_if_eq hc.1 hc.2.1 hd ht (fun q => kt ?_ p e s m below meth c H locs ls hc hZ hP hS hl) (fun q => kf ?_ p e s m below meth c H locs ls hc hZ hP hS hl)
  all_goals (simp only [ti_lt, ti_le, ti_eq, ne_eq, GE.ge, GT.gt, ti_0] at q; omega)
theorem VS_if_eq_t {x : Int32} {off : Int} {tgt : Nat} (hd : decode code pc = .ok (.ifCond .eq off, 3)) (ht : (pc : Int) + off = (tgt : Int)) (hq : x.toInt = 0) (k : VS G sb Ln xs tgt lo st ce sl n sh I L R) : VS G sb Ln xs pc lo (.int x :: st) ce sl n sh I L R := VS_if_eq hd ht (fun _ => k) (fun q => by omega)
theorem VS_if_eq_f {x : Int32} {off : Int} {tgt : Nat} (hd : decode code pc = .ok (.ifCond .eq off, 3)) (ht : (pc : Int) + off = (tgt : Int)) (hq : x.toInt ≠ 0) (k : VS G sb Ln xs (pc + 3) lo st ce sl n sh I L R) : VS G sb Ln xs pc lo (.int x :: st) ce sl n sh I L R := VS_if_eq hd ht (fun q => by omega) (fun _ => k)
theorem VS_if_ne {x : Int32} {off : Int} {tgt : Nat} (hd : decode code pc = .ok (.ifCond .ne off, 3)) (ht : (pc : Int) + off = (tgt : Int)) (kt : x.toInt ≠ 0 → VS G sb Ln xs tgt lo st ce sl n sh I L R) (kf : x.toInt = 0 → VS G sb Ln xs (pc + 3) lo st ce sl n sh I L R) : VS G sb Ln xs pc lo (.int x :: st) ce sl n sh I L R := by
  intro p e s m below meth c H locs ls hc hZ hP hS hl
  refine lv_if_ne hc.1 hc.2.1 hd ht (fun q => kt ?_ p e s m below meth c H locs ls hc hZ hP hS hl) (fun q => kf ?_ p e s m below meth c H locs ls hc hZ hP hS hl)
  all_goals (simp only [ti_lt, ti_le, ti_eq, ne_eq, GE.ge, GT.gt, ti_0] at q; omega)
theorem VS_if_ne_t {x : Int32} {off : Int} {tgt : Nat} (hd : decode code pc = .ok (.ifCond .ne off, 3)) (ht : (pc : Int) + off = (tgt : Int)) (hq : x.toInt ≠ 0) (k : VS G sb Ln xs tgt lo st ce sl n sh I L R) : VS G sb Ln xs pc lo (.int x :: st) ce sl n sh I L R := VS_if_ne hd ht (fun _ => k) (fun q => by omega)
theorem VS_if_ne_f {x : Int32} {off : Int} {tgt : Nat} (hd : decode code pc = .ok (.ifCond .ne off, 3)) (ht : (pc : Int) + off = (tgt : Int)) (hq : x.toInt = 0) (k : VS G sb Ln xs (pc + 3) lo st ce sl n sh I L R) : VS G sb Ln xs pc lo (.int x :: st) ce sl n sh I L R := VS_if_ne hd ht (fun q => by omega) (fun _ => k)
theorem VS_tableIn {dflt a b : Int} {offs : Array Int} {len : Nat} {x : Int32} {off : Int} {tgt : Nat} (hd : decode code pc = .ok (.tableswitch dflt a b offs, len)) (h1 : a ≤ x.toInt) (h2 : x.toInt ≤ b) (ho : offs[(x.toInt - a).toNat]? = some off) (ht : (pc : Int) + off = (tgt : Int)) (k : VS G sb Ln xs tgt lo st ce sl n sh I L R) : VS G sb Ln xs pc lo (.int x :: st) ce sl n sh I L R := by
  intro p e s m below meth c H locs ls hc hZ hP hS hl
  exact lv_tableIn hc.1 hc.2.1 hd (by omega) (by omega) ho ht (k p e s m below meth c H locs ls hc hZ hP hS hl)
theorem VS_tableOut {dflt a b : Int} {offs : Array Int} {len : Nat} {x : Int32} {tgt : Nat} (hd : decode code pc = .ok (.tableswitch dflt a b offs, len)) (h : x.toInt < a ∨ b < x.toInt) (ht : (pc : Int) + dflt = (tgt : Int)) (k : VS G sb Ln xs tgt lo st ce sl n sh I L R) : VS G sb Ln xs pc lo (.int x :: st) ce sl n sh I L R := by
  intro p e s m below meth c H locs ls hc hZ hP hS hl
  exact lv_tableOut hc.1 hc.2.1 hd h ht (k p e s m below meth c H locs ls hc hZ hP hS hl)
theorem VS_lcmp {x y : Int64} (hd : decode code pc = .ok (.lcmp, 1)) (k : ∀ z : Int32, z = lg_cmp x y → VS G sb Ln xs (pc + 1) lo (.int z :: st) ce sl n sh I L R) : VS G sb Ln xs pc lo (.long y :: .long x :: st) ce sl n sh I L R := by
  intro p e s m below meth c H locs ls hc hZ hP hS hl
  exact W.lcmp hc.1 hc.2.1 hd (k _ rfl p e s m below meth c H locs ls hc hZ hP hS hl)
theorem VS_iinc (j : Nat) {i : Nat} {q : Int} {x v : Int32} {lo' : List (Nat × Value)} (hd : decode code pc = .ok (.iinc i q, 3)) (hj : lo[j]? = some (i, .int x)) (hv : x + Int32.ofInt q = v) (hn : i < 4) (hq : lins (i, .int v) (lf1 i lo) = lo') (k : VS G sb Ln xs (pc + 3) lo' st ce sl n sh I L R) : VS G sb Ln xs pc lo st ce sl n sh I L R := by
  intro p e s m below meth c H locs ls hc hZ hP hS hl
  subst hq
  exact lv_iinc hc.1 hc.2.1 hd hl hj hv hn rfl (fun ls1 h1 => k p e s m below meth c H locs ls1 hc hZ hP hS (lins_has h1))
theorem VS_lo {lo' : List (Nat × Value)} (ks : List Nat) (hq : lv_pick lo ks = lo') (k : VS G sb Ln xs pc lo' st ce sl n sh I L R) : VS G sb Ln xs pc lo st ce sl n sh I L R := fun p e s m below meth c H locs ls hc hZ hP hS hl => k p e s m below meth c H locs ls hc hZ hP hS (lv_sub hl ks hq)
theorem VS_new {c N idx : Nat} {C : String} {T : u_T} {ty : Nat → FieldType} {sh' : vS} {I' : vI} {L' : vL} {R' : vR} (hc1 : vwCl[c]? = some (C, T, N)) (hc13 : c < 13) (hty : ∀ k, k < N → parseFieldDescriptor (T k).2.2.1 = some (ty k)) (hin : ∀ w ∈ u_ws C T N, w ∈ vT) (hlen : (fT c).length = N) (hfs : ∀ j t, (fT c)[j]? = some t → defaultValue (ty j) = if t = 0 then .int 0 else if t = 1 then .long 0 else .null)
    (hw : Cond.classLink RL idx C ∈ vT ∧ Cond.instantiable C N ∈ vT ∧ Cond.initialized C ∈ vT) (hd : decode code pc = .ok (.new idx, 3)) (hce : ce + 1 ≤ 600000) (hsl : sl + N ≤ 7302250)
    (hs' : sh' = uph sh n (c, 0)) (hI : I' = uph I n (fun _ => 0)) (hL : L' = uph L n (fun _ => 0)) (hR : R' = uph R n (fun _ => none))
    (kk : VS G sb Ln xs (pc + 3) lo (.ref (ad G n) :: st) (ce + 1) (sl + N) (n + 1) sh' I' L' R') : VS G sb Ln xs pc lo st ce sl n sh I L R := by
  intro p e s m below meth c0 H locs ls hc hZ hP hS hl
  have hts := hc.2.2.2.2.2.1
  have hK := hc.2.2.2.2.2.2.1.1
  have hKn := hK.1 c _ hc1
  have hR0 := hc.2.2.2.2.2.2.2.2.2.2.2
  refine W.newcK hc.1 hc.2.1 hc.2.2.2.2.1 (hts _ hw.1) (hts _ hw.2.1) (hts _ hw.2.2) rfl hd (by omega) (by omega) hKn.2.1 rfl fun H1 kC hkC e1 z1 o1 => ?_
  have hk : ∀ (k : Nat) (x : Nat × va_E), (vwl G n sh I L R)[k]? = some x → H1[x.1]? = H[x.1]? := fun k x hx => o1 x.1 ((hP.2 k x hx).lt)
  have hP' := (hP.2.kept hk).app (w2 := [(ad G n, .inr (c, rdl G (fun _ => 0) (fun _ => 0) (fun _ => none) 0 (fT c)))]) (fun k x hx => by
    have hz : k < 1 := (List.getElem?_eq_some_iff.mp hx).1
    rw [show k = 0 by omega] at hx
    cases hx
    rw [← hP.1]
    refine ⟨_, hc1, (u_born ty hts hin hKn hkC e1 hty).to (fun j hj => ?_)⟩
    have hj' : j < (fT c).length := by rw [hlen]; exact hj
    have ht := List.getElem?_eq_getElem hj'
    rw [hfs j _ ht]
    show _ = vp_V _ j
    have e2 : (rdl G (fun _ => 0) (fun _ => 0) (fun _ => none) 0 (fT c))[j]? = some (fv G (fun _ => 0) (fun _ => 0) (fun _ => none) j ((fT c)[j])) := by rw [rdl_get, ht]; simp
    simp only [vp_V, List.getD_eq_getElem?_getD, e2, fv, vrf, va_rf, Option.map_none, Option.getD_some])
  have hsn : (sh' n).1 = c := by rw [hs']; simp [uph]
  rw [vwl_push (sh' := sh') (I' := I') (L' := L') (R' := R') (by rw [vcell_o hsn hc13, hI, hL, hR]; simp [uph]) (fun j hj => by
    have hne : j ≠ n := by omega
    simp only [vcell, hs', hI, hL, hR, uph, hne, if_false])] at hP'
  have hS' : va_S (vA G) s.heap H1 locs := ⟨Nat.le_trans hS.1 (by omega), fun x h1 h2 => (o1 x (Nat.lt_of_lt_of_le h1 hS.1)).trans (hS.2.1 x h1 h2), hS.2.2⟩
  have hz : H1.size = ad G (n + 1) := by rw [z1, hP.1, ad_s]
  have e3 : H.size = ad G n := hP.1
  show W p G.1 e room_1 s m #[Value.ref sb] below meth c0 H1 locs (ce + 1) (sl + N) _ (F0 m (pc + 3) ls (.ref H.size :: st))
  rw [e3]
  exact kk p e s m below meth c0 H1 locs ls hc hZ ⟨hz, hP'⟩ hS' hl
theorem VS_callV {i c : Nat} {q : vw_C} (hM : CT G y ccy nLy rety dy mc ms (.ref (ad G i) :: As) n sh I L R posty) (hF : MF y ccy nLy rety k) (hl : Cond.methodLink RL idx y ∈ vT) (hin : Cond.instanceMethod y ∈ vT ∧ Cond.selects q.1 y y ∈ vT) (hi : i < n) (hs : (sh i).1 = c) (hc13 : c < 13) (hcl : vwCl[c]? = some q) (hd : decode code pc = .ok (.invokevirtual idx, 3)) (hk : As.length = k) (hstk : As.reverse ++ .ref (ad G i) :: st = st0) (hdd : dy + 1 ≤ 60) (hce : ce + mc ≤ 600000) (hsl : sl + ms ≤ 7302250) (hW : (st.map fun v => v.category).sum ≤ 8)
    (kk : ∀ (r : Option Value) (n' : Nat) (sh' : vS) (I' : vI) (L' : vL) (R' : vR), posty r n' sh' I' L' R' → VS G sb Ln xs (pc + 3) lo (r.toList ++ st) (ce + mc) (sl + ms) n' sh' I' L' R') : VS G sb Ln xs pc lo st0 ce sl n sh I L R := by
  intro p e s m below meth c0 H locs ls hc hZ hP hS hl2
  obtain ⟨h1, h2, h3, h4, h5, hts, hK, h8, h9, h10, h11, h12, h13, h14⟩ := id hc
  refine V_run (va_runV (C := q.1) (As := As) (rest := st) ⟨h1, h2, h4, h5, hts⟩ hM ⟨cb_of hF hts hl h10 h11 hdd, hts _ hin.1, hts _ hin.2⟩ ⟨CT_blind, vrecv hK.1 hP hi hs hc13 hcl, fun U hU hW2 => ⟨rfl, by rw [hU]; exact hP, vK_warm hW2 hK⟩⟩ rfl hk hl2.1 hstk.symm (lv_room hW) hd ⟨by omega, by omega⟩) hS ?_
  intro r n' sh' I' L' R' H1 locs1 hq hP1 hS1
  exact kk r n' sh' I' L' R' hq p e s m below meth c0 H1 locs1 ls hc hZ hP1 hS1 hl2
theorem VS_callI {i : Nat} (hM : CT G y ccy nLy none dy mc ms (.ref (ad G i) :: As) n sh I L R posty) (hF : MF y ccy nLy none k) (hl : Cond.methodLink RL idx y ∈ vT) (hin : y.name = "<init>" ∧ Cond.instanceMethod y ∈ vT) (hd : decode code pc = .ok (.invokespecial idx, 3)) (hk : As.length = k) (hstk : As.reverse ++ .ref (ad G i) :: st = st0) (hdd : dy + 1 ≤ 60) (hce : ce + mc ≤ 600000) (hsl : sl + ms ≤ 7302250) (hW : (st.map fun v => v.category).sum ≤ 8)
    (kk : ∀ (r : Option Value) (n' : Nat) (sh' : vS) (I' : vI) (L' : vL) (R' : vR), posty r n' sh' I' L' R' → VS G sb Ln xs (pc + 3) lo (r.toList ++ st) (ce + mc) (sl + ms) n' sh' I' L' R') : VS G sb Ln xs pc lo st0 ce sl n sh I L R := by
  intro p e s m below meth c0 H locs ls hc hZ hP hS hl2
  obtain ⟨h1, h2, h3, h4, h5, hts, hK, h8, h9, h10, h11, h12, h13, h14⟩ := id hc
  refine V_run (va_runI (As := As) (rest := st) ⟨h1, h2, h4, h5, hts⟩ hM ⟨cb_of hF hts hl h10 h11 hdd, hin.1, hts _ hin.2⟩ ⟨CT_blind, fun U hU hW2 => ⟨rfl, by rw [hU]; exact hP, vK_warm hW2 hK⟩⟩ rfl hk hl2.1 hstk.symm (lv_room hW) hd ⟨by omega, by omega⟩) hS ?_
  intro r n' sh' I' L' R' H1 locs1 hq hP1 hS1
  exact kk r n' sh' I' L' R' hq p e s m below meth c0 H1 locs1 ls hc hZ hP1 hS1 hl2
theorem VS_new11 {sh' : vS} {I' : vI} {L' : vL} {R' : vR} (hw : Cond.classLink RL idx RX11 ∈ vT ∧ Cond.instantiable RX11 12 ∈ vT ∧ Cond.initialized RX11 ∈ vT) (hd : decode code pc = .ok (.new idx, 3)) (hce : ce + 1 ≤ 600000) (hsl : sl + 12 ≤ 7302250) (hs' : sh' = uph sh n (11, 0)) (hI : I' = uph I n (fun _ => 0)) (hL : L' = uph L n (fun _ => 0)) (hR : R' = uph R n (fun _ => none)) (kk : VS G sb Ln xs (pc + 3) lo (.ref (ad G n) :: st) (ce + 1) (sl + 12) (n + 1) sh' I' L' R') : VS G sb Ln xs pc lo st ce sl n sh I L R :=
  VS_new (c := 11) (N := 12) (C := RX11) (T := TX11) (ty := tyX11) rfl (by decide) tyX11_ok in_X11 rfl (fun j t h => by
    match j, h with
    | 0, h => cases h; rfl
    | 1, h => cases h; rfl
    | 2, h => cases h; rfl
    | 3, h => cases h; rfl
    | 4, h => cases h; rfl
    | 5, h => cases h; rfl
    | 6, h => cases h; rfl
    | 7, h => cases h; rfl
    | 8, h => cases h; rfl
    | 9, h => cases h; rfl
    | 10, h => cases h; rfl
    | 11, h => cases h; rfl
    | k + 12, h => simp [fT] at h) hw hd hce hsl hs' hI hL hR kk
theorem VS_new12 {sh' : vS} {I' : vI} {L' : vL} {R' : vR} (hw : Cond.classLink RL idx RX12 ∈ vT ∧ Cond.instantiable RX12 43 ∈ vT ∧ Cond.initialized RX12 ∈ vT) (hd : decode code pc = .ok (.new idx, 3)) (hce : ce + 1 ≤ 600000) (hsl : sl + 43 ≤ 7302250) (hs' : sh' = uph sh n (12, 0)) (hI : I' = uph I n (fun _ => 0)) (hL : L' = uph L n (fun _ => 0)) (hR : R' = uph R n (fun _ => none)) (kk : VS G sb Ln xs (pc + 3) lo (.ref (ad G n) :: st) (ce + 1) (sl + 43) (n + 1) sh' I' L' R') : VS G sb Ln xs pc lo st ce sl n sh I L R :=
  VS_new (c := 12) (N := 43) (C := RX12) (T := TX12) (ty := tyX12) rfl (by decide) tyX12_ok in_X12 rfl (fun j t h => by
    match j, h with
    | 0, h => cases h; rfl
    | 1, h => cases h; rfl
    | 2, h => cases h; rfl
    | 3, h => cases h; rfl
    | 4, h => cases h; rfl
    | 5, h => cases h; rfl
    | 6, h => cases h; rfl
    | 7, h => cases h; rfl
    | 8, h => cases h; rfl
    | 9, h => cases h; rfl
    | 10, h => cases h; rfl
    | 11, h => cases h; rfl
    | 12, h => cases h; rfl
    | 13, h => cases h; rfl
    | 14, h => cases h; rfl
    | 15, h => cases h; rfl
    | 16, h => cases h; rfl
    | 17, h => cases h; rfl
    | 18, h => cases h; rfl
    | 19, h => cases h; rfl
    | 20, h => cases h; rfl
    | 21, h => cases h; rfl
    | 22, h => cases h; rfl
    | 23, h => cases h; rfl
    | 24, h => cases h; rfl
    | 25, h => cases h; rfl
    | 26, h => cases h; rfl
    | 27, h => cases h; rfl
    | 28, h => cases h; rfl
    | 29, h => cases h; rfl
    | 30, h => cases h; rfl
    | 31, h => cases h; rfl
    | 32, h => cases h; rfl
    | 33, h => cases h; rfl
    | 34, h => cases h; rfl
    | 35, h => cases h; rfl
    | 36, h => cases h; rfl
    | 37, h => cases h; rfl
    | 38, h => cases h; rfl
    | 39, h => cases h; rfl
    | 40, h => cases h; rfl
    | 41, h => cases h; rfl
    | 42, h => cases h; rfl
    | k + 43, h => simp [fT] at h) hw hd hce hsl hs' hI hL hR kk
theorem VS_sald {x : Int32} (hd : decode code pc = .ok (.iaload, 1)) (h0 : 0 ≤ x.toInt) (h1 : x.toInt < (Ln : Int)) (k : VS G sb Ln xs (pc + 1) lo (.int (xs x.toInt.toNat) :: st) ce sl n sh I L R) : VS G sb Ln xs pc lo (.int x :: .ref sb :: st) ce sl n sh I L R := by
  intro p e s m below meth c H locs ls hc hZ hP hS hl
  exact va_sld hc.1 hc.2.1 hZ.1 (by have := hZ.2.2; have := hZ.2.1; omega) (fun z => absurd hZ.2.1 (Nat.not_lt.mpr z)) hS (ix_in h0 h1) hd (k p e s m below meth c H locs ls hc hZ hP hS hl)
theorem VS_slen (hd : decode code pc = .ok (.arraylength, 1)) (k : VS G sb Ln xs (pc + 1) lo (.int (Int32.ofNat Ln) :: st) ce sl n sh I L R) : VS G sb Ln xs pc lo (.ref sb :: st) ce sl n sh I L R := by
  intro p e s m below meth c H locs ls hc hZ hP hS hl
  exact va_slen hc.1 hc.2.1 hZ.1 (by have := hZ.2.2; have := hZ.2.1; omega) (fun z => absurd hZ.2.1 (Nat.not_lt.mpr z)) hS hd (k p e s m below meth c H locs ls hc hZ hP hS hl)
/-- the law's end -/
theorem VS_end (hd : decode code pc = .ok (.ireturn, 1)) (hce : ce ≤ 600000) (hsl : sl ≤ 7302250) : VS G sb Ln xs pc lo [.int 1] ce sl n sh I L R := by
  intro p e s m below meth c H locs ls hc hZ hP hS hl
  refine va_forget (fun q hq => ?_) (W.widen (k := 600000) (n := 7302250) hce hsl ?_)
  · have h1 : G.2.1 ≤ q.base := hS.2.2 q hq
    have h2 := hZ.2.2
    omega
  · exact lw_ret hc.1 hc.2.1 hc.2.2.1 hc.2.2.2.2.2.2.2.1 hd
end VLS
