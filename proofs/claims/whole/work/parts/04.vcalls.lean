section VC
variable {G : vG} {own : String} {cc : ByteArray} {ret : Option FieldType} {ini : Bool} {d MC MS nL : Nat} {post : PT} {pc : Nat} {lo : List (Nat × Value)} {st : List Value} {ce sl n : Nat} {sh : vS} {I : vI} {L : vL} {R : vR}
theorem V_aast {i N t j q : Nat} {x : Int32} {r : vw_C} (hd : decode cc pc = .ok (.aastore, 1)) (hi : i < n) (hs : sh i = (13 + t, N)) (ht : 2 ≤ t) (hty : (vty G)[t]? = some (G.2.2.2.2 t, .object r.1)) (hj : j < n) (hq : (sh j).1 = q) (hq13 : q < 13) (hr : vwCl[q]? = some r) (h0 : 0 ≤ x.toInt) (h1 : x.toInt < N) (kk : V G own cc ret ini d MC MS nL post (pc + 1) lo st ce sl n sh I L (up2 R i x.toInt.toNat (some j))) : V G own cc ret ini d MC MS nL post pc lo (.ref (ad G j) :: .int x :: .ref (ad G i) :: st) ce sl n sh I L R := by
  intro p e R0 s m args below meth c0 H locs ls hc hP hS hl
  have hK := hc.2.2.2.2.2.2.1.1
  have he := vwl_get (G := G) (sh := sh) (I := I) (L := L) (R := R) hi
  rw [vcell_r hs ht] at he
  have hv := vwl_get (G := G) (sh := sh) (I := I) (L := L) (R := R) hj
  rw [vcell_o hq hq13] at hv
  obtain ⟨r', hr', cellV, g1, g2, g3, -⟩ := hP.2 j _ hv
  have hcls := (hK.1 q r hr).2
  obtain ⟨kA, comp, k1, k2, k3, -⟩ := (hK.2 t _ hty).2
  have hcomp : comp = G.2.2.1 q := Option.some.inj (k3.symm.trans hcls.1)
  subst hcomp
  obtain ⟨kC, hkC, -⟩ := hcls.2
  have hin := ix_in h0 h1
  refine W.aast hc.1 hc.2.1 (hP.2 i _ he) (fun z h => by cases h) (fun h => by cases h) k1 k2 rfl hkC ⟨fun z => hin (Or.inl z), by show _ < (arrV _ _ _).slots.size; rw [arrV_size]; exact Nat.not_le.mp fun z => hin (Or.inr z)⟩ g1 (fun z h => by rw [g3] at h; cases h) (by rw [g2]; exact hkC) (by rw [g2]; exact va_assign hcls) rfl rfl hd fun H1 e1 z oq => ?_
  have hP' := hP.2.set vwl_D he (e := .inl (G.2.2.2.2 t, N, .inr (.inr (.inr (.inr (fun k => vrf G (up2 R i x.toInt.toNat (some j) i k))))))) (show H1[ad G i]? = some (vp_cell _ _) by
    rw [e1, vp_cell_q, vp_cell_q, arrV_store]
    congr 2
    funext w
    show updV _ x.toInt.toNat _ w = _
    by_cases hw : w = x.toInt.toNat
    · subst hw; simp [updV, up2, vrf, va_rf]
    · rw [updV, if_neg hw, up2, if_neg (fun z => hw z.2)]) oq
  rw [vwl_set (I' := I) (L' := L) (R' := up2 R i x.toInt.toNat (some j)) (vcell_r hs ht) (fun w h => vcell_eq rfl rfl (up2_o h))] at hP'
  exact kk p e R0 s m args below meth c0 H1 _ ls hc ⟨z.trans hP.1, hP'⟩ (hS.put z oq (Nat.le_add_right _ _)) hl
theorem ad_s {G : vG} {n : Nat} : ad G n + 1 = ad G (n + 1) := Nat.add_assoc _ _ _
/-- a new object of class c, its fields 0 -/
theorem V_new {c N idx : Nat} {C : String} {T : u_T} {ty : Nat → FieldType} {sh' : vS} {I' : vI} {L' : vL} {R' : vR} (hc1 : vwCl[c]? = some (C, T, N)) (hc13 : c < 13) (hty : ∀ k, k < N → parseFieldDescriptor (T k).2.2.1 = some (ty k)) (hin : ∀ w ∈ u_ws C T N, w ∈ vT) (hlen : (fT c).length = N) (hfs : ∀ j t, (fT c)[j]? = some t → defaultValue (ty j) = if t = 0 then .int 0 else if t = 1 then .long 0 else .null)
    (hw : Cond.classLink own idx C ∈ vT ∧ Cond.instantiable C N ∈ vT ∧ Cond.initialized C ∈ vT) (hd : decode cc pc = .ok (.new idx, 3)) (hce : ce + 1 ≤ MC) (hsl : sl + N ≤ MS)
    (hs' : sh' = uph sh n (c, 0)) (hI : I' = uph I n (fun _ => 0)) (hL : L' = uph L n (fun _ => 0)) (hR : R' = uph R n (fun _ => none))
    (kk : V G own cc ret ini d MC MS nL post (pc + 3) lo (.ref (ad G n) :: st) (ce + 1) (sl + N) (n + 1) sh' I' L' R') : V G own cc ret ini d MC MS nL post pc lo st ce sl n sh I L R := by
  intro p e R0 s m args below meth c0 H locs ls hc hP hS hl
  have hts := hc.2.2.2.2.2.1
  have hK := hc.2.2.2.2.2.2.1.1
  have hKn := hK.1 c _ hc1
  have hR0 := hc.2.2.2.2.2.2.2.2.2.2.2
  refine W.newcK hc.1 hc.2.1 hc.2.2.2.2.1 (hts _ hw.1) (hts _ hw.2.1) (hts _ hw.2.2) rfl hd (by omega) (by omega) hKn.2.1 rfl fun H1 kC hkC e1 z1 o1 => ?_
  have hk : ∀ (k : Nat) (x : Nat × va_E), (vwl G n sh I L R)[k]? = some x → H1[x.1]? = H[x.1]? := fun k x hx => o1 x.1 ((hP.2 k x hx).lt)
  have hP' := (hP.2.kept hk).app (w2 := [(ad G n, .inr (c, rdl G (fun _ => 0) (fun _ => 0) (fun _ => none) 0 (fT c)))]) (fun k x hx => by
    have hz : k < 1 := (List.getElem?_eq_some_iff.mp hx).1
    rw [show k = 0 by omega] at hx
    cases hx
    rw [← hP.1]
    refine ⟨_, hc1, (u_born ty hts hin hKn hkC e1 hty).to (fun j hj => ?_)⟩
    have hj' : j < (fT c).length := by rw [hlen]; exact hj
    have ht := List.getElem?_eq_getElem hj'
    rw [hfs j _ ht]
    show _ = vp_V _ j
    have e2 : (rdl G (fun _ => 0) (fun _ => 0) (fun _ => none) 0 (fT c))[j]? = some (fv G (fun _ => 0) (fun _ => 0) (fun _ => none) j ((fT c)[j])) := by rw [rdl_get, ht]; simp
    simp only [vp_V, List.getD_eq_getElem?_getD, e2, fv, vrf, va_rf, Option.map_none, Option.getD_some])
  have hsn : (sh' n).1 = c := by rw [hs']; simp [uph]
  rw [vwl_push (sh' := sh') (I' := I') (L' := L') (R' := R') (by rw [vcell_o hsn hc13, hI, hL, hR]; simp [uph]) (fun j hj => by
    have hne : j ≠ n := by omega
    simp only [vcell, hs', hI, hL, hR, uph, hne, if_false])] at hP'
  have hS' : va_S (vA G) s.heap H1 locs := ⟨Nat.le_trans hS.1 (by omega), fun x h1 h2 => (o1 x (Nat.lt_of_lt_of_le h1 hS.1)).trans (hS.2.1 x h1 h2), hS.2.2⟩
  have hz : H1.size = ad G (n + 1) := by rw [z1, hP.1, ad_s]
  have e3 : H.size = ad G n := hP.1
  show W p G.1 e R0 s m args below meth c0 H1 locs (ce + 1) (sl + N) _ (F0 m (pc + 3) ls (.ref H.size :: st))
  rw [e3]
  exact kk p e R0 s m args below meth c0 H1 locs ls hc ⟨hz, hP'⟩ hS' hl
/-- a new array of numbers: t = 0 int, t = 1 boolean -/
theorem V_newa {t N : Nat} {at' : ArrayType} {ty : FieldType} {x : Int32} {sh' : vS} {I' : vI} {L' : vL} {R' : vR} (hat : newarray.typeOf at' = ty) (hty : (vty G)[t]? = some (G.2.2.2.2 t, ty)) (ht : t < 2) (hdv : defaultValue ty = .int 0) (hw : Cond.arrayClass ty ∈ vT) (hd : decode cc pc = .ok (.newarray at', 2)) (hx : x.toInt = N) (hN : N * componentBytes ty ≤ 536870912) (hce : ce + 1 ≤ MC) (hsl : sl + N ≤ MS)
    (hs' : sh' = uph sh n (13 + t, N)) (hI : I' = uph I n (fun _ => 0)) (hL : L' = uph L n (fun _ => 0)) (hR : R' = uph R n (fun _ => none))
    (kk : V G own cc ret ini d MC MS nL post (pc + 2) lo (.ref (ad G n) :: st) (ce + 1) (sl + N) (n + 1) sh' I' L' R') : V G own cc ret ini d MC MS nL post pc lo (.int x :: st) ce sl n sh I L R := by
  intro p e R0 s m args below meth c0 H locs ls hc hP hS hl
  have hts := hc.2.2.2.2.2.1
  have hK := hc.2.2.2.2.2.2.1.1
  have hR0 := hc.2.2.2.2.2.2.2.2.2.2.2
  subst hat
  have hx0 : ¬ x < 0 := by rw [ti_lt, ti_0]; omega
  have hxN : x.toNatClampNeg = N := by show x.toInt.toNat = N; omega
  refine va_newaK hc.1 hc.2.1 (hts _ hw) rfl hd rfl hx0 hxN hN (by omega) (by omega) rfl fun H1 cA e1 z1 o1 hAr hNm => ?_
  have hcA : cA = G.2.2.2.2 t := by
    have h1 := (hK.2 t _ hty).2
    have h2 : s.vm.findClass ("[" ++ (newarray.typeOf at').toString) = some (G.2.2.2.2 t) := by
      revert h1
      show va_RA _ _ (newarray.typeOf at') → _
      cases at' <;> exact fun h => h
    exact Option.some.inj (hNm.symm.trans h2)
  subst hcA
  have hk : ∀ (k : Nat) (y : Nat × va_E), (vwl G n sh I L R)[k]? = some y → H1[y.1]? = H[y.1]? := fun k y hy => o1 y.1 ((hP.2 k y hy).lt)
  have hP' := (hP.2.kept hk).app (w2 := [(ad G n, .inl (G.2.2.2.2 t, N, .inl (fun _ => 0)))]) (fun k y hy => by
    have hz : k < 1 := (List.getElem?_eq_some_iff.mp hy).1
    rw [show k = 0 by omega] at hy
    cases hy
    rw [← hP.1]
    show H1[H.size]? = some (vp_cell _ _)
    rw [e1, hdv, vp_cell_i])
  have hsn : sh' n = (13 + t, N) := by rw [hs']; simp [uph]
  have hcell : vcell G sh' I' L' R' n = .inl (G.2.2.2.2 t, N, .inl (fun _ => 0)) := by
    rcases (show t = 0 ∨ t = 1 by omega) with rfl | rfl
    · rw [vcell_i hsn, hI]; simp [uph]
    · rw [vcell_z hsn, hI]; simp [uph]
  rw [vwl_push (sh' := sh') (I' := I') (L' := L') (R' := R') hcell (fun j hj => by
    have hne : j ≠ n := by omega
    simp only [vcell, hs', hI, hL, hR, uph, hne, if_false])] at hP'
  have hS' : va_S (vA G) s.heap H1 locs := ⟨Nat.le_trans hS.1 (by omega), fun y h1 h2 => (o1 y (Nat.lt_of_lt_of_le h1 hS.1)).trans (hS.2.1 y h1 h2), hS.2.2⟩
  have e3 : H.size = ad G n := hP.1
  show W p G.1 e R0 s m args below meth c0 H1 locs (ce + 1) (sl + N) _ (F0 m (pc + 2) ls (.ref H.size :: st))
  rw [e3]
  exact kk p e R0 s m args below meth c0 H1 locs ls hc ⟨by rw [z1, hP.1, ad_s], hP'⟩ hS' hl
/-- a new array of references -/
theorem V_newq {t N idx : Nat} {C : String} {x : Int32} {sh' : vS} {I' : vI} {L' : vL} {R' : vR} (hty : (vty G)[t]? = some (G.2.2.2.2 t, .object C)) (ht : 2 ≤ t) (hw : Cond.classLink own idx C ∈ vT ∧ C ∈ vAOs) (hd : decode cc pc = .ok (.anewarray idx, 3)) (hx : x.toInt = N) (hN : N * 4 ≤ 536870912) (hce : ce + 1 ≤ MC) (hsl : sl + N ≤ MS)
    (hs' : sh' = uph sh n (13 + t, N)) (hI : I' = uph I n (fun _ => 0)) (hL : L' = uph L n (fun _ => 0)) (hR : R' = uph R n (fun _ => none))
    (kk : V G own cc ret ini d MC MS nL post (pc + 3) lo (.ref (ad G n) :: st) (ce + 1) (sl + N) (n + 1) sh' I' L' R') : V G own cc ret ini d MC MS nL post pc lo (.int x :: st) ce sl n sh I L R := by
  intro p e R0 s m args below meth c0 H locs ls hc hP hS hl
  have hts := hc.2.2.2.2.2.1
  have hK := hc.2.2.2.2.2.2.1.1
  have hR0 := hc.2.2.2.2.2.2.2.2.2.2.2
  have hx0 : ¬ x < 0 := by rw [ti_lt, ti_0]; omega
  have hxN : x.toNatClampNeg = N := by show x.toInt.toNat = N; omega
  subst hxN
  refine W.anew hc.1 hc.2.1 hc.2.2.2.2.1 (hts _ hw.1) (va_AO.use (hc.2.2.2.2.2.2.1.2.2.2.2 _ hw.2)) rfl hd rfl hx0 hN (by omega) (by omega) fun cA kA comp f1 f2 f3 f4 => ?_
  have hcA : cA = G.2.2.2.2 t := by
    obtain ⟨-, kA', comp', -, -, -, h5⟩ := hK.2 t _ hty
    exact Option.some.inj (f1.symm.trans h5)
  subst hcA
  generalize hH1 : H.push ({ cls := G.2.2.2.2 t, slots := Array.replicate x.toNatClampNeg .null, vm := .none } : Cell) = H1
  have z1 : H1.size = H.size + 1 := by rw [← hH1, Array.size_push]
  have e1 : H1[H.size]? = some (arrV (G.2.2.2.2 t) x.toNatClampNeg (fun _ => .null)) := by rw [← hH1, Array.getElem?_push_size, ← arrV_new]
  have o1 : ∀ q, q < H.size → H1[q]? = H[q]? := fun q hq => by rw [← hH1, Array.getElem?_push, if_neg (Nat.ne_of_lt hq)]
  have hk : ∀ (k : Nat) (y : Nat × va_E), (vwl G n sh I L R)[k]? = some y → H1[y.1]? = H[y.1]? := fun k y hy => o1 y.1 ((hP.2 k y hy).lt)
  have hP' := (hP.2.kept hk).app (w2 := [(ad G n, .inl (G.2.2.2.2 t, x.toNatClampNeg, .inr (.inr (.inr (.inr (fun _ => none))))))]) (fun k y hy => by
    have hz : k < 1 := (List.getElem?_eq_some_iff.mp hy).1
    rw [show k = 0 by omega] at hy
    cases hy
    rw [← hP.1]
    show H1[H.size]? = some (vp_cell _ _)
    rw [e1, vp_cell_q]; rfl)
  have hsn : sh' n = (13 + t, x.toNatClampNeg) := by rw [hs']; simp [uph]
  have hcell : vcell G sh' I' L' R' n = .inl (G.2.2.2.2 t, x.toNatClampNeg, .inr (.inr (.inr (.inr (fun _ => none))))) := by
    rw [vcell_r hsn ht, hR]; simp [uph, vrf]
  rw [vwl_push (sh' := sh') (I' := I') (L' := L') (R' := R') hcell (fun j hj => by
    have hne : j ≠ n := by omega
    simp only [vcell, hs', hI, hL, hR, uph, hne, if_false])] at hP'
  have hS' : va_S (vA G) s.heap H1 locs := ⟨Nat.le_trans hS.1 (by omega), fun y h1 h2 => (o1 y (Nat.lt_of_lt_of_le h1 hS.1)).trans (hS.2.1 y h1 h2), hS.2.2⟩
  have e3 : H.size = ad G n := hP.1
  rw [e3]
  exact kk p e R0 s m args below meth c0 H1 locs ls hc ⟨by rw [z1, hP.1, ad_s], hP'⟩ hS' hl
-- returns
theorem V_iret {v : Int32} {rt : FieldType} (hr : ret = some rt) (hn : narrow rt (.int v) = .int v) (hd : decode cc pc = .ok (.ireturn, 1)) (hce : ce ≤ MC) (hsl : sl ≤ MS) (hq : post (some (.int v)) n sh I L R) : V G own cc ret ini d MC MS nL post pc lo [.int v] ce sl n sh I L R := by
  intro p e R0 s m args below meth c0 H locs ls hc hP hS hl
  refine W.widen (k := MC) (n := MS) hce hsl ?_
  exact W.zret hc.1 hc.2.1 (by rw [hc.2.2.1, hr]) hn (fun t ht hW => ⟨⟨_, n, sh, I, L, R, rfl, hq, by rw [ht]; exact hP⟩, hS.F ht⟩) hS.2.2 hd hc.2.2.2.2.2.2.2.1
theorem V_lret {v : Int64} (hr : ret = some .long) (hd : decode cc pc = .ok (.lreturn, 1)) (hce : ce ≤ MC) (hsl : sl ≤ MS) (hq : post (some (.long v)) n sh I L R) : V G own cc ret ini d MC MS nL post pc lo [.long v] ce sl n sh I L R := by
  intro p e R0 s m args below meth c0 H locs ls hc hP hS hl
  refine W.widen (k := MC) (n := MS) hce hsl ?_
  exact W.lret hc.1 hc.2.1 (by rw [hc.2.2.1, hr]) (fun t ht hW => ⟨⟨_, n, sh, I, L, R, rfl, hq, by rw [ht]; exact hP⟩, hS.F ht⟩) hS.2.2 hd hc.2.2.2.2.2.2.2.1
theorem V_vret (hr : ret = none) (hd : decode cc pc = .ok (.return_, 1)) (hce : ce ≤ MC) (hsl : sl ≤ MS) (hq : post none n sh I L R) : V G own cc ret ini d MC MS nL post pc lo [] ce sl n sh I L R := by
  intro p e R0 s m args below meth c0 H locs ls hc hP hS hl
  refine W.widen (k := MC) (n := MS) hce hsl ?_
  exact W.vret hc.1 hc.2.1 (by rw [hc.2.2.1, hr]) (fun t ht hW => ⟨⟨_, n, sh, I, L, R, rfl, hq, by rw [ht]; exact hP⟩, hS.F ht⟩) hS.2.2 hd hc.2.2.2.2.2.2.2.1
theorem V_aret {v : Value} {C : String} (hr : ret = some (.object C)) (hv : v = .null ∨ ∃ a, v = .ref a) (hd : decode cc pc = .ok (.areturn, 1)) (hce : ce ≤ MC) (hsl : sl ≤ MS) (hq : post (some v) n sh I L R) : V G own cc ret ini d MC MS nL post pc lo [v] ce sl n sh I L R := by
  intro p e R0 s m args below meth c0 H locs ls hc hP hS hl
  refine W.widen (k := MC) (n := MS) hce hsl ?_
  exact W.aret hc.1 hc.2.1 (by rw [hc.2.2.1, hr]) (Or.inl ⟨_, rfl⟩) hv (fun t ht hW => ⟨⟨_, n, sh, I, L, R, rfl, hq, by rw [ht]; exact hP⟩, hS.F ht⟩) hS.2.2 hd hc.2.2.2.2.2.2.2.1
end VC
/-- a method's contract at these arguments and this world: it returns, and its answer and the world behind it are in 'post' -/
def CT (G : vG) (y : MethodName) (cc : ByteArray) (nL : Nat) (ret : Option FieldType) (d mc ms : Nat) (As : List Value) (n : Nat) (sh : vS) (I : vI) (L : vL) (R : vR) (post : PT) : Prop :=
  Met G.1 y (Cond.code y cc nL ret :: vT) { frames := d, cells := mc, slots := ms, locals := 40 * d } (va_Pc As (fun U => vRp G n sh I L R U.heap ∧ vK G U)) (QV G post) mc ms (vA G)
/-- what the tables say of a method -/
def MF (y : MethodName) (cc : ByteArray) (nL : Nat) (ret : Option FieldType) (k : Nat) : Prop := Cond.code y cc nL ret ∈ vT ∧ Cond.initialized y.cls ∈ vT ∧ (y.cls ≠ "java/lang/invoke/MethodHandle" ∧ y.cls ≠ "java/lang/invoke/VarHandle") ∧ (parseMethodDescriptor y.desc).map (fun d => d.parameters.length) = some k ∧ nL ≤ 20 ∧ plainName y.cls = true
theorem CT_of {G : vG} {own : String} {y : MethodName} {cc : ByteArray} {nL k : Nat} {ret : Option FieldType} {ini : Bool} {d mc ms : Nat} {As : List Value} {n : Nat} {sh : vS} {I : vI} {L : vL} {R : vR} {post : PT} {lo : List (Nat × Value)} (hF : MF y cc nL ret k) (hn : (lg_sl As).length ≤ nL) (hlo : lv_args 0 As = lo) (hini : ini = true → y.name = "<init>") (ho : y.cls = own) (h : V G own cc ret ini d mc ms nL post 0 lo [] 0 0 n sh I L R) : CT G y cc nL ret d mc ms As n sh I L R post := by
  subst ho
  refine Met.ofW (cc := cc) (maxL := nL) (ret := ret) hF.2.2.2.2.2 rfl ?_
  intro p e s m args below meth c s₁ B hml hv
  obtain ⟨rfl, hP, hK⟩ := hv
  have hl := lv_entry As hn
  rw [hlo] at hl
  rw [lg_entry_eq]
  have hts := atoms_spec (ws := Cond.code y cc nL ret :: vT) B.pre
  exact h p e _ s m As.toArray below meth c s.heap [] _ ⟨B.exec, B.bytes, B.returns, hml, findClass_of_methodNamed B.named, fun w hw => hts w (List.mem_cons_of_mem _ hw), hK, B.notSynchronized, fun hi => (name_of_methodNamed B.named B.method).1.trans (hini hi), Nat.le_refl _, Nat.le_refl _, Nat.le_refl _, Nat.le_refl _, by rw [hP.1]; exact Nat.le_add_right _ _⟩ hP va_S.rf hl
theorem CT_blind {G : vG} {As : List Value} {n : Nat} {sh : vS} {I : vI} {L : vL} {R : vR} : FrameBlind (va_Pc As (fun U => vRp G n sh I L R U.heap ∧ vK G U)) := fun a U g mk q => ⟨q.1, q.2.1, vK_same (s := U) (U := U.calling g mk a) rfl q.2.2⟩
theorem V_run {G : vG} {p : Program} {e : Env} {R0 : Room} {s : State} {m : MethodId} {args : Array Value} {below : List Frame} {meth : Method} {c : Code} {H : Heap} {locs : List Loc} {ce sl mc ms pc : Nat} {ls : Array Slot} {st0 rest : List Value} {ay : Array Value} {posty : PT} {Q : State → Prop}
    (hr : va_Run p G.1 e R0 s m args below meth c H locs ce sl mc ms (F0 m pc ls st0) rest (QV G posty ay) (vA G)) (hS : va_S (vA G) s.heap H locs)
    (kk : ∀ (r : Option Value) (n' : Nat) (sh' : vS) (I' : vI) (L' : vL) (R' : vR) (H1 : Heap) (locs1 : List Loc), posty r n' sh' I' L' R' → vRp G n' sh' I' L' R' H1 → va_S (vA G) s.heap H1 locs1 → W p G.1 e R0 s m args below meth c H1 locs1 (ce + mc) (sl + ms) Q (F0 m (pc + 3) ls (r.toList ++ rest))) : W p G.1 e R0 s m args below meth c H locs ce sl Q (F0 m pc ls st0) := by
  intro T hT X
  obtain ⟨v, st₀, t, T', L, h0, X', hL, e1, e2, ⟨⟨r, n', sh', I', L', R', hv, hp, hb⟩, hz, hk⟩, stp⟩ := hr T hT X
  cases hv
  rw [h0] at hz hk
  obtain ⟨t2, a1, b1⟩ := kk v n' sh' I' L' R' T'.heap (locs ++ L) hp (by rw [e1]; exact hb)
    ⟨Nat.le_trans hS.1 (by rw [e1]; exact hz), fun q h1 h2 => by rw [e1, hk q (Nat.lt_of_lt_of_le h1 hS.1) h2]; exact hS.2.1 q h1 h2, fun q hq => by
      rcases List.mem_append.mp hq with h | h
      · exact hS.2.2 q h
      · exact hL q h⟩ T' rfl X'
  exact ⟨t2, stp t2 a1, b1⟩
section VD
variable {G : vG} {own : String} {cc : ByteArray} {ret : Option FieldType} {ini : Bool} {d MC MS nL : Nat} {post : PT} {pc : Nat} {lo : List (Nat × Value)} {st st0 : List Value} {ce sl n : Nat} {sh : vS} {I : vI} {L : vL} {R : vR}
variable {y : MethodName} {ccy : ByteArray} {nLy k dy mc ms idx : Nat} {rety : Option FieldType} {As : List Value} {posty : PT}
theorem cb_of {R0 : Room} {s : State} {args : Array Value} (hF : MF y ccy nLy rety k) (hts : ∀ w ∈ vT, w.before args s = true) (hl : Cond.methodLink own idx y ∈ vT) (hfr : d ≤ R0.frames) (hlo : 40 * d ≤ R0.locals) (hdd : dy + 1 ≤ d) : CallB R0 s args own idx y ccy nLy rety (Cond.code y ccy nLy rety :: vT) { frames := dy, cells := mc, slots := ms, locals := 40 * dy } mc ms k :=
  callB_of k hts (tb_ws hF.1) rfl rfl rfl (hts _ hF.2.1) (hts _ hl) ⟨hF.2.2.1.1, hF.2.2.1.2, hF.2.2.2.1⟩ ⟨Nat.le_trans hdd hfr, by have := hF.2.2.2.2.1; show 8 + (nLy + 11) + 40 * dy ≤ R0.locals; omega⟩
theorem V_callS (hM : CT G y ccy nLy rety dy mc ms As n sh I L R posty) (hF : MF y ccy nLy rety k) (hl : Cond.methodLink own idx y ∈ vT) (hst : Cond.static y ∈ vT) (hd : decode cc pc = .ok (.invokestatic idx, 3)) (hk : As.length = k) (hstk : As.reverse ++ st = st0) (hdd : dy + 1 ≤ d) (hce : ce + mc ≤ MC) (hsl : sl + ms ≤ MS) (hW : (st.map fun v => v.category).sum ≤ 8)
    (kk : ∀ (r : Option Value) (n' : Nat) (sh' : vS) (I' : vI) (L' : vL) (R' : vR), posty r n' sh' I' L' R' → V G own cc ret ini d MC MS nL post (pc + 3) lo (r.toList ++ st) (ce + mc) (sl + ms) n' sh' I' L' R') : V G own cc ret ini d MC MS nL post pc lo st0 ce sl n sh I L R := by
  intro p e R0 s m args below meth c0 H locs ls hc hP hS hl2
  obtain ⟨h1, h2, h3, h4, h5, hts, hK, h8, h9, h10, h11, h12, h13, h14⟩ := id hc
  refine V_run (va_runS (As := As) (rest := st) ⟨h1, h2, h4, h5, hts⟩ hM ⟨cb_of hF hts hl h10 h11 hdd, hts _ hst⟩ ⟨CT_blind, fun U hU hW2 => ⟨rfl, by rw [hU]; exact hP, vK_warm hW2 hK⟩⟩ rfl hk hl2.1 hstk.symm (lv_room hW) hd ⟨by omega, by omega⟩) hS ?_
  intro r n' sh' I' L' R' H1 locs1 hq hP1 hS1
  exact kk r n' sh' I' L' R' hq p e R0 s m args below meth c0 H1 locs1 ls hc hP1 hS1 hl2
theorem vrecv {s : State} {H : Heap} {i c : Nat} {q : vw_C} (hK : va_K (G.2.2.1, G.2.2.2.1) vwCl (vty G) s) (hP : vRp G n sh I L R H) (hi : i < n) (hs : (sh i).1 = c) (hc : c < 13) (hcl : vwCl[c]? = some q) : ∃ cell : Cell, H[ad G i]? = some cell ∧ cell.vm.isStatics = false ∧ s.vm.findClass q.1 = some cell.cls := by
  have he := vwl_get (G := G) (sh := sh) (I := I) (L := L) (R := R) hi
  rw [vcell_o hs hc] at he
  exact va_recv hK hP.2 hcl he
theorem V_callV {i c : Nat} {q : vw_C} (hM : CT G y ccy nLy rety dy mc ms (.ref (ad G i) :: As) n sh I L R posty) (hF : MF y ccy nLy rety k) (hl : Cond.methodLink own idx y ∈ vT) (hin : Cond.instanceMethod y ∈ vT ∧ Cond.selects q.1 y y ∈ vT) (hi : i < n) (hs : (sh i).1 = c) (hc13 : c < 13) (hcl : vwCl[c]? = some q) (hd : decode cc pc = .ok (.invokevirtual idx, 3)) (hk : As.length = k) (hstk : As.reverse ++ .ref (ad G i) :: st = st0) (hdd : dy + 1 ≤ d) (hce : ce + mc ≤ MC) (hsl : sl + ms ≤ MS) (hW : (st.map fun v => v.category).sum ≤ 8)
    (kk : ∀ (r : Option Value) (n' : Nat) (sh' : vS) (I' : vI) (L' : vL) (R' : vR), posty r n' sh' I' L' R' → V G own cc ret ini d MC MS nL post (pc + 3) lo (r.toList ++ st) (ce + mc) (sl + ms) n' sh' I' L' R') : V G own cc ret ini d MC MS nL post pc lo st0 ce sl n sh I L R := by
  intro p e R0 s m args below meth c0 H locs ls hc hP hS hl2
  obtain ⟨h1, h2, h3, h4, h5, hts, hK, h8, h9, h10, h11, h12, h13, h14⟩ := id hc
  refine V_run (va_runV (C := q.1) (As := As) (rest := st) ⟨h1, h2, h4, h5, hts⟩ hM ⟨cb_of hF hts hl h10 h11 hdd, hts _ hin.1, hts _ hin.2⟩ ⟨CT_blind, vrecv hK.1 hP hi hs hc13 hcl, fun U hU hW2 => ⟨rfl, by rw [hU]; exact hP, vK_warm hW2 hK⟩⟩ rfl hk hl2.1 hstk.symm (lv_room hW) hd ⟨by omega, by omega⟩) hS ?_
  intro r n' sh' I' L' R' H1 locs1 hq hP1 hS1
  exact kk r n' sh' I' L' R' hq p e R0 s m args below meth c0 H1 locs1 ls hc hP1 hS1 hl2
theorem V_callVN {i c : Nat} {q : vw_C} {host : String} (hM : CT G y ccy nLy rety dy mc ms (.ref (ad G i) :: As) n sh I L R posty) (hF : MF y ccy nLy rety k) (hl : (own, idx, y, host) ∈ vNest) (hin : Cond.instanceMethod y ∈ vT ∧ Cond.selects q.1 y y ∈ vT) (hi : i < n) (hs : (sh i).1 = c) (hc13 : c < 13) (hcl : vwCl[c]? = some q) (hd : decode cc pc = .ok (.invokevirtual idx, 3)) (hk : As.length = k) (hstk : As.reverse ++ .ref (ad G i) :: st = st0) (hdd : dy + 1 ≤ d) (hce : ce + mc ≤ MC) (hsl : sl + ms ≤ MS) (hW : (st.map fun v => v.category).sum ≤ 8)
    (kk : ∀ (r : Option Value) (n' : Nat) (sh' : vS) (I' : vI) (L' : vL) (R' : vR), posty r n' sh' I' L' R' → V G own cc ret ini d MC MS nL post (pc + 3) lo (r.toList ++ st) (ce + mc) (sl + ms) n' sh' I' L' R') : V G own cc ret ini d MC MS nL post pc lo st0 ce sl n sh I L R := by
  intro p e R0 s m args below meth c0 H locs ls hc hP hS hl2
  obtain ⟨h1, h2, h3, h4, h5, hts, hK, h8, h9, h10, h11, h12, h13, h14⟩ := id hc
  refine V_run (va_runVN (C := q.1) (As := As) (rest := st) ⟨h1, h2, h4, h5, hts⟩ hM ⟨va_cnB k hts (tb_ws hF.1) rfl rfl rfl (hK.2.1 _ hl) (hts _ hF.2.1) ⟨hF.2.2.1.1, hF.2.2.1.2, hF.2.2.2.1⟩ ⟨Nat.le_trans hdd h10, by have := hF.2.2.2.2.1; show 8 + (nLy + 11) + 40 * dy ≤ R0.locals; omega⟩, hts _ hin.1, hts _ hin.2⟩ ⟨CT_blind, vrecv hK.1 hP hi hs hc13 hcl, fun U hU hW2 => ⟨rfl, by rw [hU]; exact hP, vK_warm hW2 hK⟩⟩ rfl hk hl2.1 hstk.symm (lv_room hW) hd ⟨by omega, by omega⟩) hS ?_
  intro r n' sh' I' L' R' H1 locs1 hq hP1 hS1
  exact kk r n' sh' I' L' R' hq p e R0 s m args below meth c0 H1 locs1 ls hc hP1 hS1 hl2
theorem V_callI {i : Nat} (hM : CT G y ccy nLy none dy mc ms (.ref (ad G i) :: As) n sh I L R posty) (hF : MF y ccy nLy none k) (hl : Cond.methodLink own idx y ∈ vT) (hin : y.name = "<init>" ∧ Cond.instanceMethod y ∈ vT) (hd : decode cc pc = .ok (.invokespecial idx, 3)) (hk : As.length = k) (hstk : As.reverse ++ .ref (ad G i) :: st = st0) (hdd : dy + 1 ≤ d) (hce : ce + mc ≤ MC) (hsl : sl + ms ≤ MS) (hW : (st.map fun v => v.category).sum ≤ 8)
    (kk : ∀ (r : Option Value) (n' : Nat) (sh' : vS) (I' : vI) (L' : vL) (R' : vR), posty r n' sh' I' L' R' → V G own cc ret ini d MC MS nL post (pc + 3) lo (r.toList ++ st) (ce + mc) (sl + ms) n' sh' I' L' R') : V G own cc ret ini d MC MS nL post pc lo st0 ce sl n sh I L R := by
  intro p e R0 s m args below meth c0 H locs ls hc hP hS hl2
  obtain ⟨h1, h2, h3, h4, h5, hts, hK, h8, h9, h10, h11, h12, h13, h14⟩ := id hc
  refine V_run (va_runI (As := As) (rest := st) ⟨h1, h2, h4, h5, hts⟩ hM ⟨cb_of hF hts hl h10 h11 hdd, hin.1, hts _ hin.2⟩ ⟨CT_blind, fun U hU hW2 => ⟨rfl, by rw [hU]; exact hP, vK_warm hW2 hK⟩⟩ rfl hk hl2.1 hstk.symm (lv_room hW) hd ⟨by omega, by omega⟩) hS ?_
  intro r n' sh' I' L' R' H1 locs1 hq hP1 hS1
  exact kk r n' sh' I' L' R' hq p e R0 s m args below meth c0 H1 locs1 ls hc hP1 hS1 hl2
theorem V_callIN {i : Nat} {host : String} (hM : CT G y ccy nLy none dy mc ms (.ref (ad G i) :: As) n sh I L R posty) (hF : MF y ccy nLy none k) (hl : (own, idx, y, host) ∈ vNest) (hin : y.name = "<init>" ∧ Cond.instanceMethod y ∈ vT) (hd : decode cc pc = .ok (.invokespecial idx, 3)) (hk : As.length = k) (hstk : As.reverse ++ .ref (ad G i) :: st = st0) (hdd : dy + 1 ≤ d) (hce : ce + mc ≤ MC) (hsl : sl + ms ≤ MS) (hW : (st.map fun v => v.category).sum ≤ 8)
    (kk : ∀ (r : Option Value) (n' : Nat) (sh' : vS) (I' : vI) (L' : vL) (R' : vR), posty r n' sh' I' L' R' → V G own cc ret ini d MC MS nL post (pc + 3) lo (r.toList ++ st) (ce + mc) (sl + ms) n' sh' I' L' R') : V G own cc ret ini d MC MS nL post pc lo st0 ce sl n sh I L R := by
  intro p e R0 s m args below meth c0 H locs ls hc hP hS hl2
  obtain ⟨h1, h2, h3, h4, h5, hts, hK, h8, h9, h10, h11, h12, h13, h14⟩ := id hc
  refine V_run (va_runIN (As := As) (rest := st) ⟨h1, h2, h4, h5, hts⟩ hM ⟨va_cnB k hts (tb_ws hF.1) rfl rfl rfl (hK.2.1 _ hl) (hts _ hF.2.1) ⟨hF.2.2.1.1, hF.2.2.1.2, hF.2.2.2.1⟩ ⟨Nat.le_trans hdd h10, by have := hF.2.2.2.2.1; show 8 + (nLy + 11) + 40 * dy ≤ R0.locals; omega⟩, hin.1, hts _ hin.2⟩ ⟨CT_blind, fun U hU hW2 => ⟨rfl, by rw [hU]; exact hP, vK_warm hW2 hK⟩⟩ rfl hk hl2.1 hstk.symm (lv_room hW) hd ⟨by omega, by omega⟩) hS ?_
  intro r n' sh' I' L' R' H1 locs1 hq hP1 hS1
  exact kk r n' sh' I' L' R' hq p e R0 s m args below meth c0 H1 locs1 ls hc hP1 hS1 hl2
theorem V_objInit {i idx : Nat} (hl : Cond.methodLink own idx Lib.objectInit ∈ vT) (hin : Cond.instanceMethod Lib.objectInit ∈ vT) (hco : Cond.code Lib.objectInit ⟨#[0xb1]⟩ 1 none ∈ vT) (hd : decode cc pc = .ok (.invokespecial idx, 3)) (hdd : 1 ≤ d) (hW : (st.map fun v => v.category).sum ≤ 8) (kk : V G own cc ret ini d MC MS nL post (pc + 3) lo st ce sl n sh I L R) : V G own cc ret ini d MC MS nL post pc lo (.ref (ad G i) :: st) ce sl n sh I L R := by
  intro p e R0 s m args below meth c0 H locs ls hc hP hS hl2
  obtain ⟨h1, h2, h3, h4, h5, hts, hK, h8, h9, h10, h11, h12, h13, h14⟩ := id hc
  refine W.objInit h1 h2 h5 (hts _ hl) (hts _ hin) (hts _ hco) rfl (by rw [h4]; exact hl2.1) rfl hd (Nat.le_trans hdd h10) ?_ (kk p e R0 s m args below meth c0 H locs ls hc hP hS hl2)
  show 2 * 0 + _ + 12 ≤ R0.locals
  omega
end VD
