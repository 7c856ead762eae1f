theorem tb_good : GoodIn vT vT := fun w hw => ⟨hw, good_of_word (List.mem_filter.mp hw).2⟩
theorem tb_sub {ws : List Cond} (h : ∀ w ∈ ws, w ∈ vT) : GoodIn vT ws := fun w hw => tb_good w (h w hw)
theorem tb_ws {y : MethodName} {cc : ByteArray} {nL : Nat} {ret : Option FieldType} (h : Cond.code y cc nL ret ∈ vT) : GoodIn vT (Cond.code y cc nL ret :: vT) := tb_sub fun w hw => by
  rcases List.mem_cons.mp hw with e | e
  · exact e ▸ h
  · exact e
/-- a field of a class, as a method of 'own' names it: to be read -/
def FK (own : String) (idx c k t : Nat) : Prop := ∃ (C : String) (T : u_T) (N : Nat), vwCl[c]? = some (C, T, N) ∧ k < N ∧ c < 13 ∧ (fT c)[k]? = some t ∧ (∀ w ∈ u_ws C T N, w ∈ vT) ∧ ∃ ref : String, Cond.fieldLink own idx ref (T k).2.1 (T k).2.2.1 ∈ vT ∧ (ref = (T k).1 ∨ Cond.sameField ref (T k).1 (T k).2.1 (T k).2.2.1 ∈ vT)
/-- the same, to be written -/
def FW (own : String) (idx c k t : Nat) (ty : FieldType) (fin : Bool) : Prop := ∃ (C : String) (T : u_T) (N : Nat) (ty0 : Nat → FieldType), vwCl[c]? = some (C, T, N) ∧ k < N ∧ c < 13 ∧ (fT c)[k]? = some t ∧ (∀ w ∈ u_ws C T N, w ∈ vT) ∧ Cond.fieldLink own idx (T k).1 (T k).2.1 (T k).2.2.1 ∈ vT ∧ (∀ k, k < N → parseFieldDescriptor (T k).2.2.1 = some (ty0 k)) ∧ (∀ a, a < N → ∀ b, b < N → a ≠ b → (T a).2.1 ≠ (T b).2.1) ∧ parseFieldDescriptor (T k).2.2.1 = some ty ∧ (T k).2.2.2 = fin ∧ (fin = true → (T k).1 = own)
theorem vcell_o {G : vG} {sh : vS} {I : vI} {L : vL} {R : vR} {i c : Nat} (hs : (sh i).1 = c) (hc : c < 13) : vcell G sh I L R i = .inr (c, rdl G (I i) (L i) (R i) 0 (fT c)) := by
  subst hs
  exact if_pos hc
theorem vcell_i {G : vG} {sh : vS} {I : vI} {L : vL} {R : vR} {i N : Nat} (hs : sh i = (13, N)) : vcell G sh I L R i = .inl (G.2.2.2.2 0, N, .inl (I i)) := by
  simp [vcell, hs]
theorem vcell_z {G : vG} {sh : vS} {I : vI} {L : vL} {R : vR} {i N : Nat} (hs : sh i = (14, N)) : vcell G sh I L R i = .inl (G.2.2.2.2 1, N, .inl (I i)) := by
  simp [vcell, hs]
theorem vcell_r {G : vG} {sh : vS} {I : vI} {L : vL} {R : vR} {i N t : Nat} (hs : sh i = (13 + t, N)) (ht : 2 ≤ t) : vcell G sh I L R i = .inl (G.2.2.2.2 t, N, .inr (.inr (.inr (.inr (fun k => vrf G (R i k)))))) := by
  have h1 : ¬ 13 + t < 13 := by omega
  have h2 : ¬ 13 + t < 15 := by omega
  have h3 : 13 + t - 13 = t := by omega
  simp [vcell, hs, h2, h3]
theorem vcell_eq {G : vG} {sh : vS} {I I' : vI} {L L' : vL} {R R' : vR} {j : Nat} (h1 : I' j = I j) (h2 : L' j = L j) (h3 : R' j = R j) : vcell G sh I' L' R' j = vcell G sh I L R j := by
  simp only [vcell, h1, h2, h3]
theorem up2_o {α : Type} {f : Nat → Nat → α} {i j k : Nat} {v : α} (h : j ≠ i) : up2 f i k v j = f j := by
  funext b
  simp [up2, h]
theorem up2_e {α : Type} {f : Nat → Nat → α} {i k : Nat} {v : α} : up2 f i k v i k = v := by simp [up2]
theorem up2_k {α : Type} {f : Nat → Nat → α} {i j k : Nat} {v : α} (h : j ≠ k) : up2 f i k v i j = f i j := by simp [up2, h]
theorem up2_upd {f : vI} {i k : Nat} {v : Int32} : up2 f i k v i = upd (f i) k v := by
  funext b
  simp [up2, upd]
theorem ix_in {x : Int32} {N : Nat} (h0 : 0 ≤ x.toInt) (h1 : x.toInt < N) : vp_in x N := vp_in_iff.mpr ⟨h0, h1⟩
section VH
variable {G : vG} {own : String} {cc : ByteArray} {ret : Option FieldType} {ini : Bool} {d MC MS nL : Nat} {post : PT} {pc : Nat} {lo : List (Nat × Value)} {st : List Value} {ce sl n : Nat} {sh : vS} {I : vI} {L : vL} {R : vR}
theorem V_get {c k t i idx : Nat} {v : Value} (hf : FK own idx c k t) (hv : fv G (I i) (L i) (R i) k t = v) (hd : decode cc pc = .ok (.getfield idx, 3)) (hi : i < n) (hs : (sh i).1 = c) (kk : V G own cc ret ini d MC MS nL post (pc + 3) lo (v :: st) ce sl n sh I L R) : V G own cc ret ini d MC MS nL post pc lo (.ref (ad G i) :: st) ce sl n sh I L R := by
  intro p e R0 s m args below meth c0 H locs ls hc hP hS hl
  obtain ⟨C, T, N, h1, h2, h3, h4, h5, ref, h6, h7⟩ := hf
  have he := vwl_get (G := G) (sh := sh) (I := I) (L := L) (R := R) hi
  rw [vcell_o hs h3] at he
  exact va_get (D := (G.2.2.1, G.2.2.2.1)) (ci := c) hc.1 hc.2.1 hc.2.2.2.2.2.1 h5 hc.2.2.2.2.1 hc.2.2.2.2.2.2.1.1 hP.2 i he h1 k h2 (hc.2.2.2.2.2.1 _ h6) (fun x h => h7.elim (fun z => by rw [z]; exact h) (fun z => u_same (hc.2.2.2.2.2.1 _ z) x h)) (v := v) (by rw [rdl_get, h4, ← hv]; simp) hd (kk p e R0 s m args below meth c0 H locs ls hc hP hS hl)
theorem V_getI {c k i idx : Nat} (hf : FK own idx c k 0) (hd : decode cc pc = .ok (.getfield idx, 3)) (hi : i < n) (hs : (sh i).1 = c) (kk : V G own cc ret ini d MC MS nL post (pc + 3) lo (.int (I i k) :: st) ce sl n sh I L R) : V G own cc ret ini d MC MS nL post pc lo (.ref (ad G i) :: st) ce sl n sh I L R := V_get hf rfl hd hi hs kk
theorem V_getL {c k i idx : Nat} (hf : FK own idx c k 1) (hd : decode cc pc = .ok (.getfield idx, 3)) (hi : i < n) (hs : (sh i).1 = c) (kk : V G own cc ret ini d MC MS nL post (pc + 3) lo (.long (L i k) :: st) ce sl n sh I L R) : V G own cc ret ini d MC MS nL post pc lo (.ref (ad G i) :: st) ce sl n sh I L R := V_get hf rfl hd hi hs kk
theorem V_getR {c k i j idx : Nat} (hf : FK own idx c k 2) (hr : R i k = some j) (hd : decode cc pc = .ok (.getfield idx, 3)) (hi : i < n) (hs : (sh i).1 = c) (kk : V G own cc ret ini d MC MS nL post (pc + 3) lo (.ref (ad G j) :: st) ce sl n sh I L R) : V G own cc ret ini d MC MS nL post pc lo (.ref (ad G i) :: st) ce sl n sh I L R := V_get hf (by simp [fv, hr, vrf, va_rf]) hd hi hs kk
theorem V_put {c k t i idx : Nat} {v : Value} {ty : FieldType} {I' : vI} {L' : vL} {R' : vR} (hf : FW own idx c k t ty false) (hn : narrow ty v = v) (hfit : fits ty v = true) (hd : decode cc pc = .ok (.putfield idx, 3)) (hi : i < n) (hs : (sh i).1 = c) (hv : fv G (I' i) (L' i) (R' i) k t = v) (ho : ∀ j u, j ≠ k → (fT c)[j]? = some u → fv G (I' i) (L' i) (R' i) j u = fv G (I i) (L i) (R i) j u) (hoo : ∀ j, j ≠ i → vcell G sh I' L' R' j = vcell G sh I L R j) (kk : V G own cc ret ini d MC MS nL post (pc + 3) lo st ce sl n sh I' L' R') : V G own cc ret ini d MC MS nL post pc lo (v :: .ref (ad G i) :: st) ce sl n sh I L R := by
  intro p e R0 s m args below meth c0 H locs ls hc hP hS hl
  obtain ⟨C, T, N, ty0, h1, h2, h3, h4, h5, h6, h7, h8, h9, h10, -⟩ := hf
  have he := vwl_get (G := G) (sh := sh) (I := I) (L := L) (R := R) hi
  rw [vcell_o hs h3] at he
  have hts := hc.2.2.2.2.2.1
  have hK := hc.2.2.2.2.2.2.1.1
  have hap := va_apart (own := own) hts h5 ty0 h7 h8 hK h1
  obtain ⟨r, g1, cell, q1, q2, q3, q4⟩ := hP.2 i _ he
  cases g1.symm.trans h1
  obtain ⟨hSl, hfc, kC, hkC, hkind⟩ := hK.1 c _ h1
  obtain ⟨cf, kf, fi, f, hfi, hsl⟩ := hSl k h2
  have hlay := hts _ (h5 _ (u_in_lay h2))
  unfold u_lay at hlay
  rw [if_neg (by rw [h10]; decide)] at hlay
  have hst := (u_facts hfc hkC (u_lays hts h5 h2) hfi).1
  have h11 := u_store hfc hkC hkind hlay hfi h9 hn hfit
  refine W.putK hc.1 hc.2.1 (f := f) ⟨hc.2.2.2.2.1, hts _ h6, ⟨_, _, _, hfi⟩, hst⟩ (by rw [q2]; exact h11) q1 q3 (by rw [hsl]; exact k2_hasslot (q4 k h2)) rfl rfl hd fun H' e1 e2 e3 => ?_
  rw [hsl] at e1 ⊢
  have hlen : k < (rdl G (I i) (L i) (R i) 0 (fT c)).length := by rw [rdl_len]; exact (List.getElem?_eq_some_iff.mp h4).1
  have hP' := hP.2.set vwl_D he (e := .inr (c, (rdl G (I i) (L i) (R i) 0 (fT c)).set k v)) ⟨_, h1, t_OB.to (V := updV (vp_V _) k v) ⟨_, e1, q2, q3, t_set q4 hap h2 v⟩ (fun j _ => vp_updV_set hlen v j)⟩ e3
  rw [rdl_set h4 hv ho, vwl_set (I' := I') (L' := L') (R' := R') (vcell_o hs h3) hoo] at hP'
  exact kk p e R0 s m args below meth c0 H' _ ls hc ⟨e2.trans hP.1, hP'⟩ (hS.put e2 e3 (Nat.le_add_right _ _)) hl
theorem V_putF {c k t i idx : Nat} {v : Value} {ty : FieldType} {I' : vI} {L' : vL} {R' : vR} (hin : ini = true) (hf : FW own idx c k t ty true) (hn : narrow ty v = v) (hfit : fits ty v = true) (hd : decode cc pc = .ok (.putfield idx, 3)) (hi : i < n) (hs : (sh i).1 = c) (hv : fv G (I' i) (L' i) (R' i) k t = v) (ho : ∀ j u, j ≠ k → (fT c)[j]? = some u → fv G (I' i) (L' i) (R' i) j u = fv G (I i) (L i) (R i) j u) (hoo : ∀ j, j ≠ i → vcell G sh I' L' R' j = vcell G sh I L R j) (kk : V G own cc ret ini d MC MS nL post (pc + 3) lo st ce sl n sh I' L' R') : V G own cc ret ini d MC MS nL post pc lo (v :: .ref (ad G i) :: st) ce sl n sh I L R := by
  intro p e R0 s m args below meth c0 H locs ls hc hP hS hl
  obtain ⟨C, T, N, ty0, h1, h2, h3, h4, h5, h6, h7, h8, h9, h10, h12⟩ := hf
  have he := vwl_get (G := G) (sh := sh) (I := I) (L := L) (R := R) hi
  rw [vcell_o hs h3] at he
  have hts := hc.2.2.2.2.2.1
  have hK := hc.2.2.2.2.2.2.1.1
  have hown := hc.2.2.2.2.1
  have hap := va_apart (own := own) hts h5 ty0 h7 h8 hK h1
  obtain ⟨r, g1, cell, q1, q2, q3, q4⟩ := hP.2 i _ he
  cases g1.symm.trans h1
  obtain ⟨hSl, hfc, kC, hkC, hkind⟩ := hK.1 c _ h1
  obtain ⟨cf, kf, fi, f, hfi, hsl⟩ := hSl k h2
  have hlay := hts _ (h5 _ (u_in_lay h2))
  unfold u_lay at hlay
  rw [if_pos h10] at hlay
  have hst := (u_facts hfc hkC (u_lays hts h5 h2) hfi).1
  have hcf : m.cls = cf := by
    obtain ⟨_, _, c', _, _, _, -, -, hf', -, -, -, hown2, -⟩ := Cond.laysFinal_spec hlay
    have e1 : c' = cf := by have := hfi.symm.trans hf'; simp at this; exact this.1.symm
    rw [h12 rfl] at hown2
    rw [← e1]; exact Option.some.inj (hown.symm.trans hown2)
  have h11 := u_fits hfc hkC hkind (Or.inr hlay) hfi h9 hn hfit
  refine W.putFinK hc.1 hc.2.1 hown (hts _ h6) hfi hst hcf (hc.2.2.2.2.2.2.2.2.1 hin) (by rw [q2]; exact h11) q1 q3 (by rw [hsl]; exact k2_hasslot (q4 k h2)) rfl rfl hd fun H' e1 e2 e3 => ?_
  rw [hsl] at e1 ⊢
  have hlen : k < (rdl G (I i) (L i) (R i) 0 (fT c)).length := by rw [rdl_len]; exact (List.getElem?_eq_some_iff.mp h4).1
  have hP' := hP.2.set vwl_D he (e := .inr (c, (rdl G (I i) (L i) (R i) 0 (fT c)).set k v)) ⟨_, h1, t_OB.to (V := updV (vp_V _) k v) ⟨_, e1, q2, q3, t_set q4 hap h2 v⟩ (fun j _ => vp_updV_set hlen v j)⟩ e3
  rw [rdl_set h4 hv ho, vwl_set (I' := I') (L' := L') (R' := R') (vcell_o hs h3) hoo] at hP'
  exact kk p e R0 s m args below meth c0 H' _ ls hc ⟨e2.trans hP.1, hP'⟩ (hS.put e2 e3 (Nat.le_add_right _ _)) hl
theorem fvI {i k : Nat} {x : Int32} : ∀ j u, j ≠ k → fv G (up2 I i k x i) (L i) (R i) j u = fv G (I i) (L i) (R i) j u := fun j u h => by simp [fv, up2_k h]
theorem fvL {i k : Nat} {x : Int64} : ∀ j u, j ≠ k → fv G (I i) (up2 L i k x i) (R i) j u = fv G (I i) (L i) (R i) j u := fun j u h => by simp [fv, up2_k h]
theorem fvR {i k : Nat} {x : Option Nat} : ∀ j u, j ≠ k → fv G (I i) (L i) (up2 R i k x i) j u = fv G (I i) (L i) (R i) j u := fun j u h => by simp [fv, up2_k h]
theorem V_putI {c k i idx : Nat} {x : Int32} {ty : FieldType} (hf : FW own idx c k 0 ty false) (hn : narrow ty (.int x) = .int x) (hfit : fits ty (.int x) = true) (hd : decode cc pc = .ok (.putfield idx, 3)) (hi : i < n) (hs : (sh i).1 = c) (kk : V G own cc ret ini d MC MS nL post (pc + 3) lo st ce sl n sh (up2 I i k x) L R) : V G own cc ret ini d MC MS nL post pc lo (.int x :: .ref (ad G i) :: st) ce sl n sh I L R :=
  V_put hf hn hfit hd hi hs (by simp [fv, up2_e]) (fun j u h _ => fvI j u h) (fun j h => vcell_eq (up2_o h) rfl rfl) kk
theorem V_putL {c k i idx : Nat} {x : Int64} {ty : FieldType} (hf : FW own idx c k 1 ty false) (hn : narrow ty (.long x) = .long x) (hfit : fits ty (.long x) = true) (hd : decode cc pc = .ok (.putfield idx, 3)) (hi : i < n) (hs : (sh i).1 = c) (kk : V G own cc ret ini d MC MS nL post (pc + 3) lo st ce sl n sh I (up2 L i k x) R) : V G own cc ret ini d MC MS nL post pc lo (.long x :: .ref (ad G i) :: st) ce sl n sh I L R :=
  V_put hf hn hfit hd hi hs (by simp [fv, up2_e]) (fun j u h _ => fvL j u h) (fun j h => vcell_eq rfl (up2_o h) rfl) kk
theorem V_putR {c k i j idx : Nat} {ty : FieldType} (hf : FW own idx c k 2 ty false) (hn : narrow ty (.ref (ad G j)) = .ref (ad G j)) (hfit : fits ty (.ref (ad G j)) = true) (hd : decode cc pc = .ok (.putfield idx, 3)) (hi : i < n) (hs : (sh i).1 = c) (kk : V G own cc ret ini d MC MS nL post (pc + 3) lo st ce sl n sh I L (up2 R i k (some j))) : V G own cc ret ini d MC MS nL post pc lo (.ref (ad G j) :: .ref (ad G i) :: st) ce sl n sh I L R :=
  V_put hf hn hfit hd hi hs (by simp [fv, up2_e, vrf, va_rf]) (fun j u h _ => fvR j u h) (fun j h => vcell_eq rfl rfl (up2_o h)) kk
theorem V_putIF {c k i idx : Nat} {x : Int32} {ty : FieldType} (hin : ini = true) (hf : FW own idx c k 0 ty true) (hn : narrow ty (.int x) = .int x) (hfit : fits ty (.int x) = true) (hd : decode cc pc = .ok (.putfield idx, 3)) (hi : i < n) (hs : (sh i).1 = c) (kk : V G own cc ret ini d MC MS nL post (pc + 3) lo st ce sl n sh (up2 I i k x) L R) : V G own cc ret ini d MC MS nL post pc lo (.int x :: .ref (ad G i) :: st) ce sl n sh I L R :=
  V_putF hin hf hn hfit hd hi hs (by simp [fv, up2_e]) (fun j u h _ => fvI j u h) (fun j h => vcell_eq (up2_o h) rfl rfl) kk
theorem V_putRF {c k i j idx : Nat} {ty : FieldType} (hin : ini = true) (hf : FW own idx c k 2 ty true) (hn : narrow ty (.ref (ad G j)) = .ref (ad G j)) (hfit : fits ty (.ref (ad G j)) = true) (hd : decode cc pc = .ok (.putfield idx, 3)) (hi : i < n) (hs : (sh i).1 = c) (kk : V G own cc ret ini d MC MS nL post (pc + 3) lo st ce sl n sh I L (up2 R i k (some j))) : V G own cc ret ini d MC MS nL post pc lo (.ref (ad G j) :: .ref (ad G i) :: st) ce sl n sh I L R :=
  V_putF hin hf hn hfit hd hi hs (by simp [fv, up2_e, vrf, va_rf]) (fun j u h _ => fvR j u h) (fun j h => vcell_eq rfl rfl (up2_o h)) kk
-- arrays
theorem V_iald {i N : Nat} {x : Int32} (hd : decode cc pc = .ok (.iaload, 1)) (hi : i < n) (hs : sh i = (13, N)) (h0 : 0 ≤ x.toInt) (h1 : x.toInt < N) (kk : V G own cc ret ini d MC MS nL post (pc + 1) lo (.int (I i x.toInt.toNat) :: st) ce sl n sh I L R) : V G own cc ret ini d MC MS nL post pc lo (.int x :: .ref (ad G i) :: st) ce sl n sh I L R := by
  intro p e R0 s m args below meth c0 H locs ls hc hP hS hl
  have he := vwl_get (G := G) (sh := sh) (I := I) (L := L) (R := R) hi
  rw [vcell_i hs] at he
  exact va_iald hc.1 hc.2.1 hc.2.2.2.2.2.2.1.1 hP.2 i 0 he rfl (ix_in h0 h1) hd (kk p e R0 s m args below meth c0 H locs ls hc hP hS hl)
theorem V_zald {i N : Nat} {x : Int32} (hd : decode cc pc = .ok (.baload, 1)) (hi : i < n) (hs : sh i = (14, N)) (h0 : 0 ≤ x.toInt) (h1 : x.toInt < N) (kk : V G own cc ret ini d MC MS nL post (pc + 1) lo (.int (I i x.toInt.toNat) :: st) ce sl n sh I L R) : V G own cc ret ini d MC MS nL post pc lo (.int x :: .ref (ad G i) :: st) ce sl n sh I L R := by
  intro p e R0 s m args below meth c0 H locs ls hc hP hS hl
  have he := vwl_get (G := G) (sh := sh) (I := I) (L := L) (R := R) hi
  rw [vcell_z hs] at he
  exact va_zald hc.1 hc.2.1 hc.2.2.2.2.2.2.1.1 hP.2 i 1 he rfl (ix_in h0 h1) hd (kk p e R0 s m args below meth c0 H locs ls hc hP hS hl)
theorem vty_t {t : Nat} (h2 : 2 ≤ t) (h6 : t < 6) : ∃ C, (vty G)[t]? = some (G.2.2.2.2 t, .object C) := by
  rcases (show t = 2 ∨ t = 3 ∨ t = 4 ∨ t = 5 by omega) with rfl | rfl | rfl | rfl <;> exact ⟨_, rfl⟩
theorem V_aald {i N t j : Nat} {x : Int32} (hd : decode cc pc = .ok (.aaload, 1)) (hi : i < n) (hs : sh i = (13 + t, N)) (ht : 2 ≤ t) (ht6 : t < 6) (h0 : 0 ≤ x.toInt) (h1 : x.toInt < N) (hr : R i x.toInt.toNat = some j) (kk : V G own cc ret ini d MC MS nL post (pc + 1) lo (.ref (ad G j) :: st) ce sl n sh I L R) : V G own cc ret ini d MC MS nL post pc lo (.int x :: .ref (ad G i) :: st) ce sl n sh I L R := by
  intro p e R0 s m args below meth c0 H locs ls hc hP hS hl
  have he := vwl_get (G := G) (sh := sh) (I := I) (L := L) (R := R) hi
  rw [vcell_r hs ht] at he
  obtain ⟨C, hC⟩ := vty_t (G := G) ht ht6
  refine va_aldq hc.1 hc.2.1 hc.2.2.2.2.2.2.1.1 hP.2 i t he hC (ix_in h0 h1) hd ?_
  have e1 : va_rf (vrf G (R i x.toNatClampNeg)) = .ref (ad G j) := by
    show va_rf (vrf G (R i x.toInt.toNat)) = _
    rw [hr]; rfl
  rw [e1]
  exact kk p e R0 s m args below meth c0 H locs ls hc hP hS hl
theorem V_alen {i N : Nat} {v : Int32} (hd : decode cc pc = .ok (.arraylength, 1)) (hi : i < n) (hs : sh i = (13, N)) (hv : Int32.ofNat N = v) (kk : V G own cc ret ini d MC MS nL post (pc + 1) lo (.int v :: st) ce sl n sh I L R) : V G own cc ret ini d MC MS nL post pc lo (.ref (ad G i) :: st) ce sl n sh I L R := by
  intro p e R0 s m args below meth c0 H locs ls hc hP hS hl
  have he := vwl_get (G := G) (sh := sh) (I := I) (L := L) (R := R) hi
  rw [vcell_i hs] at he
  exact va_alen hc.1 hc.2.1 hc.2.2.2.2.2.2.1.1 hP.2 i 0 he (ty := .int) rfl hv hd (kk p e R0 s m args below meth c0 H locs ls hc hP hS hl)
theorem V_iast {i N : Nat} {x y : Int32} (hd : decode cc pc = .ok (.iastore, 1)) (hi : i < n) (hs : sh i = (13, N)) (h0 : 0 ≤ x.toInt) (h1 : x.toInt < N) (kk : V G own cc ret ini d MC MS nL post (pc + 1) lo st ce sl n sh (up2 I i x.toInt.toNat y) L R) : V G own cc ret ini d MC MS nL post pc lo (.int y :: .int x :: .ref (ad G i) :: st) ce sl n sh I L R := by
  intro p e R0 s m args below meth c0 H locs ls hc hP hS hl
  have he := vwl_get (G := G) (sh := sh) (I := I) (L := L) (R := R) hi
  rw [vcell_i hs] at he
  refine W.iast hc.1 hc.2.1 (hP.2 i _ he) ((hc.2.2.2.2.2.2.1.1.2 0 _ rfl).1 N (fun j => .int (I i j))) (fun q => by cases q) (by show ¬ (x < 0 ∨ (arrV _ _ _).slots.size ≤ _); rw [arrV_size]; exact ix_in h0 h1) rfl rfl hd fun H1 e1 z oq => ?_
  have hP' := hP.2.set vwl_D he (e := .inl (G.2.2.2.2 0, N, .inl (upd (I i) x.toInt.toNat y))) (show H1[ad G i]? = some (vp_cell _ _) by
    rw [e1, vp_cell_i, vp_cell_i, arrV_store]
    congr 2
    funext q
    show updV _ x.toInt.toNat _ q = _
    by_cases hq : q = x.toInt.toNat
    · subst hq; simp [updV, upd]
    · rw [updV, upd, if_neg hq, if_neg hq]) oq
  rw [vwl_set (I' := up2 I i x.toInt.toNat y) (L' := L) (R' := R) (by rw [vcell_i hs, up2_upd]) (fun j h => vcell_eq (up2_o h) rfl rfl)] at hP'
  exact kk p e R0 s m args below meth c0 H1 _ ls hc ⟨z.trans hP.1, hP'⟩ (hS.put z oq (Nat.le_add_right _ _)) hl
theorem V_zast {i N : Nat} {x y : Int32} (hy : y = 0 ∨ y = 1) (hd : decode cc pc = .ok (.bastore, 1)) (hi : i < n) (hs : sh i = (14, N)) (h0 : 0 ≤ x.toInt) (h1 : x.toInt < N) (kk : V G own cc ret ini d MC MS nL post (pc + 1) lo st ce sl n sh (up2 I i x.toInt.toNat y) L R) : V G own cc ret ini d MC MS nL post pc lo (.int y :: .int x :: .ref (ad G i) :: st) ce sl n sh I L R := by
  intro p e R0 s m args below meth c0 H locs ls hc hP hS hl
  have he := vwl_get (G := G) (sh := sh) (I := I) (L := L) (R := R) hi
  rw [vcell_z hs] at he
  refine W.zast hc.1 hc.2.1 (hP.2 i _ he) ((hc.2.2.2.2.2.2.1.1.2 1 _ rfl).1 N (fun j => .int (I i j))) (fun q => by cases q) (by show ¬ (x < 0 ∨ (arrV _ _ _).slots.size ≤ _); rw [arrV_size]; exact ix_in h0 h1) rfl rfl hd fun H1 e1 z oq => ?_
  have hny : narrow .boolean (.int y) = .int y := by rcases hy with rfl | rfl <;> rfl
  rw [hny] at e1
  have hP' := hP.2.set vwl_D he (e := .inl (G.2.2.2.2 1, N, .inl (upd (I i) x.toInt.toNat y))) (show H1[ad G i]? = some (vp_cell _ _) by
    rw [e1, vp_cell_i, vp_cell_i, arrV_store]
    congr 2
    funext q
    show updV _ x.toInt.toNat _ q = _
    by_cases hq : q = x.toInt.toNat
    · subst hq; simp [updV, upd]
    · rw [updV, upd, if_neg hq, if_neg hq]) oq
  rw [vwl_set (I' := up2 I i x.toInt.toNat y) (L' := L) (R' := R) (by rw [vcell_z hs, up2_upd]) (fun j h => vcell_eq (up2_o h) rfl rfl)] at hP'
  exact kk p e R0 s m args below meth c0 H1 _ ls hc ⟨z.trans hP.1, hP'⟩ (hS.put z oq (Nat.le_add_right _ _)) hl
end VH
