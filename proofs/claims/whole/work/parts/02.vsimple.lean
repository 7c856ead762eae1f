-- the launch, the first address of ours, the classes' numbers and slots, the array classes' numbers
-- the tables' words that stay good over a call
def vT : List Cond := lw_tbl.filter goodWord
abbrev vG : Type := Launch × Nat × (Nat → ClassId) × (Nat → Nat → Nat) × (Nat → ClassId)
abbrev vS : Type := Nat → Nat × Nat
abbrev vI : Type := Nat → Nat → Int32
abbrev vL : Type := Nat → Nat → Int64
abbrev vR : Type := Nat → Nat → Option Nat
abbrev PT : Type := Option Value → Nat → vS → vI → vL → vR → Prop
def ad (G : vG) (i : Nat) : Nat := G.2.1 + i
theorem ad_inj {G : vG} {i j : Nat} (h : ad G i = ad G j) : i = j := Nat.add_left_cancel h
def vrf (G : vG) (r : Option Nat) : Option Nat := r.map (ad G)
def up2 {α : Type} (f : Nat → Nat → α) (i k : Nat) (v : α) : Nat → Nat → α := fun a b => if a = i ∧ b = k then v else f a b
def uph {α : Type} (f : Nat → α) (i : Nat) (v : α) : Nat → α := fun a => if a = i then v else f a
abbrev vty (G : vG) : List (ClassId × FieldType) := [(G.2.2.2.2 0, .int), (G.2.2.2.2 1, .boolean), (G.2.2.2.2 2, .object RX7), (G.2.2.2.2 3, .object RX2), (G.2.2.2.2 4, .object RX1), (G.2.2.2.2 5, .object RX9)]
-- words that want their own care over a call: links to private members of nest mates, casts, arrays of references
def vNest : List (String × Nat × MethodName × String) := [("RegularRally", 19, ⟨"RegularRally$Book", "<init>", "()V"⟩, "RegularRally"), ("RegularRally", 26, ⟨"RegularRally$Search", "<init>", "()V"⟩, "RegularRally"), ("RegularRally", 33, ⟨"RegularRally$Way", "<init>", "()V"⟩, "RegularRally"), ("RegularRally", 56, ⟨"RegularRally$Sheet", "<init>", "()V"⟩, "RegularRally"), ("RegularRally$Ford", 17, ⟨"RegularRally", "leaveNumber", "(I)V"⟩, "RegularRally"), ("RegularRally$OneWay", 19, ⟨"RegularRally", "leaveNumber", "(I)V"⟩, "RegularRally"), ("RegularRally$Road", 32, ⟨"RegularRally", "leaveNumber", "(I)V"⟩, "RegularRally"), ("RegularRally$Novice", 19, ⟨"RegularRally", "leaveNumber", "(I)V"⟩, "RegularRally"), ("RegularRally$Old", 7, ⟨"RegularRally", "leaveNumber", "(I)V"⟩, "RegularRally"), ("RegularRally$Car", 31, ⟨"RegularRally", "leaveNumber", "(I)V"⟩, "RegularRally")]
def vCa : List (String × String) := [(RX4, RX5), (RX4, RX1), (RX5, RX1), (RX6, RX7), (RX3, RX7)]
def vNca : List (String × String) := [(RX7, RX3), (RX6, RX3), (RX1, RX5), (RX1, RX4), (RX5, RX4)]
def vAOs : List String := [RX7, RX2, RX1, RX9]
def vX (U : State) : Prop := (∀ q ∈ vNest, va_Nw (.methodLinkNest q.1 q.2.1 q.2.2.1 q.2.2.2) U) ∧ (∀ q ∈ vCa, va_Nw (.castable q.1 q.2) U) ∧ (∀ q ∈ vNca, va_Nc q.1 q.2 U) ∧ ∀ C ∈ vAOs, va_AO C U
theorem vX_same {u U : State} (h : u.vm = U.vm) (x : vX u) : vX U := ⟨fun q hq => va_Nw.same rfl h (x.1 q hq), fun q hq => va_Nw.same rfl h (x.2.1 q hq), fun q hq => va_Nc.moved (h ▸ Vm.Alike.refl u.vm) (x.2.2.1 q hq), fun C hC => va_AO.moved (h ▸ Vm.Alike.refl u.vm) (x.2.2.2 C hC)⟩
theorem vX_warm {s U : State} (hW : s.WarmedH U.vm) (x : vX s) : vX U := ⟨fun q hq => va_Nw.warmM hW (x.1 q hq), fun q hq => va_Nw.warmC hW (x.2.1 q hq), fun q hq => va_Nc.moved hW.alike (x.2.2.1 q hq), fun C hC => va_AO.moved hW.alike (x.2.2.2 C hC)⟩
def vK (G : vG) (U : State) : Prop := va_K (G.2.2.1, G.2.2.2.1) vwCl (vty G) U ∧ vX U
theorem vK_warm {G : vG} {s U : State} (hW : s.WarmedH U.vm) (h : vK G s) : vK G U := ⟨va_K.moved hW.alike h.1, vX_warm hW h.2⟩
theorem vK_same {G : vG} {s U : State} (e : s.vm = U.vm) (h : vK G s) : vK G U := ⟨va_K.moved (e ▸ Vm.Alike.refl s.vm) h.1, vX_same e h.2⟩
/-- the kinds of a class's fields: 0 a number of 32 bits, 1 of 64, 2 a reference -/
def fT : Nat → List Nat
  | 0 => [2, 0]
  | 1 => [0, 0, 2, 2, 0, 2]
  | 2 => [0, 0, 0, 1, 0, 1]
  | 3 => [0, 0, 0, 0, 0, 0]
  | 4 => [0, 0, 2, 2, 0, 2]
  | 5 => [0, 0, 2, 2, 0, 2]
  | 6 => [0, 0, 0, 0, 0]
  | 7 => [0, 0, 0, 0, 0]
  | 8 => [2, 2, 2, 2, 2, 2, 0, 0, 0, 2, 0, 0, 0]
  | 9 => [2, 0, 0, 0]
  | 10 => [2, 2, 0, 0, 2, 2, 0]
  | 11 => [2, 0, 2, 2, 2, 2, 0, 2, 0, 2, 0, 0]
  | 12 => [0, 0, 2, 2, 2, 2, 2, 2, 2, 2, 2, 2, 0, 2, 0, 0, 0, 2, 0, 0, 2, 2, 2, 2, 0, 0, 2, 0, 2, 2, 0, 2, 2, 2, 2, 0, 2, 2, 0, 2, 2, 2, 0]
  | _ => []
def fv (G : vG) (Ii : Nat → Int32) (Li : Nat → Int64) (Ri : Nat → Option Nat) (k t : Nat) : Value := if t = 0 then .int (Ii k) else if t = 1 then .long (Li k) else va_rf (vrf G (Ri k))
def rdl (G : vG) (Ii : Nat → Int32) (Li : Nat → Int64) (Ri : Nat → Option Nat) : Nat → List Nat → List Value
  | _, [] => []
  | k, t :: ts => fv G Ii Li Ri k t :: rdl G Ii Li Ri (k + 1) ts
theorem rdl_get {G : vG} {Ii : Nat → Int32} {Li : Nat → Int64} {Ri : Nat → Option Nat} : ∀ (ts : List Nat) (j k : Nat), (rdl G Ii Li Ri j ts)[k]? = ts[k]?.map (fun t => fv G Ii Li Ri (j + k) t)
  | [], j, k => by simp [rdl]
  | t :: ts, j, 0 => by simp [rdl]
  | t :: ts, j, k + 1 => by
    have := rdl_get (G := G) (Ii := Ii) (Li := Li) (Ri := Ri) ts (j + 1) k
    simp only [rdl, List.getElem?_cons_succ, this]
    congr 1
    funext t
    congr 1
    omega
theorem rdl_len {G : vG} {Ii : Nat → Int32} {Li : Nat → Int64} {Ri : Nat → Option Nat} : ∀ (ts : List Nat) (j : Nat), (rdl G Ii Li Ri j ts).length = ts.length
  | [], j => rfl
  | t :: ts, j => by simp [rdl, rdl_len ts (j + 1)]
theorem rdl_set {G : vG} {Ii Ii' : Nat → Int32} {Li Li' : Nat → Int64} {Ri Ri' : Nat → Option Nat} {ts : List Nat} {k t : Nat} {v : Value} (ht : ts[k]? = some t) (hv : fv G Ii' Li' Ri' k t = v) (ho : ∀ j u, j ≠ k → ts[j]? = some u → fv G Ii' Li' Ri' j u = fv G Ii Li Ri j u) : (rdl G Ii Li Ri 0 ts).set k v = rdl G Ii' Li' Ri' 0 ts := by
  apply List.ext_getElem?
  intro j
  rw [rdl_get, List.getElem?_set, rdl_get, rdl_len]
  have hk : k < ts.length := (List.getElem?_eq_some_iff.mp ht).1
  by_cases h : k = j
  · subst h
    rw [if_pos rfl, if_pos hk, ht, ← hv]
    simp
  · rw [if_neg h]
    cases hu : ts[j]? with
    | none => rfl
    | some u => simp [ho j u (Ne.symm h) hu]
def vcell (G : vG) (sh : vS) (I : vI) (L : vL) (R : vR) (i : Nat) : va_E := if (sh i).1 < 13 then .inr ((sh i).1, rdl G (I i) (L i) (R i) 0 (fT (sh i).1)) else .inl (G.2.2.2.2 ((sh i).1 - 13), (sh i).2, if (sh i).1 < 15 then .inl (I i) else .inr (.inr (.inr (.inr (fun k => vrf G (R i k))))))
def vwl (G : vG) (n : Nat) (sh : vS) (I : vI) (L : vL) (R : vR) : va_W := (List.range n).map (fun i => (ad G i, vcell G sh I L R i))
def vRp (G : vG) (n : Nat) (sh : vS) (I : vI) (L : vL) (R : vR) (H : Heap) : Prop := H.size = ad G n ∧ va_P (G.2.2.1, G.2.2.2.1) vwCl (vwl G n sh I L R) H
def vA (G : vG) : Nat → Prop := fun q => G.2.1 ≤ q
theorem vwl_get {G : vG} {n : Nat} {sh : vS} {I : vI} {L : vL} {R : vR} {i : Nat} (h : i < n) : (vwl G n sh I L R)[i]? = some (ad G i, vcell G sh I L R i) := by
  simp [vwl, h]
theorem vwl_at {G : vG} {n : Nat} {sh : vS} {I : vI} {L : vL} {R : vR} {k : Nat} {q : Nat × va_E} (h : (vwl G n sh I L R)[k]? = some q) : k < n ∧ q = (ad G k, vcell G sh I L R k) := by
  have hk : k < n := by
    have := (List.getElem?_eq_some_iff.mp h).1
    simpa [vwl] using this
  rw [vwl_get hk] at h
  exact ⟨hk, (Option.some.inj h).symm⟩
theorem vwl_D {G : vG} {n : Nat} {sh : vS} {I : vI} {L : vL} {R : vR} : va_D (vA G) (vwl G n sh I L R) := by
  refine ⟨fun i j p q h1 h2 h3 => ?_, fun k q h => ?_⟩
  · rw [(vwl_at h1).2, (vwl_at h2).2] at h3
    exact ad_inj h3
  · rw [(vwl_at h).2]
    exact Nat.le_add_right _ _
theorem vwl_set {G : vG} {n : Nat} {sh : vS} {I I' : vI} {L L' : vL} {R R' : vR} {i : Nat} {e : va_E} (he : vcell G sh I' L' R' i = e) (ho : ∀ j, j ≠ i → vcell G sh I' L' R' j = vcell G sh I L R j) : (vwl G n sh I L R).set i (ad G i, e) = vwl G n sh I' L' R' := by
  apply List.ext_getElem?
  intro j
  rw [List.getElem?_set]
  by_cases h : i = j
  · subst h
    rw [if_pos rfl]
    have hlen : (vwl G n sh I L R).length = n := by simp [vwl]
    by_cases hn : i < n
    · rw [if_pos (by rw [hlen]; exact hn), vwl_get (I := I') (L := L') (R := R') hn, he]
    · rw [if_neg (by rw [hlen]; exact hn), List.getElem?_eq_none (by simp [vwl]; omega)]
  · rw [if_neg h]
    by_cases hn : j < n
    · rw [vwl_get hn, vwl_get hn, ho j (Ne.symm h)]
    · rw [List.getElem?_eq_none (by simp [vwl]; omega), List.getElem?_eq_none (by simp [vwl]; omega)]
theorem vwl_push {G : vG} {n : Nat} {sh sh' : vS} {I I' : vI} {L L' : vL} {R R' : vR} {e : va_E} (he : vcell G sh' I' L' R' n = e) (ho : ∀ j, j < n → vcell G sh' I' L' R' j = vcell G sh I L R j) : vwl G n sh I L R ++ [(ad G n, e)] = vwl G (n + 1) sh' I' L' R' := by
  apply List.ext_getElem?
  intro j
  by_cases hn : j < n
  · rw [List.getElem?_append_left (by simpa [vwl] using hn), vwl_get hn, vwl_get (Nat.lt_succ_of_lt hn), ho j hn]
  · rw [List.getElem?_append_right (by simpa [vwl] using Nat.le_of_not_lt hn)]
    by_cases h : j = n
    · subst h
      rw [vwl_get (Nat.lt_succ_self j), he]; simp [vwl]
    · rw [List.getElem?_eq_none (by simp [vwl]; omega), List.getElem?_eq_none (by simp [vwl]; omega)]
def QV (G : vG) (post : PT) : Array Value → State → Outcome → State → Prop := fun _ st oc t => (∃ (r : Option Value) (n : Nat) (sh : vS) (I : vI) (L : vL) (R : vR), oc = .returned r ∧ post r n sh I L R ∧ vRp G n sh I L R t.heap) ∧ va_F (vA G) st t
/-- what holds all along a method's walk -/
def CX (G : vG) (own : String) (cc : ByteArray) (ret : Option FieldType) (ini : Bool) (d MC MS nL : Nat) (p : Program) (R0 : Room) (s : State) (m : MethodId) (args : Array Value) (meth : Method) (c : Code) : Prop :=
  p.tables.exec = Jvm.exec ∧ c.code = cc ∧ meth.sig.returnType = ret ∧ c.maxLocals = nL ∧ s.vm.findClass own = some m.cls ∧ (∀ w ∈ vT, w.before args s = true) ∧ vK G s ∧ meth.locks = false ∧ (ini = true → meth.name = "<init>") ∧ d ≤ R0.frames ∧ 40 * d ≤ R0.locals ∧ MC ≤ R0.cells ∧ MS ≤ R0.slots ∧ G.2.1 ≤ s.heap.size
def V (G : vG) (own : String) (cc : ByteArray) (ret : Option FieldType) (ini : Bool) (d MC MS nL : Nat) (post : PT) (pc : Nat) (lo : List (Nat × Value)) (st : List Value) (ce sl n : Nat) (sh : vS) (I : vI) (L : vL) (R : vR) : Prop :=
  ∀ (p : Program) (e : Env) (R0 : Room) (s : State) (m : MethodId) (args : Array Value) (below : List Frame) (meth : Method) (c : Code) (H : Heap) (locs : List Loc) (ls : Array Slot),
    CX G own cc ret ini d MC MS nL p R0 s m args meth c → vRp G n sh I L R H → va_S (vA G) s.heap H locs → lv_has ls nL lo → W p G.1 e R0 s m args below meth c H locs ce sl (MQ below (QV G post) args s MC MS (vA G)) (F0 m pc ls st)
def lins (p : Nat × Value) : List (Nat × Value) → List (Nat × Value)
  | [] => [p]
  | q :: t => if p.1 < q.1 then p :: q :: t else q :: lins p t
theorem lins_mem {p : Nat × Value} : ∀ {l : List (Nat × Value)} {q : Nat × Value}, q ∈ lins p l → q = p ∨ q ∈ l
  | [], q, h => by simpa [lins] using h
  | a :: t, q, h => by
    unfold lins at h
    split at h
    · simpa using h
    · rcases List.mem_cons.mp h with h | h
      · exact Or.inr (by simp [h])
      · rcases lins_mem h with h | h
        · exact Or.inl h
        · exact Or.inr (List.mem_cons_of_mem _ h)
theorem lins_has {ls : Array Slot} {nL : Nat} {p : Nat × Value} {l : List (Nat × Value)} (h : lv_has ls nL (p :: l)) : lv_has ls nL (lins p l) :=
  ⟨h.1, h.2.1, fun q hq => h.2.2 q (by rcases lins_mem hq with h | h; exact h ▸ List.mem_cons_self; exact List.mem_cons_of_mem _ h)⟩
def lf1 (i : Nat) (lo : List (Nat × Value)) : List (Nat × Value) := lo.filter (fun q => !(q.1 == i) && !(q.1 + 1 == i && q.2.category == 2))
def lf2 (i : Nat) (lo : List (Nat × Value)) : List (Nat × Value) := lo.filter (fun q => !(q.1 == i) && (!(q.1 == i + 1) && !(q.1 + 1 == i && q.2.category == 2)))
section VV
variable {G : vG} {own : String} {cc : ByteArray} {ret : Option FieldType} {ini : Bool} {d MC MS nL : Nat} {post : PT} {pc : Nat} {lo : List (Nat × Value)} {st : List Value} {ce sl n : Nat} {sh : vS} {I : vI} {L : vL} {R : vR}
theorem V_iconst {q : Int} {v : Int32} (hd : decode cc pc = .ok (.iconst q, 1)) (hv : Int32.ofInt q = v) (k : V G own cc ret ini d MC MS nL post (pc + 1) lo (.int v :: st) ce sl n sh I L R) : V G own cc ret ini d MC MS nL post pc lo (st) ce sl n sh I L R := by
  intro p e R0 s m args below meth c H locs ls hc hP hS hl
  exact lv_iconst hc.1 hc.2.1 hd hv (k p e R0 s m args below meth c H locs ls hc hP hS hl)
theorem V_bipush {q : Int} {v : Int32} (hd : decode cc pc = .ok (.bipush q, 2)) (hv : (Int8.ofInt q).toInt32 = v) (k : V G own cc ret ini d MC MS nL post (pc + 2) lo (.int v :: st) ce sl n sh I L R) : V G own cc ret ini d MC MS nL post pc lo (st) ce sl n sh I L R := by
  intro p e R0 s m args below meth c H locs ls hc hP hS hl
  exact lv_bipush hc.1 hc.2.1 hd hv (k p e R0 s m args below meth c H locs ls hc hP hS hl)
theorem V_sipush {q : Int} {v : Int32} (hd : decode cc pc = .ok (.sipush q, 3)) (hv : (Int16.ofInt q).toInt32 = v) (k : V G own cc ret ini d MC MS nL post (pc + 3) lo (.int v :: st) ce sl n sh I L R) : V G own cc ret ini d MC MS nL post pc lo (st) ce sl n sh I L R := by
  intro p e R0 s m args below meth c H locs ls hc hP hS hl
  exact lv_sipush hc.1 hc.2.1 hd hv (k p e R0 s m args below meth c H locs ls hc hP hS hl)
theorem V_lconst {q : Fin 2} {v : Int64} (hd : decode cc pc = .ok (.lconst q, 1)) (hv : Int64.ofNat (q : Nat) = v) (k : V G own cc ret ini d MC MS nL post (pc + 1) lo (.long v :: st) ce sl n sh I L R) : V G own cc ret ini d MC MS nL post pc lo (st) ce sl n sh I L R := by
  intro p e R0 s m args below meth c H locs ls hc hP hS hl
  exact lv_lconst hc.1 hc.2.1 hd hv (k p e R0 s m args below meth c H locs ls hc hP hS hl)
theorem V_iload_n {q : Fin 4} (j : Nat) {i : Nat} {x : Int32} (hd : decode cc pc = .ok (.iload_n q, 1)) (hi : (q : Nat) = i) (hj : lo[j]? = some (i, .int x)) (k : V G own cc ret ini d MC MS nL post (pc + 1) lo (.int x :: st) ce sl n sh I L R) : V G own cc ret ini d MC MS nL post pc lo (st) ce sl n sh I L R := by
  intro p e R0 s m args below meth c H locs ls hc hP hS hl
  exact lv_iload_n hc.1 hc.2.1 hd hi (lv_at hl j hj) (k p e R0 s m args below meth c H locs ls hc hP hS hl)
theorem V_iload (j : Nat) {i : Nat} {x : Int32} (hd : decode cc pc = .ok (.iload i, 2)) (hj : lo[j]? = some (i, .int x)) (k : V G own cc ret ini d MC MS nL post (pc + 2) lo (.int x :: st) ce sl n sh I L R) : V G own cc ret ini d MC MS nL post pc lo (st) ce sl n sh I L R := by
  intro p e R0 s m args below meth c H locs ls hc hP hS hl
  exact lv_iload hc.1 hc.2.1 hd (lv_at hl j hj) (k p e R0 s m args below meth c H locs ls hc hP hS hl)
theorem V_lload_n {q : Fin 4} (j : Nat) {i : Nat} {x : Int64} (hd : decode cc pc = .ok (.lload_n q, 1)) (hi : (q : Nat) = i) (hj : lo[j]? = some (i, .long x)) (k : V G own cc ret ini d MC MS nL post (pc + 1) lo (.long x :: st) ce sl n sh I L R) : V G own cc ret ini d MC MS nL post pc lo (st) ce sl n sh I L R := by
  intro p e R0 s m args below meth c H locs ls hc hP hS hl
  exact lv_lload_n hc.1 hc.2.1 hd hi (lv_at hl j hj) (k p e R0 s m args below meth c H locs ls hc hP hS hl)
theorem V_lload (j : Nat) {i : Nat} {x : Int64} (hd : decode cc pc = .ok (.lload i, 2)) (hj : lo[j]? = some (i, .long x)) (k : V G own cc ret ini d MC MS nL post (pc + 2) lo (.long x :: st) ce sl n sh I L R) : V G own cc ret ini d MC MS nL post pc lo (st) ce sl n sh I L R := by
  intro p e R0 s m args below meth c H locs ls hc hP hS hl
  exact lv_lload hc.1 hc.2.1 hd (lv_at hl j hj) (k p e R0 s m args below meth c H locs ls hc hP hS hl)
theorem V_aload_n {q : Fin 4} (j : Nat) {i : Nat} {x : Nat} (hd : decode cc pc = .ok (.aload_n q, 1)) (hi : (q : Nat) = i) (hj : lo[j]? = some (i, .ref x)) (k : V G own cc ret ini d MC MS nL post (pc + 1) lo (.ref x :: st) ce sl n sh I L R) : V G own cc ret ini d MC MS nL post pc lo (st) ce sl n sh I L R := by
  intro p e R0 s m args below meth c H locs ls hc hP hS hl
  exact lv_aload_n hc.1 hc.2.1 hd hi (lv_at hl j hj) (k p e R0 s m args below meth c H locs ls hc hP hS hl)
theorem V_aload (j : Nat) {i : Nat} {x : Nat} (hd : decode cc pc = .ok (.aload i, 2)) (hj : lo[j]? = some (i, .ref x)) (k : V G own cc ret ini d MC MS nL post (pc + 2) lo (.ref x :: st) ce sl n sh I L R) : V G own cc ret ini d MC MS nL post pc lo (st) ce sl n sh I L R := by
  intro p e R0 s m args below meth c H locs ls hc hP hS hl
  exact lv_aload hc.1 hc.2.1 hd (lv_at hl j hj) (k p e R0 s m args below meth c H locs ls hc hP hS hl)
theorem V_aload_nN {q : Fin 4} (j : Nat) {i : Nat} (hd : decode cc pc = .ok (.aload_n q, 1)) (hi : (q : Nat) = i) (hj : lo[j]? = some (i, .null)) (k : V G own cc ret ini d MC MS nL post (pc + 1) lo (.null :: st) ce sl n sh I L R) : V G own cc ret ini d MC MS nL post pc lo (st) ce sl n sh I L R := by
  intro p e R0 s m args below meth c H locs ls hc hP hS hl
  exact lv_aload_nN hc.1 hc.2.1 hd hi (lv_at hl j hj) (k p e R0 s m args below meth c H locs ls hc hP hS hl)
theorem V_aloadN (j : Nat) {i : Nat} (hd : decode cc pc = .ok (.aload i, 2)) (hj : lo[j]? = some (i, .null)) (k : V G own cc ret ini d MC MS nL post (pc + 2) lo (.null :: st) ce sl n sh I L R) : V G own cc ret ini d MC MS nL post pc lo (st) ce sl n sh I L R := by
  intro p e R0 s m args below meth c H locs ls hc hP hS hl
  exact lv_aloadN hc.1 hc.2.1 hd (lv_at hl j hj) (k p e R0 s m args below meth c H locs ls hc hP hS hl)
theorem V_istore_n {q : Fin 4} {x : Int32} {i : Nat} {lo' : List (Nat × Value)} (hd : decode cc pc = .ok (.istore_n q, 1)) (hi : (q : Nat) = i) (hn : i < nL) (hq : lins (i, .int x) (lf1 i lo) = lo') (k : V G own cc ret ini d MC MS nL post (pc + 1) lo' st ce sl n sh I L R) : V G own cc ret ini d MC MS nL post pc lo (.int x :: st) ce sl n sh I L R := by
  intro p e R0 s m args below meth c H locs ls hc hP hS hl
  subst hq
  exact lv_istore_n hc.1 hc.2.1 hd hi hl hn rfl (fun ls1 h1 => k p e R0 s m args below meth c H locs ls1 hc hP hS (lins_has h1))
theorem V_istore {x : Int32} {i : Nat} {lo' : List (Nat × Value)} (hd : decode cc pc = .ok (.istore i, 2))  (hn : i < nL) (hq : lins (i, .int x) (lf1 i lo) = lo') (k : V G own cc ret ini d MC MS nL post (pc + 2) lo' st ce sl n sh I L R) : V G own cc ret ini d MC MS nL post pc lo (.int x :: st) ce sl n sh I L R := by
  intro p e R0 s m args below meth c H locs ls hc hP hS hl
  subst hq
  exact lv_istore hc.1 hc.2.1 hd  hl hn rfl (fun ls1 h1 => k p e R0 s m args below meth c H locs ls1 hc hP hS (lins_has h1))
theorem V_lstore_n {q : Fin 4} {x : Int64} {i : Nat} {lo' : List (Nat × Value)} (hd : decode cc pc = .ok (.lstore_n q, 1)) (hi : (q : Nat) = i) (hn : i + 1 < nL) (hq : lins (i, .long x) (lf2 i lo) = lo') (k : V G own cc ret ini d MC MS nL post (pc + 1) lo' st ce sl n sh I L R) : V G own cc ret ini d MC MS nL post pc lo (.long x :: st) ce sl n sh I L R := by
  intro p e R0 s m args below meth c H locs ls hc hP hS hl
  subst hq
  exact lv_lstore_n hc.1 hc.2.1 hd hi hl hn rfl (fun ls1 h1 => k p e R0 s m args below meth c H locs ls1 hc hP hS (lins_has h1))
theorem V_lstore {x : Int64} {i : Nat} {lo' : List (Nat × Value)} (hd : decode cc pc = .ok (.lstore i, 2))  (hn : i + 1 < nL) (hq : lins (i, .long x) (lf2 i lo) = lo') (k : V G own cc ret ini d MC MS nL post (pc + 2) lo' st ce sl n sh I L R) : V G own cc ret ini d MC MS nL post pc lo (.long x :: st) ce sl n sh I L R := by
  intro p e R0 s m args below meth c H locs ls hc hP hS hl
  subst hq
  exact lv_lstore hc.1 hc.2.1 hd  hl hn rfl (fun ls1 h1 => k p e R0 s m args below meth c H locs ls1 hc hP hS (lins_has h1))
theorem V_astore_n {q : Fin 4} {x : Nat} {i : Nat} {lo' : List (Nat × Value)} (hd : decode cc pc = .ok (.astore_n q, 1)) (hi : (q : Nat) = i) (hn : i < nL) (hq : lins (i, .ref x) (lf1 i lo) = lo') (k : V G own cc ret ini d MC MS nL post (pc + 1) lo' st ce sl n sh I L R) : V G own cc ret ini d MC MS nL post pc lo (.ref x :: st) ce sl n sh I L R := by
  intro p e R0 s m args below meth c H locs ls hc hP hS hl
  subst hq
  exact lv_astore_n hc.1 hc.2.1 hd hi hl hn rfl (fun ls1 h1 => k p e R0 s m args below meth c H locs ls1 hc hP hS (lins_has h1))
theorem V_astore {x : Nat} {i : Nat} {lo' : List (Nat × Value)} (hd : decode cc pc = .ok (.astore i, 2))  (hn : i < nL) (hq : lins (i, .ref x) (lf1 i lo) = lo') (k : V G own cc ret ini d MC MS nL post (pc + 2) lo' st ce sl n sh I L R) : V G own cc ret ini d MC MS nL post pc lo (.ref x :: st) ce sl n sh I L R := by
  intro p e R0 s m args below meth c H locs ls hc hP hS hl
  subst hq
  exact lv_astore hc.1 hc.2.1 hd  hl hn rfl (fun ls1 h1 => k p e R0 s m args below meth c H locs ls1 hc hP hS (lins_has h1))
theorem V_astore_nN {q : Fin 4} {i : Nat} {lo' : List (Nat × Value)} (hd : decode cc pc = .ok (.astore_n q, 1)) (hi : (q : Nat) = i) (hn : i < nL) (hq : lins (i, .null) (lf1 i lo) = lo') (k : V G own cc ret ini d MC MS nL post (pc + 1) lo' st ce sl n sh I L R) : V G own cc ret ini d MC MS nL post pc lo (.null :: st) ce sl n sh I L R := by
  intro p e R0 s m args below meth c H locs ls hc hP hS hl
  subst hq
  exact lv_astore_nN hc.1 hc.2.1 hd hi hl hn rfl (fun ls1 h1 => k p e R0 s m args below meth c H locs ls1 hc hP hS (lins_has h1))
theorem V_astoreN  {i : Nat} {lo' : List (Nat × Value)} (hd : decode cc pc = .ok (.astore i, 2))  (hn : i < nL) (hq : lins (i, .null) (lf1 i lo) = lo') (k : V G own cc ret ini d MC MS nL post (pc + 2) lo' st ce sl n sh I L R) : V G own cc ret ini d MC MS nL post pc lo (.null :: st) ce sl n sh I L R := by
  intro p e R0 s m args below meth c H locs ls hc hP hS hl
  subst hq
  exact lv_astoreN hc.1 hc.2.1 hd  hl hn rfl (fun ls1 h1 => k p e R0 s m args below meth c H locs ls1 hc hP hS (lins_has h1))
theorem V_iinc (j : Nat) {i : Nat} {q : Int} {x v : Int32} {lo' : List (Nat × Value)} (hd : decode cc pc = .ok (.iinc i q, 3)) (hj : lo[j]? = some (i, .int x)) (hv : x + Int32.ofInt q = v) (hn : i < nL) (hq : lins (i, .int v) (lf1 i lo) = lo') (k : V G own cc ret ini d MC MS nL post (pc + 3) lo' st ce sl n sh I L R) : V G own cc ret ini d MC MS nL post pc lo st ce sl n sh I L R := by
  intro p e R0 s m args below meth c H locs ls hc hP hS hl
  subst hq
  exact lv_iinc hc.1 hc.2.1 hd hl hj hv hn rfl (fun ls1 h1 => k p e R0 s m args below meth c H locs ls1 hc hP hS (lins_has h1))
theorem V_iadd {x y : Int32} (hd : decode cc pc = .ok (.iadd, 1))  (k : ∀ z : Int32, z = x + y → V G own cc ret ini d MC MS nL post (pc + 1) lo (.int z :: st) ce sl n sh I L R) : V G own cc ret ini d MC MS nL post pc lo (.int y :: .int x :: st) ce sl n sh I L R := by
  intro p e R0 s m args below meth c H locs ls hc hP hS hl
  exact lv_iadd hc.1 hc.2.1 hd  (k _ rfl p e R0 s m args below meth c H locs ls hc hP hS hl)
theorem V_isub {x y : Int32} (hd : decode cc pc = .ok (.isub, 1))  (k : ∀ z : Int32, z = x - y → V G own cc ret ini d MC MS nL post (pc + 1) lo (.int z :: st) ce sl n sh I L R) : V G own cc ret ini d MC MS nL post pc lo (.int y :: .int x :: st) ce sl n sh I L R := by
  intro p e R0 s m args below meth c H locs ls hc hP hS hl
  exact lv_isub hc.1 hc.2.1 hd  (k _ rfl p e R0 s m args below meth c H locs ls hc hP hS hl)
theorem V_imul {x y : Int32} (hd : decode cc pc = .ok (.imul, 1))  (k : ∀ z : Int32, z = x * y → V G own cc ret ini d MC MS nL post (pc + 1) lo (.int z :: st) ce sl n sh I L R) : V G own cc ret ini d MC MS nL post pc lo (.int y :: .int x :: st) ce sl n sh I L R := by
  intro p e R0 s m args below meth c H locs ls hc hP hS hl
  exact lv_imul hc.1 hc.2.1 hd  (k _ rfl p e R0 s m args below meth c H locs ls hc hP hS hl)
theorem V_iand {x y : Int32} (hd : decode cc pc = .ok (.iand, 1))  (k : ∀ z : Int32, z = x &&& y → V G own cc ret ini d MC MS nL post (pc + 1) lo (.int z :: st) ce sl n sh I L R) : V G own cc ret ini d MC MS nL post pc lo (.int y :: .int x :: st) ce sl n sh I L R := by
  intro p e R0 s m args below meth c H locs ls hc hP hS hl
  exact lv_iand hc.1 hc.2.1 hd  (k _ rfl p e R0 s m args below meth c H locs ls hc hP hS hl)
theorem V_ior {x y : Int32} (hd : decode cc pc = .ok (.ior, 1))  (k : ∀ z : Int32, z = x ||| y → V G own cc ret ini d MC MS nL post (pc + 1) lo (.int z :: st) ce sl n sh I L R) : V G own cc ret ini d MC MS nL post pc lo (.int y :: .int x :: st) ce sl n sh I L R := by
  intro p e R0 s m args below meth c H locs ls hc hP hS hl
  exact lv_ior hc.1 hc.2.1 hd  (k _ rfl p e R0 s m args below meth c H locs ls hc hP hS hl)
theorem V_ixor {x y : Int32} (hd : decode cc pc = .ok (.ixor, 1))  (k : ∀ z : Int32, z = x ^^^ y → V G own cc ret ini d MC MS nL post (pc + 1) lo (.int z :: st) ce sl n sh I L R) : V G own cc ret ini d MC MS nL post pc lo (.int y :: .int x :: st) ce sl n sh I L R := by
  intro p e R0 s m args below meth c H locs ls hc hP hS hl
  exact lv_ixor hc.1 hc.2.1 hd  (k _ rfl p e R0 s m args below meth c H locs ls hc hP hS hl)
theorem V_ishl {x y : Int32} (hd : decode cc pc = .ok (.ishl, 1))  (k : ∀ z : Int32, z = x <<< (y &&& 31) → V G own cc ret ini d MC MS nL post (pc + 1) lo (.int z :: st) ce sl n sh I L R) : V G own cc ret ini d MC MS nL post pc lo (.int y :: .int x :: st) ce sl n sh I L R := by
  intro p e R0 s m args below meth c H locs ls hc hP hS hl
  exact lv_ishl hc.1 hc.2.1 hd  (k _ rfl p e R0 s m args below meth c H locs ls hc hP hS hl)
theorem V_ishr {x y : Int32} (hd : decode cc pc = .ok (.ishr, 1))  (k : ∀ z : Int32, z = x >>> (y &&& 31) → V G own cc ret ini d MC MS nL post (pc + 1) lo (.int z :: st) ce sl n sh I L R) : V G own cc ret ini d MC MS nL post pc lo (.int y :: .int x :: st) ce sl n sh I L R := by
  intro p e R0 s m args below meth c H locs ls hc hP hS hl
  exact lv_ishr hc.1 hc.2.1 hd  (k _ rfl p e R0 s m args below meth c H locs ls hc hP hS hl)
theorem V_ladd {x y : Int64} (hd : decode cc pc = .ok (.ladd, 1))  (k : ∀ z : Int64, z = x + y → V G own cc ret ini d MC MS nL post (pc + 1) lo (.long z :: st) ce sl n sh I L R) : V G own cc ret ini d MC MS nL post pc lo (.long y :: .long x :: st) ce sl n sh I L R := by
  intro p e R0 s m args below meth c H locs ls hc hP hS hl
  exact lv_ladd hc.1 hc.2.1 hd  (k _ rfl p e R0 s m args below meth c H locs ls hc hP hS hl)
theorem V_lsub {x y : Int64} (hd : decode cc pc = .ok (.lsub, 1))  (k : ∀ z : Int64, z = x - y → V G own cc ret ini d MC MS nL post (pc + 1) lo (.long z :: st) ce sl n sh I L R) : V G own cc ret ini d MC MS nL post pc lo (.long y :: .long x :: st) ce sl n sh I L R := by
  intro p e R0 s m args below meth c H locs ls hc hP hS hl
  exact lv_lsub hc.1 hc.2.1 hd  (k _ rfl p e R0 s m args below meth c H locs ls hc hP hS hl)
theorem V_lmul {x y : Int64} (hd : decode cc pc = .ok (.lmul, 1))  (k : ∀ z : Int64, z = x * y → V G own cc ret ini d MC MS nL post (pc + 1) lo (.long z :: st) ce sl n sh I L R) : V G own cc ret ini d MC MS nL post pc lo (.long y :: .long x :: st) ce sl n sh I L R := by
  intro p e R0 s m args below meth c H locs ls hc hP hS hl
  exact lv_lmul hc.1 hc.2.1 hd  (k _ rfl p e R0 s m args below meth c H locs ls hc hP hS hl)
theorem V_idiv {x y : Int32} (hd : decode cc pc = .ok (.idiv, 1)) (hy : ¬ y = 0) (k : ∀ z : Int32, z = x / y → V G own cc ret ini d MC MS nL post (pc + 1) lo (.int z :: st) ce sl n sh I L R) : V G own cc ret ini d MC MS nL post pc lo (.int y :: .int x :: st) ce sl n sh I L R := by
  intro p e R0 s m args below meth c H locs ls hc hP hS hl
  exact lv_idiv hc.1 hc.2.1 hd hy (k _ rfl p e R0 s m args below meth c H locs ls hc hP hS hl)
theorem V_ldiv {x y : Int64} (hd : decode cc pc = .ok (.ldiv, 1)) (hy : ¬ y = 0) (k : ∀ z : Int64, z = x / y → V G own cc ret ini d MC MS nL post (pc + 1) lo (.long z :: st) ce sl n sh I L R) : V G own cc ret ini d MC MS nL post pc lo (.long y :: .long x :: st) ce sl n sh I L R := by
  intro p e R0 s m args below meth c H locs ls hc hP hS hl
  exact lv_ldiv hc.1 hc.2.1 hd hy (k _ rfl p e R0 s m args below meth c H locs ls hc hP hS hl)
theorem V_ineg {x : Int32} (hd : decode cc pc = .ok (.ineg, 1)) (k : ∀ z : Int32, z = -x → V G own cc ret ini d MC MS nL post (pc + 1) lo (.int z :: st) ce sl n sh I L R) : V G own cc ret ini d MC MS nL post pc lo (.int x :: st) ce sl n sh I L R := by
  intro p e R0 s m args below meth c H locs ls hc hP hS hl
  exact lv_ineg hc.1 hc.2.1 hd  (k _ rfl p e R0 s m args below meth c H locs ls hc hP hS hl)
theorem V_lneg {x : Int64} (hd : decode cc pc = .ok (.lneg, 1)) (k : ∀ z : Int64, z = -x → V G own cc ret ini d MC MS nL post (pc + 1) lo (.long z :: st) ce sl n sh I L R) : V G own cc ret ini d MC MS nL post pc lo (.long x :: st) ce sl n sh I L R := by
  intro p e R0 s m args below meth c H locs ls hc hP hS hl
  exact lv_lneg hc.1 hc.2.1 hd  (k _ rfl p e R0 s m args below meth c H locs ls hc hP hS hl)
theorem V_i2l {x : Int32} (hd : decode cc pc = .ok (.i2l, 1)) (k : ∀ z : Int64, z = x.toInt64 → V G own cc ret ini d MC MS nL post (pc + 1) lo (.long z :: st) ce sl n sh I L R) : V G own cc ret ini d MC MS nL post pc lo (.int x :: st) ce sl n sh I L R := by
  intro p e R0 s m args below meth c H locs ls hc hP hS hl
  exact lv_i2l hc.1 hc.2.1 hd rfl (k _ rfl p e R0 s m args below meth c H locs ls hc hP hS hl)
theorem V_l2i {x : Int64} (hd : decode cc pc = .ok (.l2i, 1)) (k : ∀ z : Int32, z = x.toInt32 → V G own cc ret ini d MC MS nL post (pc + 1) lo (.int z :: st) ce sl n sh I L R) : V G own cc ret ini d MC MS nL post pc lo (.long x :: st) ce sl n sh I L R := by
  intro p e R0 s m args below meth c H locs ls hc hP hS hl
  exact lv_l2i hc.1 hc.2.1 hd rfl (k _ rfl p e R0 s m args below meth c H locs ls hc hP hS hl)
theorem V_i2b {x : Int32} (hd : decode cc pc = .ok (.i2b, 1)) (k : ∀ z : Int32, z = x.toInt8.toInt32 → V G own cc ret ini d MC MS nL post (pc + 1) lo (.int z :: st) ce sl n sh I L R) : V G own cc ret ini d MC MS nL post pc lo (.int x :: st) ce sl n sh I L R := by
  intro p e R0 s m args below meth c H locs ls hc hP hS hl
  exact lv_i2b hc.1 hc.2.1 hd rfl (k _ rfl p e R0 s m args below meth c H locs ls hc hP hS hl)
theorem V_i2s {x : Int32} (hd : decode cc pc = .ok (.i2s, 1)) (k : ∀ z : Int32, z = x.toInt16.toInt32 → V G own cc ret ini d MC MS nL post (pc + 1) lo (.int z :: st) ce sl n sh I L R) : V G own cc ret ini d MC MS nL post pc lo (.int x :: st) ce sl n sh I L R := by
  intro p e R0 s m args below meth c H locs ls hc hP hS hl
  exact lv_i2s hc.1 hc.2.1 hd rfl (k _ rfl p e R0 s m args below meth c H locs ls hc hP hS hl)
theorem V_dup {va : Value} (hd : decode cc pc = .ok (.dup, 1)) (hva : va.category = 1) (k : V G own cc ret ini d MC MS nL post (pc + 1) lo (va :: va :: st) ce sl n sh I L R) : V G own cc ret ini d MC MS nL post pc lo (va :: st) ce sl n sh I L R := by
  intro p e R0 s m args below meth c H locs ls hc hP hS hl
  exact lv_dup hc.1 hc.2.1 hd hva (k p e R0 s m args below meth c H locs ls hc hP hS hl)
theorem V_pop {va : Value} (hd : decode cc pc = .ok (.pop, 1)) (hva : va.category = 1) (k : V G own cc ret ini d MC MS nL post (pc + 1) lo (st) ce sl n sh I L R) : V G own cc ret ini d MC MS nL post pc lo (va :: st) ce sl n sh I L R := by
  intro p e R0 s m args below meth c H locs ls hc hP hS hl
  exact lv_pop hc.1 hc.2.1 hd hva (k p e R0 s m args below meth c H locs ls hc hP hS hl)
theorem V_dup_x1 {va vb : Value} (hd : decode cc pc = .ok (.dup_x1, 1)) (hva : va.category = 1) (hvb : vb.category = 1) (k : V G own cc ret ini d MC MS nL post (pc + 1) lo (va :: vb :: va :: st) ce sl n sh I L R) : V G own cc ret ini d MC MS nL post pc lo (va :: vb :: st) ce sl n sh I L R := by
  intro p e R0 s m args below meth c H locs ls hc hP hS hl
  exact lv_dup_x1 hc.1 hc.2.1 hd hva hvb (k p e R0 s m args below meth c H locs ls hc hP hS hl)
theorem V_dup2 {va vb : Value} (hd : decode cc pc = .ok (.dup2, 1)) (hva : va.category = 1) (hvb : vb.category = 1) (k : V G own cc ret ini d MC MS nL post (pc + 1) lo (va :: vb :: va :: vb :: st) ce sl n sh I L R) : V G own cc ret ini d MC MS nL post pc lo (va :: vb :: st) ce sl n sh I L R := by
  intro p e R0 s m args below meth c H locs ls hc hP hS hl
  exact lv_dup2_11 hc.1 hc.2.1 hd hva hvb (k p e R0 s m args below meth c H locs ls hc hP hS hl)
theorem V_null  (hd : decode cc pc = .ok (.aconst_null, 1))  (k : V G own cc ret ini d MC MS nL post (pc + 1) lo (.null :: st) ce sl n sh I L R) : V G own cc ret ini d MC MS nL post pc lo (st) ce sl n sh I L R := by
  intro p e R0 s m args below meth c H locs ls hc hP hS hl
  exact lv_null hc.1 hc.2.1 hd  (k p e R0 s m args below meth c H locs ls hc hP hS hl)
theorem ti_lt {a b : Int32} : a < b ↔ a.toInt < b.toInt := Int32.lt_iff_toInt_lt
theorem ti_le {a b : Int32} : a ≤ b ↔ a.toInt ≤ b.toInt := Int32.le_iff_toInt_le
theorem ti_eq {a b : Int32} : a = b ↔ a.toInt = b.toInt := ⟨fun h => by rw [h], fun h => Int32.toInt_inj.mp h⟩
theorem ti_0 : (0 : Int32).toInt = 0 := rfl
theorem V_icmp_eq {x y : Int32} {off : Int} {tgt : Nat} (hd : decode cc pc = .ok (.if_icmp .eq off, 3)) (ht : (pc : Int) + off = (tgt : Int)) (kt : x.toInt = y.toInt → V G own cc ret ini d MC MS nL post tgt lo st ce sl n sh I L R) (kf : x.toInt ≠ y.toInt → V G own cc ret ini d MC MS nL post (pc + 3) lo st ce sl n sh I L R) : V G own cc ret ini d MC MS nL post pc lo (.int y :: .int x :: st) ce sl n sh I L R := by
  intro p e R0 s m args below meth c H locs ls hc hP hS hl
  refine lv_icmp_eq hc.1 hc.2.1 hd ht (fun q => kt ?_ p e R0 s m args below meth c H locs ls hc hP hS hl) (fun q => kf ?_ p e R0 s m args below meth c H locs ls hc hP hS hl)
  all_goals (simp only [ti_lt, ti_le, ti_eq, ne_eq, GE.ge, GT.gt] at q; omega)
theorem V_if_eq {x : Int32} {off : Int} {tgt : Nat} (hd : decode cc pc = .ok (.ifCond .eq off, 3)) (ht : (pc : Int) + off = (tgt : Int)) (kt : x.toInt = 0 → V G own cc ret ini d MC MS nL post tgt lo st ce sl n sh I L R) (kf : x.toInt ≠ 0 → V G own cc ret ini d MC MS nL post (pc + 3) lo st ce sl n sh I L R) : V G own cc ret ini d MC MS nL post pc lo (.int x :: st) ce sl n sh I L R := by
  intro p e R0 s m args below meth c H locs ls hc hP hS hl
  refine lv_if_eq hc.1 hc.2.1 hd ht (fun q => kt ?_ p e R0 s m args below meth c H locs ls hc hP hS hl) (fun q => kf ?_ p e R0 s m args below meth c H locs ls hc hP hS hl)
  all_goals (simp only [ti_lt, ti_le, ti_eq, ne_eq, GE.ge, GT.gt, ti_0] at q; omega)
theorem V_if_eq_t {x : Int32} {off : Int} {tgt : Nat} (hd : decode cc pc = .ok (.ifCond .eq off, 3)) (ht : (pc : Int) + off = (tgt : Int)) (hq : x.toInt = 0) (k : V G own cc ret ini d MC MS nL post tgt lo st ce sl n sh I L R) : V G own cc ret ini d MC MS nL post pc lo (.int x :: st) ce sl n sh I L R := V_if_eq hd ht (fun _ => k) (fun q => by omega)
theorem V_if_eq_f {x : Int32} {off : Int} {tgt : Nat} (hd : decode cc pc = .ok (.ifCond .eq off, 3)) (ht : (pc : Int) + off = (tgt : Int)) (hq : x.toInt ≠ 0) (k : V G own cc ret ini d MC MS nL post (pc + 3) lo st ce sl n sh I L R) : V G own cc ret ini d MC MS nL post pc lo (.int x :: st) ce sl n sh I L R := V_if_eq hd ht (fun q => by omega) (fun _ => k)
theorem V_icmp_ne {x y : Int32} {off : Int} {tgt : Nat} (hd : decode cc pc = .ok (.if_icmp .ne off, 3)) (ht : (pc : Int) + off = (tgt : Int)) (kt : x.toInt ≠ y.toInt → V G own cc ret ini d MC MS nL post tgt lo st ce sl n sh I L R) (kf : x.toInt = y.toInt → V G own cc ret ini d MC MS nL post (pc + 3) lo st ce sl n sh I L R) : V G own cc ret ini d MC MS nL post pc lo (.int y :: .int x :: st) ce sl n sh I L R := by
  intro p e R0 s m args below meth c H locs ls hc hP hS hl
  refine lv_icmp_ne hc.1 hc.2.1 hd ht (fun q => kt ?_ p e R0 s m args below meth c H locs ls hc hP hS hl) (fun q => kf ?_ p e R0 s m args below meth c H locs ls hc hP hS hl)
  all_goals (simp only [ti_lt, ti_le, ti_eq, ne_eq, GE.ge, GT.gt] at q; omega)
theorem V_if_ne {x : Int32} {off : Int} {tgt : Nat} (hd : decode cc pc = .ok (.ifCond .ne off, 3)) (ht : (pc : Int) + off = (tgt : Int)) (kt : x.toInt ≠ 0 → V G own cc ret ini d MC MS nL post tgt lo st ce sl n sh I L R) (kf : x.toInt = 0 → V G own cc ret ini d MC MS nL post (pc + 3) lo st ce sl n sh I L R) : V G own cc ret ini d MC MS nL post pc lo (.int x :: st) ce sl n sh I L R := by
  intro p e R0 s m args below meth c H locs ls hc hP hS hl
  refine lv_if_ne hc.1 hc.2.1 hd ht (fun q => kt ?_ p e R0 s m args below meth c H locs ls hc hP hS hl) (fun q => kf ?_ p e R0 s m args below meth c H locs ls hc hP hS hl)
  all_goals (simp only [ti_lt, ti_le, ti_eq, ne_eq, GE.ge, GT.gt, ti_0] at q; omega)
theorem V_if_ne_t {x : Int32} {off : Int} {tgt : Nat} (hd : decode cc pc = .ok (.ifCond .ne off, 3)) (ht : (pc : Int) + off = (tgt : Int)) (hq : x.toInt ≠ 0) (k : V G own cc ret ini d MC MS nL post tgt lo st ce sl n sh I L R) : V G own cc ret ini d MC MS nL post pc lo (.int x :: st) ce sl n sh I L R := V_if_ne hd ht (fun _ => k) (fun q => by omega)
theorem V_if_ne_f {x : Int32} {off : Int} {tgt : Nat} (hd : decode cc pc = .ok (.ifCond .ne off, 3)) (ht : (pc : Int) + off = (tgt : Int)) (hq : x.toInt = 0) (k : V G own cc ret ini d MC MS nL post (pc + 3) lo st ce sl n sh I L R) : V G own cc ret ini d MC MS nL post pc lo (.int x :: st) ce sl n sh I L R := V_if_ne hd ht (fun q => by omega) (fun _ => k)
theorem V_icmp_lt {x y : Int32} {off : Int} {tgt : Nat} (hd : decode cc pc = .ok (.if_icmp .lt off, 3)) (ht : (pc : Int) + off = (tgt : Int)) (kt : x.toInt < y.toInt → V G own cc ret ini d MC MS nL post tgt lo st ce sl n sh I L R) (kf : y.toInt ≤ x.toInt → V G own cc ret ini d MC MS nL post (pc + 3) lo st ce sl n sh I L R) : V G own cc ret ini d MC MS nL post pc lo (.int y :: .int x :: st) ce sl n sh I L R := by
  intro p e R0 s m args below meth c H locs ls hc hP hS hl
  refine lv_icmp_lt hc.1 hc.2.1 hd ht (fun q => kt ?_ p e R0 s m args below meth c H locs ls hc hP hS hl) (fun q => kf ?_ p e R0 s m args below meth c H locs ls hc hP hS hl)
  all_goals (simp only [ti_lt, ti_le, ti_eq, ne_eq, GE.ge, GT.gt] at q; omega)
theorem V_if_lt {x : Int32} {off : Int} {tgt : Nat} (hd : decode cc pc = .ok (.ifCond .lt off, 3)) (ht : (pc : Int) + off = (tgt : Int)) (kt : x.toInt < 0 → V G own cc ret ini d MC MS nL post tgt lo st ce sl n sh I L R) (kf : 0 ≤ x.toInt → V G own cc ret ini d MC MS nL post (pc + 3) lo st ce sl n sh I L R) : V G own cc ret ini d MC MS nL post pc lo (.int x :: st) ce sl n sh I L R := by
  intro p e R0 s m args below meth c H locs ls hc hP hS hl
  refine lv_if_lt hc.1 hc.2.1 hd ht (fun q => kt ?_ p e R0 s m args below meth c H locs ls hc hP hS hl) (fun q => kf ?_ p e R0 s m args below meth c H locs ls hc hP hS hl)
  all_goals (simp only [ti_lt, ti_le, ti_eq, ne_eq, GE.ge, GT.gt, ti_0] at q; omega)
theorem V_if_lt_t {x : Int32} {off : Int} {tgt : Nat} (hd : decode cc pc = .ok (.ifCond .lt off, 3)) (ht : (pc : Int) + off = (tgt : Int)) (hq : x.toInt < 0) (k : V G own cc ret ini d MC MS nL post tgt lo st ce sl n sh I L R) : V G own cc ret ini d MC MS nL post pc lo (.int x :: st) ce sl n sh I L R := V_if_lt hd ht (fun _ => k) (fun q => by omega)
theorem V_if_lt_f {x : Int32} {off : Int} {tgt : Nat} (hd : decode cc pc = .ok (.ifCond .lt off, 3)) (ht : (pc : Int) + off = (tgt : Int)) (hq : 0 ≤ x.toInt) (k : V G own cc ret ini d MC MS nL post (pc + 3) lo st ce sl n sh I L R) : V G own cc ret ini d MC MS nL post pc lo (.int x :: st) ce sl n sh I L R := V_if_lt hd ht (fun q => by omega) (fun _ => k)
theorem V_icmp_ge {x y : Int32} {off : Int} {tgt : Nat} (hd : decode cc pc = .ok (.if_icmp .ge off, 3)) (ht : (pc : Int) + off = (tgt : Int)) (kt : y.toInt ≤ x.toInt → V G own cc ret ini d MC MS nL post tgt lo st ce sl n sh I L R) (kf : x.toInt < y.toInt → V G own cc ret ini d MC MS nL post (pc + 3) lo st ce sl n sh I L R) : V G own cc ret ini d MC MS nL post pc lo (.int y :: .int x :: st) ce sl n sh I L R := by
  intro p e R0 s m args below meth c H locs ls hc hP hS hl
  refine lv_icmp_ge hc.1 hc.2.1 hd ht (fun q => kt ?_ p e R0 s m args below meth c H locs ls hc hP hS hl) (fun q => kf ?_ p e R0 s m args below meth c H locs ls hc hP hS hl)
  all_goals (simp only [ti_lt, ti_le, ti_eq, ne_eq, GE.ge, GT.gt] at q; omega)
theorem V_if_ge {x : Int32} {off : Int} {tgt : Nat} (hd : decode cc pc = .ok (.ifCond .ge off, 3)) (ht : (pc : Int) + off = (tgt : Int)) (kt : 0 ≤ x.toInt → V G own cc ret ini d MC MS nL post tgt lo st ce sl n sh I L R) (kf : x.toInt < 0 → V G own cc ret ini d MC MS nL post (pc + 3) lo st ce sl n sh I L R) : V G own cc ret ini d MC MS nL post pc lo (.int x :: st) ce sl n sh I L R := by
  intro p e R0 s m args below meth c H locs ls hc hP hS hl
  refine lv_if_ge hc.1 hc.2.1 hd ht (fun q => kt ?_ p e R0 s m args below meth c H locs ls hc hP hS hl) (fun q => kf ?_ p e R0 s m args below meth c H locs ls hc hP hS hl)
  all_goals (simp only [ti_lt, ti_le, ti_eq, ne_eq, GE.ge, GT.gt, ti_0] at q; omega)
theorem V_if_ge_t {x : Int32} {off : Int} {tgt : Nat} (hd : decode cc pc = .ok (.ifCond .ge off, 3)) (ht : (pc : Int) + off = (tgt : Int)) (hq : 0 ≤ x.toInt) (k : V G own cc ret ini d MC MS nL post tgt lo st ce sl n sh I L R) : V G own cc ret ini d MC MS nL post pc lo (.int x :: st) ce sl n sh I L R := V_if_ge hd ht (fun _ => k) (fun q => by omega)
theorem V_if_ge_f {x : Int32} {off : Int} {tgt : Nat} (hd : decode cc pc = .ok (.ifCond .ge off, 3)) (ht : (pc : Int) + off = (tgt : Int)) (hq : x.toInt < 0) (k : V G own cc ret ini d MC MS nL post (pc + 3) lo st ce sl n sh I L R) : V G own cc ret ini d MC MS nL post pc lo (.int x :: st) ce sl n sh I L R := V_if_ge hd ht (fun q => by omega) (fun _ => k)
theorem V_icmp_gt {x y : Int32} {off : Int} {tgt : Nat} (hd : decode cc pc = .ok (.if_icmp .gt off, 3)) (ht : (pc : Int) + off = (tgt : Int)) (kt : y.toInt < x.toInt → V G own cc ret ini d MC MS nL post tgt lo st ce sl n sh I L R) (kf : x.toInt ≤ y.toInt → V G own cc ret ini d MC MS nL post (pc + 3) lo st ce sl n sh I L R) : V G own cc ret ini d MC MS nL post pc lo (.int y :: .int x :: st) ce sl n sh I L R := by
  intro p e R0 s m args below meth c H locs ls hc hP hS hl
  refine lv_icmp_gt hc.1 hc.2.1 hd ht (fun q => kt ?_ p e R0 s m args below meth c H locs ls hc hP hS hl) (fun q => kf ?_ p e R0 s m args below meth c H locs ls hc hP hS hl)
  all_goals (simp only [ti_lt, ti_le, ti_eq, ne_eq, GE.ge, GT.gt] at q; omega)
theorem V_if_gt {x : Int32} {off : Int} {tgt : Nat} (hd : decode cc pc = .ok (.ifCond .gt off, 3)) (ht : (pc : Int) + off = (tgt : Int)) (kt : 0 < x.toInt → V G own cc ret ini d MC MS nL post tgt lo st ce sl n sh I L R) (kf : x.toInt ≤ 0 → V G own cc ret ini d MC MS nL post (pc + 3) lo st ce sl n sh I L R) : V G own cc ret ini d MC MS nL post pc lo (.int x :: st) ce sl n sh I L R := by
  intro p e R0 s m args below meth c H locs ls hc hP hS hl
  refine lv_if_gt hc.1 hc.2.1 hd ht (fun q => kt ?_ p e R0 s m args below meth c H locs ls hc hP hS hl) (fun q => kf ?_ p e R0 s m args below meth c H locs ls hc hP hS hl)
  all_goals (simp only [ti_lt, ti_le, ti_eq, ne_eq, GE.ge, GT.gt, ti_0] at q; omega)
theorem V_if_gt_t {x : Int32} {off : Int} {tgt : Nat} (hd : decode cc pc = .ok (.ifCond .gt off, 3)) (ht : (pc : Int) + off = (tgt : Int)) (hq : 0 < x.toInt) (k : V G own cc ret ini d MC MS nL post tgt lo st ce sl n sh I L R) : V G own cc ret ini d MC MS nL post pc lo (.int x :: st) ce sl n sh I L R := V_if_gt hd ht (fun _ => k) (fun q => by omega)
theorem V_if_gt_f {x : Int32} {off : Int} {tgt : Nat} (hd : decode cc pc = .ok (.ifCond .gt off, 3)) (ht : (pc : Int) + off = (tgt : Int)) (hq : x.toInt ≤ 0) (k : V G own cc ret ini d MC MS nL post (pc + 3) lo st ce sl n sh I L R) : V G own cc ret ini d MC MS nL post pc lo (.int x :: st) ce sl n sh I L R := V_if_gt hd ht (fun q => by omega) (fun _ => k)
theorem V_icmp_le {x y : Int32} {off : Int} {tgt : Nat} (hd : decode cc pc = .ok (.if_icmp .le off, 3)) (ht : (pc : Int) + off = (tgt : Int)) (kt : x.toInt ≤ y.toInt → V G own cc ret ini d MC MS nL post tgt lo st ce sl n sh I L R) (kf : y.toInt < x.toInt → V G own cc ret ini d MC MS nL post (pc + 3) lo st ce sl n sh I L R) : V G own cc ret ini d MC MS nL post pc lo (.int y :: .int x :: st) ce sl n sh I L R := by
  intro p e R0 s m args below meth c H locs ls hc hP hS hl
  refine lv_icmp_le hc.1 hc.2.1 hd ht (fun q => kt ?_ p e R0 s m args below meth c H locs ls hc hP hS hl) (fun q => kf ?_ p e R0 s m args below meth c H locs ls hc hP hS hl)
  all_goals (simp only [ti_lt, ti_le, ti_eq, ne_eq, GE.ge, GT.gt] at q; omega)
theorem V_if_le {x : Int32} {off : Int} {tgt : Nat} (hd : decode cc pc = .ok (.ifCond .le off, 3)) (ht : (pc : Int) + off = (tgt : Int)) (kt : x.toInt ≤ 0 → V G own cc ret ini d MC MS nL post tgt lo st ce sl n sh I L R) (kf : 0 < x.toInt → V G own cc ret ini d MC MS nL post (pc + 3) lo st ce sl n sh I L R) : V G own cc ret ini d MC MS nL post pc lo (.int x :: st) ce sl n sh I L R := by
  intro p e R0 s m args below meth c H locs ls hc hP hS hl
  refine lv_if_le hc.1 hc.2.1 hd ht (fun q => kt ?_ p e R0 s m args below meth c H locs ls hc hP hS hl) (fun q => kf ?_ p e R0 s m args below meth c H locs ls hc hP hS hl)
  all_goals (simp only [ti_lt, ti_le, ti_eq, ne_eq, GE.ge, GT.gt, ti_0] at q; omega)
theorem V_if_le_t {x : Int32} {off : Int} {tgt : Nat} (hd : decode cc pc = .ok (.ifCond .le off, 3)) (ht : (pc : Int) + off = (tgt : Int)) (hq : x.toInt ≤ 0) (k : V G own cc ret ini d MC MS nL post tgt lo st ce sl n sh I L R) : V G own cc ret ini d MC MS nL post pc lo (.int x :: st) ce sl n sh I L R := V_if_le hd ht (fun _ => k) (fun q => by omega)
theorem V_if_le_f {x : Int32} {off : Int} {tgt : Nat} (hd : decode cc pc = .ok (.ifCond .le off, 3)) (ht : (pc : Int) + off = (tgt : Int)) (hq : 0 < x.toInt) (k : V G own cc ret ini d MC MS nL post (pc + 3) lo st ce sl n sh I L R) : V G own cc ret ini d MC MS nL post pc lo (.int x :: st) ce sl n sh I L R := V_if_le hd ht (fun q => by omega) (fun _ => k)
theorem V_goto {off : Int} {tgt : Nat} (hd : decode cc pc = .ok (.goto off, 3)) (ht : (pc : Int) + off = (tgt : Int)) (k : V G own cc ret ini d MC MS nL post tgt lo st ce sl n sh I L R) : V G own cc ret ini d MC MS nL post pc lo st ce sl n sh I L R := by
  intro p e R0 s m args below meth c H locs ls hc hP hS hl
  exact lv_goto hc.1 hc.2.1 hd ht (k p e R0 s m args below meth c H locs ls hc hP hS hl)
theorem V_ifnull_r {x : Nat} {off : Int} (hd : decode cc pc = .ok (.ifnull off, 3)) (k : V G own cc ret ini d MC MS nL post (pc + 3) lo st ce sl n sh I L R) : V G own cc ret ini d MC MS nL post pc lo (.ref x :: st) ce sl n sh I L R := by
  intro p e R0 s m args below meth c H locs ls hc hP hS hl
  exact lv_ifnull hc.1 hc.2.1 hd (k p e R0 s m args below meth c H locs ls hc hP hS hl)
theorem V_ifnull_n {off : Int} {tgt : Nat} (hd : decode cc pc = .ok (.ifnull off, 3)) (ht : (pc : Int) + off = (tgt : Int)) (k : V G own cc ret ini d MC MS nL post tgt lo st ce sl n sh I L R) : V G own cc ret ini d MC MS nL post pc lo (.null :: st) ce sl n sh I L R := by
  intro p e R0 s m args below meth c H locs ls hc hP hS hl
  exact lv_ifnullN hc.1 hc.2.1 hd ht (k p e R0 s m args below meth c H locs ls hc hP hS hl)
theorem V_ifnonnull_r {x : Nat} {off : Int} {tgt : Nat} (hd : decode cc pc = .ok (.ifnonnull off, 3)) (ht : (pc : Int) + off = (tgt : Int)) (k : V G own cc ret ini d MC MS nL post tgt lo st ce sl n sh I L R) : V G own cc ret ini d MC MS nL post pc lo (.ref x :: st) ce sl n sh I L R := by
  intro p e R0 s m args below meth c H locs ls hc hP hS hl
  exact lv_ifnonnull hc.1 hc.2.1 hd ht (k p e R0 s m args below meth c H locs ls hc hP hS hl)
theorem V_ifnonnull_n {off : Int} (hd : decode cc pc = .ok (.ifnonnull off, 3)) (k : V G own cc ret ini d MC MS nL post (pc + 3) lo st ce sl n sh I L R) : V G own cc ret ini d MC MS nL post pc lo (.null :: st) ce sl n sh I L R := by
  intro p e R0 s m args below meth c H locs ls hc hP hS hl
  exact lv_ifnonnullN hc.1 hc.2.1 hd (k p e R0 s m args below meth c H locs ls hc hP hS hl)
theorem V_tableIn {dflt a b : Int} {offs : Array Int} {len : Nat} {x : Int32} {off : Int} {tgt : Nat} (hd : decode cc pc = .ok (.tableswitch dflt a b offs, len)) (h1 : a ≤ x.toInt) (h2 : x.toInt ≤ b) (ho : offs[(x.toInt - a).toNat]? = some off) (ht : (pc : Int) + off = (tgt : Int)) (k : V G own cc ret ini d MC MS nL post tgt lo st ce sl n sh I L R) : V G own cc ret ini d MC MS nL post pc lo (.int x :: st) ce sl n sh I L R := by
  intro p e R0 s m args below meth c H locs ls hc hP hS hl
  exact lv_tableIn hc.1 hc.2.1 hd (by omega) (by omega) ho ht (k p e R0 s m args below meth c H locs ls hc hP hS hl)
theorem V_tableOut {dflt a b : Int} {offs : Array Int} {len : Nat} {x : Int32} {tgt : Nat} (hd : decode cc pc = .ok (.tableswitch dflt a b offs, len)) (h : x.toInt < a ∨ b < x.toInt) (ht : (pc : Int) + dflt = (tgt : Int)) (k : V G own cc ret ini d MC MS nL post tgt lo st ce sl n sh I L R) : V G own cc ret ini d MC MS nL post pc lo (.int x :: st) ce sl n sh I L R := by
  intro p e R0 s m args below meth c H locs ls hc hP hS hl
  exact lv_tableOut hc.1 hc.2.1 hd h ht (k p e R0 s m args below meth c H locs ls hc hP hS hl)
theorem V_lcmp {x y : Int64} (hd : decode cc pc = .ok (.lcmp, 1)) (k : ∀ z : Int32, z = lg_cmp x y → V G own cc ret ini d MC MS nL post (pc + 1) lo (.int z :: st) ce sl n sh I L R) : V G own cc ret ini d MC MS nL post pc lo (.long y :: .long x :: st) ce sl n sh I L R := by
  intro p e R0 s m args below meth c H locs ls hc hP hS hl
  exact W.lcmp hc.1 hc.2.1 hd (k _ rfl p e R0 s m args below meth c H locs ls hc hP hS hl)
theorem V_ldc {i : Nat} {v : Int32} (hd : decode cc pc = .ok (.ldc i, 2)) (hw : Cond.constant own i v ∈ vT) (k : V G own cc ret ini d MC MS nL post (pc + 2) lo (.int v :: st) ce sl n sh I L R) : V G own cc ret ini d MC MS nL post pc lo st ce sl n sh I L R := by
  intro p e R0 s m args below meth c H locs ls hc hP hS hl
  exact lv_ldc hc.1 hc.2.1 hc.2.2.2.2.1 (hc.2.2.2.2.2.1 _ hw) hd (k p e R0 s m args below meth c H locs ls hc hP hS hl)
theorem V_ldcw {i : Nat} {v : Int32} (hd : decode cc pc = .ok (.ldc_w i, 3)) (hw : Cond.constant own i v ∈ vT) (k : V G own cc ret ini d MC MS nL post (pc + 3) lo (.int v :: st) ce sl n sh I L R) : V G own cc ret ini d MC MS nL post pc lo st ce sl n sh I L R := by
  intro p e R0 s m args below meth c H locs ls hc hP hS hl
  exact lv_ldcw hc.1 hc.2.1 hc.2.2.2.2.1 (hc.2.2.2.2.2.1 _ hw) hd (k p e R0 s m args below meth c H locs ls hc hP hS hl)
theorem V_ldc2 {i : Nat} {v : Int64} (hd : decode cc pc = .ok (.ldc2_w i, 3)) (hw : Cond.constantLong own i v ∈ vT) (k : V G own cc ret ini d MC MS nL post (pc + 3) lo (.long v :: st) ce sl n sh I L R) : V G own cc ret ini d MC MS nL post pc lo st ce sl n sh I L R := by
  intro p e R0 s m args below meth c H locs ls hc hP hS hl
  exact lv_ldc2 hc.1 hc.2.1 hc.2.2.2.2.1 (hc.2.2.2.2.2.1 _ hw) hd (k p e R0 s m args below meth c H locs ls hc hP hS hl)
theorem V_lo {lo' : List (Nat × Value)} (ks : List Nat) (hq : lv_pick lo ks = lo') (k : V G own cc ret ini d MC MS nL post pc lo' st ce sl n sh I L R) : V G own cc ret ini d MC MS nL post pc lo st ce sl n sh I L R := fun p e R0 s m args below meth c H locs ls hc hP hS hl => k p e R0 s m args below meth c H locs ls hc hP hS (lv_sub hl ks hq)
end VV
