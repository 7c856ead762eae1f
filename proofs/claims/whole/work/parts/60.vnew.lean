section VNW
variable {G : vG} {own : String} {cc : ByteArray} {ret : Option FieldType} {ini : Bool} {d MC MS nL : Nat} {post : PT} {pc : Nat} {lo : List (Nat × Value)} {st st0 : List Value} {ce sl n : Nat} {sh : vS} {I : vI} {L : vL} {R : vR} {idx : Nat}
/-- a reference of a lower class is put into a row -/
theorem V_aastC {i N t j q : Nat} {x : Int32} {r : vw_C} {E : String} (hd : decode cc pc = .ok (.aastore, 1)) (hi : i < n) (hs : sh i = (13 + t, N)) (ht : 2 ≤ t) (hty : (vty G)[t]? = some (G.2.2.2.2 t, .object E)) (hj : j < n) (hq : (sh j).1 = q) (hq13 : q < 13) (hr : vwCl[q]? = some r) (hca : r.1 = E ∨ (r.1, E) ∈ vCa) (h0 : 0 ≤ x.toInt) (h1 : x.toInt < N) (kk : V G own cc ret ini d MC MS nL post (pc + 1) lo st ce sl n sh I L (up2 R i x.toInt.toNat (some j))) : V G own cc ret ini d MC MS nL post pc lo (.ref (ad G j) :: .int x :: .ref (ad G i) :: st) ce sl n sh I L R := by
  rcases hca with he | hca
  · subst he; exact V_aast hd hi hs ht hty hj hq hq13 hr h0 h1 kk
  intro p e R0 s m args below meth c0 H locs ls hc hP hS hl
  have hK := hc.2.2.2.2.2.2.1.1
  have he := vwl_get (G := G) (sh := sh) (I := I) (L := L) (R := R) hi
  rw [vcell_r hs ht] at he
  have hv := vwl_get (G := G) (sh := sh) (I := I) (L := L) (R := R) hj
  rw [vcell_o hq hq13] at hv
  obtain ⟨r', hr', cellV, g1, g2, g3, -⟩ := hP.2 j _ hv
  have hcls := (hK.1 q r hr).2
  obtain ⟨kA, comp, k1, k2, k3, -⟩ := (hK.2 t _ hty).2
  obtain ⟨kE, hkE, -⟩ := Vm.findClass_spec k3
  obtain ⟨kC, hkC, -⟩ := hcls.2
  have hin := ix_in h0 h1
  refine W.aast hc.1 hc.2.1 (hP.2 i _ he) (fun z h => by cases h) (fun h => by cases h) k1 k2 rfl hkE ⟨fun z => hin (Or.inl z), by show _ < (arrV _ _ _).slots.size; rw [arrV_size]; exact Nat.not_le.mp fun z => hin (Or.inr z)⟩ g1 (fun z h => by rw [g3] at h; cases h) (by rw [g2]; exact hkC) (by rw [g2]; exact vb_asgC (hc.2.2.2.2.2.2.1.2.2.1 _ hca) _ _ k3 hcls.1) rfl rfl hd fun H1 e1 z oq => ?_
  have hP' := hP.2.set vwl_D he (e := .inl (G.2.2.2.2 t, N, .inr (.inr (.inr (.inr (fun k => vrf G (up2 R i x.toInt.toNat (some j) i k))))))) (show H1[ad G i]? = some (vp_cell _ _) by
    rw [e1, vp_cell_q, vp_cell_q, arrV_store]
    congr 2
    funext w
    show updV _ x.toInt.toNat _ w = _
    by_cases hw : w = x.toInt.toNat
    · subst hw; simp [updV, up2, vrf, va_rf]
    · rw [updV, if_neg hw, up2, if_neg (fun z => hw z.2)]) oq
  rw [vwl_set (I' := I) (L' := L) (R' := up2 R i x.toInt.toNat (some j)) (vcell_r hs ht) (fun w h => vcell_eq rfl rfl (up2_o h))] at hP'
  exact kk p e R0 s m args below meth c0 H1 _ ls hc ⟨z.trans hP.1, hP'⟩ (hS.put z oq (Nat.le_add_right _ _)) hl
theorem V_aastK {i N t j q k : Nat} {x : Int32} {r : vw_C} {E : String} (hd : decode cc pc = .ok (.aastore, 1)) (hi : i < n) (hs : sh i = (13 + t, N)) (ht : 2 ≤ t) (hty : (vty G)[t]? = some (G.2.2.2.2 t, .object E)) (hj : j < n) (hq : (sh j).1 = q) (hq13 : q < 13) (hr : vwCl[q]? = some r) (hca : r.1 = E ∨ (r.1, E) ∈ vCa) (hk : x.toInt = (k : Int)) (h1 : k < N) (kk : V G own cc ret ini d MC MS nL post (pc + 1) lo st ce sl n sh I L (up2 R i k (some j))) : V G own cc ret ini d MC MS nL post pc lo (.ref (ad G j) :: .int x :: .ref (ad G i) :: st) ce sl n sh I L R :=
  V_aastC hd hi hs ht hty hj hq hq13 hr hca (by omega) (by omega) (by rw [hk, Int.toNat_natCast]; exact kk)
theorem may_n : Cond.native arraycopyName ∈ vT := tb3 239 (by decide +kernel) (by decide +kernel)
theorem may_s : Cond.static arraycopyName ∈ vT := tb3 238 (by decide +kernel) (by decide +kernel)
theorem may_i : Cond.initialized "java/lang/System" ∈ vT := tb1 15 (by decide +kernel) (by decide +kernel)
theorem may_l : Cond.methodLink RX11 271 arraycopyName ∈ vT := tb3 237 (by decide +kernel) (by decide +kernel)
/-- System.arraycopy of numbers, from one row to another one or within one -/
theorem V_copyi {i j N M : Nat} {a b m0 : Int32} {I' : vI} (hl : Cond.methodLink own idx arraycopyName ∈ vT) (hd : decode cc pc = .ok (.invokestatic idx, 3)) (hdd : 1 ≤ d) (hi : i < n) (hsi : sh i = (13, N)) (hj : j < n) (hsj : sh j = (13, M)) (ha : 0 ≤ a.toInt) (hb : 0 ≤ b.toInt) (hm : 0 ≤ m0.toInt) (h4 : a.toInt + m0.toInt ≤ N) (h5 : b.toInt + m0.toInt ≤ M) (hW : (st.map fun v => v.category).sum ≤ 8)
    (e1 : ∀ q, q ≠ j → I' q = I q) (e2 : ∀ y, I' j y = if b.toInt.toNat ≤ y ∧ y < b.toInt.toNat + m0.toInt.toNat then I i (a.toInt.toNat + (y - b.toInt.toNat)) else I j y)
    (kk : V G own cc ret ini d MC MS nL post (pc + 3) lo st ce sl n sh I' L R) : V G own cc ret ini d MC MS nL post pc lo (.int m0 :: .int b :: .ref (ad G j) :: .int a :: .ref (ad G i) :: st) ce sl n sh I L R := by
  intro p e R0 s m args below meth c0 H locs ls hc hP hS hl2 T hT X
  obtain ⟨g1, g2, g3, g4, g5, hts, hK, g8, g9, g10, g11, g12, g13, g14⟩ := id hc
  have hwi := vwl_get (G := G) (sh := sh) (I := I) (L := L) (R := R) hi
  rw [vcell_i hsi] at hwi
  have hwj := vwl_get (G := G) (sh := sh) (I := I) (L := L) (R := R) hj
  rw [vcell_i hsj] at hwj
  have hci : H[ad G i]? = some (vp_cell (G.2.2.2.2 0) (N, .inl (I i))) := hP.2 i _ hwi
  have hcj : H[ad G j]? = some (vp_cell (G.2.2.2.2 0) (M, .inl (I j))) := hP.2 j _ hwj
  obtain ⟨-, k0, hk0, cm0, hkk0⟩ := (hK.1.2 0 _ (rfl : (vty G)[0]? = some (G.2.2.2.2 0, .int))).1 N (fun z => .int (I i z))
  obtain ⟨-, k1, hk1, cm1, hkk1⟩ := (hK.1.2 0 _ (rfl : (vty G)[0]? = some (G.2.2.2.2 0, .int))).1 M (fun z => .int (I j z))
  have ea : a.toNatClampNeg = a.toInt.toNat := rfl
  have eb : b.toNatClampNeg = b.toInt.toNat := rfl
  have em : m0.toNatClampNeg = m0.toInt.toNat := rfl
  obtain ⟨vm', X', step⟩ := X.arraycopy g1 g5 (hts _ hl) (hts _ may_n) (hts _ may_s) (hts _ may_i) (src := ad G i) (dst := ad G j) (cs := vp_cell (G.2.2.2.2 0) (N, .inl (I i))) (cd := vp_cell (G.2.2.2.2 0) (M, .inl (I j))) (srcPos := a) (destPos := b) (n := m0) (by rw [hT]; exact hci) (by rw [hT]; exact hcj)
    (fun _ h => by cases h) (fun _ h => by cases h) (fun h => by cases h) (fun h => by cases h) hk0 hk1 hkk0 hkk1 (by simp [refKind]) (by rw [ti_lt, ti_0]; omega) (by rw [ti_lt, ti_0]; omega) (by rw [ti_lt, ti_0]; omega)
    (by show ¬ _ > ((arrV _ N (fun z => .int (I i z))).slots.size : Int); rw [arrV_size]; omega)
    (by show ¬ _ > ((arrV _ M (fun z => .int (I j z))).slots.size : Int); rw [arrV_size]; omega)
    (fun vm₁ _ z hz => by
      have ez : (vp_cell (G.2.2.2.2 0) (N, .inl (I i))).slots.getD (a.toNatClampNeg + z) .null = .int (I i (a.toNatClampNeg + z)) := by
        show (arrV _ N (fun w => .int (I i w))).slots.getD _ _ = _
        rw [Array.getD_eq_getD_getElem?, arrV_read _ _ (by omega)]
        rfl
      refine ⟨?_, ?_⟩
      · rw [ez]; rfl
      · rw [ez]; exact trivial)
    (g := F0 m pc ls (.int m0 :: .int b :: .ref (ad G j) :: .int a :: .ref (ad G i) :: st)) rfl (by rw [g4]; exact hl2.1) (rest := st) rfl (by rw [g2]; exact hd) (by omega) (by
      have hfw : nativeFrameWords "java/lang/System" "arraycopy" 5 = 7 := by decide +kernel
      have hWx : (st.map fun v => v.category).sum ≤ 8 := hW
      rw [hfw]
      show 2 * 0 + _ + _ ≤ _
      omega)
  have e3 : copied (vp_cell (G.2.2.2.2 0) (N, .inl (I i))) (vp_cell (G.2.2.2.2 0) (M, .inl (I j))) a b m0 = vp_cell (G.2.2.2.2 0) (M, .inl (va_cpy (I i) (I j) a.toNatClampNeg b.toNatClampNeg m0.toNatClampNeg)) := va_copied (fun z => .int z) (G.2.2.2.2 0) (G.2.2.2.2 0) (I i) (I j) (by omega)
  have e4 : va_cpy (I i) (I j) a.toNatClampNeg b.toNatClampNeg m0.toNatClampNeg = I' j := funext fun y => (e2 y).symm
  rw [e3, e4] at X' step
  have hlt : ad G j < H.size := (Array.getElem?_eq_some_iff.mp hcj).1
  have oq : ∀ q : Nat, q ≠ ad G j → (H.setIfInBounds (ad G j) (vp_cell (G.2.2.2.2 0) (M, .inl (I' j))))[q]? = H[q]? := fun q hq => by simp [Array.getElem?_setIfInBounds, Ne.symm hq]
  have hP' := hP.2.set vwl_D hwj (e := .inl (G.2.2.2.2 0, M, .inl (I' j))) (show (H.setIfInBounds (ad G j) (vp_cell (G.2.2.2.2 0) (M, .inl (I' j))))[ad G j]? = some (vp_cell _ _) by simp [Array.getElem?_setIfInBounds, hlt]) oq
  rw [vwl_set (I' := I') (L' := L) (R' := R) (vcell_i hsj) (fun w h => vcell_eq (e1 w h) rfl rfl)] at hP'
  have hhe : ((T.setVm vm').setCell (ad G j) (vp_cell (G.2.2.2.2 0) (M, .inl (I' j)))).heap = H.setIfInBounds (ad G j) (vp_cell (G.2.2.2.2 0) (M, .inl (I' j))) := by rw [← hT]; rfl
  have hjA : (vA G) (ad G j) := Nat.le_add_right _ _
  obtain ⟨t, a1, b1⟩ := kk p e R0 s m args below meth c0 _ _ ls hc ⟨by simp; exact hP.1, hP'⟩ ⟨by simp; exact hS.1, fun q q1 q2 => by
      rw [oq q (fun z => q2 (by rw [z]; exact hjA))]
      exact hS.2.1 q q1 q2, fun q hq => by
      rcases List.mem_append.mp hq with h | h
      · exact hS.2.2 q h
      · obtain ⟨z, -, hz⟩ := List.mem_map.mp h
        rw [← hz]
        exact hjA⟩ hl2 _ hhe X'
  exact ⟨t, step t a1, b1⟩
theorem V_instN {i c : Nat} {q : vw_C} {nm : String} (hw : Cond.classLink own idx nm ∈ vT) (hv : (q.1, nm) ∈ vNca) (hi : i < n) (hs : (sh i).1 = c) (hc13 : c < 13) (hcl : vwCl[c]? = some q) (hd : decode cc pc = .ok (.instanceof idx, 3)) (kk : V G own cc ret ini d MC MS nL post (pc + 3) lo (.int 0 :: st) ce sl n sh I L R) : V G own cc ret ini d MC MS nL post pc lo (.ref (ad G i) :: st) ce sl n sh I L R := V_inst 0 hw (Or.inr (Or.inr ⟨rfl, hv⟩)) hi hs hc13 hcl hd kk
theorem V_new0 {sh' : vS} {I' : vI} {L' : vL} {R' : vR} (hw : Cond.classLink own idx RX0 ∈ vT ∧ Cond.instantiable RX0 2 ∈ vT ∧ Cond.initialized RX0 ∈ vT) (hd : decode cc pc = .ok (.new idx, 3)) (hce : ce + 1 ≤ MC) (hsl : sl + 2 ≤ MS) (hs' : sh' = uph sh n (0, 0)) (hI : I' = uph I n (fun _ => 0)) (hL : L' = uph L n (fun _ => 0)) (hR : R' = uph R n (fun _ => none)) (kk : V G own cc ret ini d MC MS nL post (pc + 3) lo (.ref (ad G n) :: st) (ce + 1) (sl + 2) (n + 1) sh' I' L' R') : V G own cc ret ini d MC MS nL post pc lo st ce sl n sh I L R :=
  V_new (c := 0) (N := 2) (C := RX0) (T := TX0) (ty := tyX0) rfl (by decide) tyX0_ok in_X0 rfl (fun j t h => by
    match j, h with
    | 0, h => cases h; rfl
    | 1, h => cases h; rfl
    | k + 2, h => simp [fT] at h) hw hd hce hsl hs' hI hL hR kk
theorem V_new1 {sh' : vS} {I' : vI} {L' : vL} {R' : vR} (hw : Cond.classLink own idx RX1 ∈ vT ∧ Cond.instantiable RX1 6 ∈ vT ∧ Cond.initialized RX1 ∈ vT) (hd : decode cc pc = .ok (.new idx, 3)) (hce : ce + 1 ≤ MC) (hsl : sl + 6 ≤ MS) (hs' : sh' = uph sh n (1, 0)) (hI : I' = uph I n (fun _ => 0)) (hL : L' = uph L n (fun _ => 0)) (hR : R' = uph R n (fun _ => none)) (kk : V G own cc ret ini d MC MS nL post (pc + 3) lo (.ref (ad G n) :: st) (ce + 1) (sl + 6) (n + 1) sh' I' L' R') : V G own cc ret ini d MC MS nL post pc lo st ce sl n sh I L R :=
  V_new (c := 1) (N := 6) (C := RX1) (T := TX1) (ty := tyX1) rfl (by decide) tyX1_ok in_X1 rfl (fun j t h => by
    match j, h with
    | 0, h => cases h; rfl
    | 1, h => cases h; rfl
    | 2, h => cases h; rfl
    | 3, h => cases h; rfl
    | 4, h => cases h; rfl
    | 5, h => cases h; rfl
    | k + 6, h => simp [fT] at h) hw hd hce hsl hs' hI hL hR kk
theorem V_new2 {sh' : vS} {I' : vI} {L' : vL} {R' : vR} (hw : Cond.classLink own idx RX2 ∈ vT ∧ Cond.instantiable RX2 6 ∈ vT ∧ Cond.initialized RX2 ∈ vT) (hd : decode cc pc = .ok (.new idx, 3)) (hce : ce + 1 ≤ MC) (hsl : sl + 6 ≤ MS) (hs' : sh' = uph sh n (2, 0)) (hI : I' = uph I n (fun _ => 0)) (hL : L' = uph L n (fun _ => 0)) (hR : R' = uph R n (fun _ => none)) (kk : V G own cc ret ini d MC MS nL post (pc + 3) lo (.ref (ad G n) :: st) (ce + 1) (sl + 6) (n + 1) sh' I' L' R') : V G own cc ret ini d MC MS nL post pc lo st ce sl n sh I L R :=
  V_new (c := 2) (N := 6) (C := RX2) (T := TX2) (ty := tyX2) rfl (by decide) tyX2_ok in_X2 rfl (fun j t h => by
    match j, h with
    | 0, h => cases h; rfl
    | 1, h => cases h; rfl
    | 2, h => cases h; rfl
    | 3, h => cases h; rfl
    | 4, h => cases h; rfl
    | 5, h => cases h; rfl
    | k + 6, h => simp [fT] at h) hw hd hce hsl hs' hI hL hR kk
theorem V_new3 {sh' : vS} {I' : vI} {L' : vL} {R' : vR} (hw : Cond.classLink own idx RX3 ∈ vT ∧ Cond.instantiable RX3 6 ∈ vT ∧ Cond.initialized RX3 ∈ vT) (hd : decode cc pc = .ok (.new idx, 3)) (hce : ce + 1 ≤ MC) (hsl : sl + 6 ≤ MS) (hs' : sh' = uph sh n (3, 0)) (hI : I' = uph I n (fun _ => 0)) (hL : L' = uph L n (fun _ => 0)) (hR : R' = uph R n (fun _ => none)) (kk : V G own cc ret ini d MC MS nL post (pc + 3) lo (.ref (ad G n) :: st) (ce + 1) (sl + 6) (n + 1) sh' I' L' R') : V G own cc ret ini d MC MS nL post pc lo st ce sl n sh I L R :=
  V_new (c := 3) (N := 6) (C := RX3) (T := TX3) (ty := tyX3) rfl (by decide) tyX3_ok in_X3 rfl (fun j t h => by
    match j, h with
    | 0, h => cases h; rfl
    | 1, h => cases h; rfl
    | 2, h => cases h; rfl
    | 3, h => cases h; rfl
    | 4, h => cases h; rfl
    | 5, h => cases h; rfl
    | k + 6, h => simp [fT] at h) hw hd hce hsl hs' hI hL hR kk
theorem V_new4 {sh' : vS} {I' : vI} {L' : vL} {R' : vR} (hw : Cond.classLink own idx RX4 ∈ vT ∧ Cond.instantiable RX4 6 ∈ vT ∧ Cond.initialized RX4 ∈ vT) (hd : decode cc pc = .ok (.new idx, 3)) (hce : ce + 1 ≤ MC) (hsl : sl + 6 ≤ MS) (hs' : sh' = uph sh n (4, 0)) (hI : I' = uph I n (fun _ => 0)) (hL : L' = uph L n (fun _ => 0)) (hR : R' = uph R n (fun _ => none)) (kk : V G own cc ret ini d MC MS nL post (pc + 3) lo (.ref (ad G n) :: st) (ce + 1) (sl + 6) (n + 1) sh' I' L' R') : V G own cc ret ini d MC MS nL post pc lo st ce sl n sh I L R :=
  V_new (c := 4) (N := 6) (C := RX4) (T := TX4) (ty := tyX4) rfl (by decide) tyX4_ok in_X4 rfl (fun j t h => by
    match j, h with
    | 0, h => cases h; rfl
    | 1, h => cases h; rfl
    | 2, h => cases h; rfl
    | 3, h => cases h; rfl
    | 4, h => cases h; rfl
    | 5, h => cases h; rfl
    | k + 6, h => simp [fT] at h) hw hd hce hsl hs' hI hL hR kk
theorem V_new5 {sh' : vS} {I' : vI} {L' : vL} {R' : vR} (hw : Cond.classLink own idx RX5 ∈ vT ∧ Cond.instantiable RX5 6 ∈ vT ∧ Cond.initialized RX5 ∈ vT) (hd : decode cc pc = .ok (.new idx, 3)) (hce : ce + 1 ≤ MC) (hsl : sl + 6 ≤ MS) (hs' : sh' = uph sh n (5, 0)) (hI : I' = uph I n (fun _ => 0)) (hL : L' = uph L n (fun _ => 0)) (hR : R' = uph R n (fun _ => none)) (kk : V G own cc ret ini d MC MS nL post (pc + 3) lo (.ref (ad G n) :: st) (ce + 1) (sl + 6) (n + 1) sh' I' L' R') : V G own cc ret ini d MC MS nL post pc lo st ce sl n sh I L R :=
  V_new (c := 5) (N := 6) (C := RX5) (T := TX5) (ty := tyX5) rfl (by decide) tyX5_ok in_X5 rfl (fun j t h => by
    match j, h with
    | 0, h => cases h; rfl
    | 1, h => cases h; rfl
    | 2, h => cases h; rfl
    | 3, h => cases h; rfl
    | 4, h => cases h; rfl
    | 5, h => cases h; rfl
    | k + 6, h => simp [fT] at h) hw hd hce hsl hs' hI hL hR kk
theorem V_new6 {sh' : vS} {I' : vI} {L' : vL} {R' : vR} (hw : Cond.classLink own idx RX6 ∈ vT ∧ Cond.instantiable RX6 5 ∈ vT ∧ Cond.initialized RX6 ∈ vT) (hd : decode cc pc = .ok (.new idx, 3)) (hce : ce + 1 ≤ MC) (hsl : sl + 5 ≤ MS) (hs' : sh' = uph sh n (6, 0)) (hI : I' = uph I n (fun _ => 0)) (hL : L' = uph L n (fun _ => 0)) (hR : R' = uph R n (fun _ => none)) (kk : V G own cc ret ini d MC MS nL post (pc + 3) lo (.ref (ad G n) :: st) (ce + 1) (sl + 5) (n + 1) sh' I' L' R') : V G own cc ret ini d MC MS nL post pc lo st ce sl n sh I L R :=
  V_new (c := 6) (N := 5) (C := RX6) (T := TX6) (ty := tyX6) rfl (by decide) tyX6_ok in_X6 rfl (fun j t h => by
    match j, h with
    | 0, h => cases h; rfl
    | 1, h => cases h; rfl
    | 2, h => cases h; rfl
    | 3, h => cases h; rfl
    | 4, h => cases h; rfl
    | k + 5, h => simp [fT] at h) hw hd hce hsl hs' hI hL hR kk
theorem V_new7 {sh' : vS} {I' : vI} {L' : vL} {R' : vR} (hw : Cond.classLink own idx RX7 ∈ vT ∧ Cond.instantiable RX7 5 ∈ vT ∧ Cond.initialized RX7 ∈ vT) (hd : decode cc pc = .ok (.new idx, 3)) (hce : ce + 1 ≤ MC) (hsl : sl + 5 ≤ MS) (hs' : sh' = uph sh n (7, 0)) (hI : I' = uph I n (fun _ => 0)) (hL : L' = uph L n (fun _ => 0)) (hR : R' = uph R n (fun _ => none)) (kk : V G own cc ret ini d MC MS nL post (pc + 3) lo (.ref (ad G n) :: st) (ce + 1) (sl + 5) (n + 1) sh' I' L' R') : V G own cc ret ini d MC MS nL post pc lo st ce sl n sh I L R :=
  V_new (c := 7) (N := 5) (C := RX7) (T := TX7) (ty := tyX7) rfl (by decide) tyX7_ok in_X7 rfl (fun j t h => by
    match j, h with
    | 0, h => cases h; rfl
    | 1, h => cases h; rfl
    | 2, h => cases h; rfl
    | 3, h => cases h; rfl
    | 4, h => cases h; rfl
    | k + 5, h => simp [fT] at h) hw hd hce hsl hs' hI hL hR kk
theorem V_new8 {sh' : vS} {I' : vI} {L' : vL} {R' : vR} (hw : Cond.classLink own idx RX8 ∈ vT ∧ Cond.instantiable RX8 13 ∈ vT ∧ Cond.initialized RX8 ∈ vT) (hd : decode cc pc = .ok (.new idx, 3)) (hce : ce + 1 ≤ MC) (hsl : sl + 13 ≤ MS) (hs' : sh' = uph sh n (8, 0)) (hI : I' = uph I n (fun _ => 0)) (hL : L' = uph L n (fun _ => 0)) (hR : R' = uph R n (fun _ => none)) (kk : V G own cc ret ini d MC MS nL post (pc + 3) lo (.ref (ad G n) :: st) (ce + 1) (sl + 13) (n + 1) sh' I' L' R') : V G own cc ret ini d MC MS nL post pc lo st ce sl n sh I L R :=
  V_new (c := 8) (N := 13) (C := RX8) (T := TX8) (ty := tyX8) rfl (by decide) tyX8_ok in_X8 rfl (fun j t h => by
    match j, h with
    | 0, h => cases h; rfl
    | 1, h => cases h; rfl
    | 2, h => cases h; rfl
    | 3, h => cases h; rfl
    | 4, h => cases h; rfl
    | 5, h => cases h; rfl
    | 6, h => cases h; rfl
    | 7, h => cases h; rfl
    | 8, h => cases h; rfl
    | 9, h => cases h; rfl
    | 10, h => cases h; rfl
    | 11, h => cases h; rfl
    | 12, h => cases h; rfl
    | k + 13, h => simp [fT] at h) hw hd hce hsl hs' hI hL hR kk
theorem V_new9 {sh' : vS} {I' : vI} {L' : vL} {R' : vR} (hw : Cond.classLink own idx RX9 ∈ vT ∧ Cond.instantiable RX9 4 ∈ vT ∧ Cond.initialized RX9 ∈ vT) (hd : decode cc pc = .ok (.new idx, 3)) (hce : ce + 1 ≤ MC) (hsl : sl + 4 ≤ MS) (hs' : sh' = uph sh n (9, 0)) (hI : I' = uph I n (fun _ => 0)) (hL : L' = uph L n (fun _ => 0)) (hR : R' = uph R n (fun _ => none)) (kk : V G own cc ret ini d MC MS nL post (pc + 3) lo (.ref (ad G n) :: st) (ce + 1) (sl + 4) (n + 1) sh' I' L' R') : V G own cc ret ini d MC MS nL post pc lo st ce sl n sh I L R :=
  V_new (c := 9) (N := 4) (C := RX9) (T := TX9) (ty := tyX9) rfl (by decide) tyX9_ok in_X9 rfl (fun j t h => by
    match j, h with
    | 0, h => cases h; rfl
    | 1, h => cases h; rfl
    | 2, h => cases h; rfl
    | 3, h => cases h; rfl
    | k + 4, h => simp [fT] at h) hw hd hce hsl hs' hI hL hR kk
theorem V_new10 {sh' : vS} {I' : vI} {L' : vL} {R' : vR} (hw : Cond.classLink own idx RX10 ∈ vT ∧ Cond.instantiable RX10 7 ∈ vT ∧ Cond.initialized RX10 ∈ vT) (hd : decode cc pc = .ok (.new idx, 3)) (hce : ce + 1 ≤ MC) (hsl : sl + 7 ≤ MS) (hs' : sh' = uph sh n (10, 0)) (hI : I' = uph I n (fun _ => 0)) (hL : L' = uph L n (fun _ => 0)) (hR : R' = uph R n (fun _ => none)) (kk : V G own cc ret ini d MC MS nL post (pc + 3) lo (.ref (ad G n) :: st) (ce + 1) (sl + 7) (n + 1) sh' I' L' R') : V G own cc ret ini d MC MS nL post pc lo st ce sl n sh I L R :=
  V_new (c := 10) (N := 7) (C := RX10) (T := TX10) (ty := tyX10) rfl (by decide) tyX10_ok in_X10 rfl (fun j t h => by
    match j, h with
    | 0, h => cases h; rfl
    | 1, h => cases h; rfl
    | 2, h => cases h; rfl
    | 3, h => cases h; rfl
    | 4, h => cases h; rfl
    | 5, h => cases h; rfl
    | 6, h => cases h; rfl
    | k + 7, h => simp [fT] at h) hw hd hce hsl hs' hI hL hR kk
theorem V_new11 {sh' : vS} {I' : vI} {L' : vL} {R' : vR} (hw : Cond.classLink own idx RX11 ∈ vT ∧ Cond.instantiable RX11 12 ∈ vT ∧ Cond.initialized RX11 ∈ vT) (hd : decode cc pc = .ok (.new idx, 3)) (hce : ce + 1 ≤ MC) (hsl : sl + 12 ≤ MS) (hs' : sh' = uph sh n (11, 0)) (hI : I' = uph I n (fun _ => 0)) (hL : L' = uph L n (fun _ => 0)) (hR : R' = uph R n (fun _ => none)) (kk : V G own cc ret ini d MC MS nL post (pc + 3) lo (.ref (ad G n) :: st) (ce + 1) (sl + 12) (n + 1) sh' I' L' R') : V G own cc ret ini d MC MS nL post pc lo st ce sl n sh I L R :=
  V_new (c := 11) (N := 12) (C := RX11) (T := TX11) (ty := tyX11) rfl (by decide) tyX11_ok in_X11 rfl (fun j t h => by
    match j, h with
    | 0, h => cases h; rfl
    | 1, h => cases h; rfl
    | 2, h => cases h; rfl
    | 3, h => cases h; rfl
    | 4, h => cases h; rfl
    | 5, h => cases h; rfl
    | 6, h => cases h; rfl
    | 7, h => cases h; rfl
    | 8, h => cases h; rfl
    | 9, h => cases h; rfl
    | 10, h => cases h; rfl
    | 11, h => cases h; rfl
    | k + 12, h => simp [fT] at h) hw hd hce hsl hs' hI hL hR kk
theorem V_new12 {sh' : vS} {I' : vI} {L' : vL} {R' : vR} (hw : Cond.classLink own idx RX12 ∈ vT ∧ Cond.instantiable RX12 43 ∈ vT ∧ Cond.initialized RX12 ∈ vT) (hd : decode cc pc = .ok (.new idx, 3)) (hce : ce + 1 ≤ MC) (hsl : sl + 43 ≤ MS) (hs' : sh' = uph sh n (12, 0)) (hI : I' = uph I n (fun _ => 0)) (hL : L' = uph L n (fun _ => 0)) (hR : R' = uph R n (fun _ => none)) (kk : V G own cc ret ini d MC MS nL post (pc + 3) lo (.ref (ad G n) :: st) (ce + 1) (sl + 43) (n + 1) sh' I' L' R') : V G own cc ret ini d MC MS nL post pc lo st ce sl n sh I L R :=
  V_new (c := 12) (N := 43) (C := RX12) (T := TX12) (ty := tyX12) rfl (by decide) tyX12_ok in_X12 rfl (fun j t h => by
    match j, h with
    | 0, h => cases h; rfl
    | 1, h => cases h; rfl
    | 2, h => cases h; rfl
    | 3, h => cases h; rfl
    | 4, h => cases h; rfl
    | 5, h => cases h; rfl
    | 6, h => cases h; rfl
    | 7, h => cases h; rfl
    | 8, h => cases h; rfl
    | 9, h => cases h; rfl
    | 10, h => cases h; rfl
    | 11, h => cases h; rfl
    | 12, h => cases h; rfl
    | 13, h => cases h; rfl
    | 14, h => cases h; rfl
    | 15, h => cases h; rfl
    | 16, h => cases h; rfl
    | 17, h => cases h; rfl
    | 18, h => cases h; rfl
    | 19, h => cases h; rfl
    | 20, h => cases h; rfl
    | 21, h => cases h; rfl
    | 22, h => cases h; rfl
    | 23, h => cases h; rfl
    | 24, h => cases h; rfl
    | 25, h => cases h; rfl
    | 26, h => cases h; rfl
    | 27, h => cases h; rfl
    | 28, h => cases h; rfl
    | 29, h => cases h; rfl
    | 30, h => cases h; rfl
    | 31, h => cases h; rfl
    | 32, h => cases h; rfl
    | 33, h => cases h; rfl
    | 34, h => cases h; rfl
    | 35, h => cases h; rfl
    | 36, h => cases h; rfl
    | 37, h => cases h; rfl
    | 38, h => cases h; rfl
    | 39, h => cases h; rfl
    | 40, h => cases h; rfl
    | 41, h => cases h; rfl
    | 42, h => cases h; rfl
    | k + 43, h => simp [fT] at h) hw hd hce hsl hs' hI hL hR kk
end VNW
