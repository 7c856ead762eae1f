theorem b_1 : ∀ i, i < 32 → bt 1 i = decide (i = 0) := by decide +kernel
theorem nI_r {x : Int32} {r : Nat} (h : x.toInt = (r : Int)) (hr : r < 32) : x = nI r := by
  apply Int32.toInt_inj.mp
  rw [h, nI_toInt (by omega)]
theorem mk_test {m x y z : Int32} {r : Nat} (hx : x.toInt = (r : Int)) (hr : r < 16) (e1 : y = m >>> (x &&& 31)) (e2 : z = y &&& 1) : z.toInt = 0 ↔ bt m r = false := by
  have hx' := nI_r hx (by omega)
  subst hx' e1 e2
  have h0 : bt (m >>> (nI r &&& 31) &&& 1) 0 = bt m r := by
    rw [b_and, b_1 0 (by omega), b_sshr r (by omega) m (by omega), if_pos (by omega)]
    simp
  constructor
  · intro h
    have h1 : (m >>> (nI r &&& 31) &&& 1) = 0 := ti_eq.mpr h
    rw [h1, b_0] at h0
    exact h0.symm
  · intro h
    have h1 : (m >>> (nI r &&& 31) &&& 1) = 0 := b_ext fun i hi => by
      rw [b_0]
      by_cases q : i = 0
      · subst q; rw [h0, h]
      · rw [b_and, b_1 i hi, decide_eq_false q, Bool.and_false]
    rw [h1]; rfl
theorem b_one {x k : Int32} {r : Nat} (hx : x.toInt = (r : Int)) (hr : r < 16) (e1 : k = 1 <<< (x &&& 31)) {i : Nat} (hi : i < 16) : bt k i = decide (i = r) := by
  have hx' := nI_r hx (by omega)
  subst hx' e1
  rw [b_shl r (by omega) 1 (by omega), b_1 (i - r) (by omega)]
  by_cases q : i = r
  · subst q; simp
  · by_cases z : r ≤ i
    · have : ¬ i - r = 0 := by omega
      simp [q, this]
    · simp [q, z]
theorem mk_set {m x k y : Int32} {r : Nat} (hx : x.toInt = (r : Int)) (hr : r < 16) (e1 : k = 1 <<< (x &&& 31)) (e2 : y = m ||| k) {i : Nat} (hi : i < 16) : bt y i = (bt m i || decide (i = r)) := by
  rw [e2, b_or, b_one hx hr e1 hi]
theorem mk_clr {m x k z y : Int32} {r : Nat} (hx : x.toInt = (r : Int)) (hr : r < 16) (e1 : k = 1 <<< (x &&& 31)) (e2 : z = k ^^^ (-1)) (e3 : y = m &&& z) {i : Nat} (hi : i < 16) : bt y i = (bt m i && !decide (i = r)) := by
  rw [e3, b_and, e2, b_xor, b_one hx hr e1 hi, b_m1 i (by omega), Bool.xor_true]
/-- the bits of a mask are the roads of a row -/
def MB (x : Int32) (w : Nat → Int32) (d : Nat) : Prop := ∀ i : Nat, i < 16 → bt x i = exE w (i : Int) d
theorem exE_upd {w : Nat → Int32} {v : Int32} {i : Int} {D : Nat} : ∀ {d : Nat}, d ≤ D → exE (upd w D v) i d = exE w i d
  | 0, _ => rfl
  | d + 1, h => by
    unfold exE
    rw [exE_upd (d := d) (by omega)]
    have : ¬ d = D := by omega
    simp [upd, this]
theorem exE_s {w : Nat → Int32} {v : Int} {d : Nat} : exE w v (d + 1) = (exE w v d || decide ((w d).toInt = v)) := rfl
theorem MB_set {m y : Int32} {w : Nat → Int32} {d r : Nat} (h : MB m w d) (hr : r < 16) (e : ∀ i : Nat, i < 16 → bt y i = (bt m i || decide (i = r))) : MB y (upd w d (nI r)) (d + 1) := fun i hi => by
  rw [e i hi, h i hi, exE_s, exE_upd (Nat.le_refl d)]
  congr 1
  have : (upd w d (nI r) d).toInt = (r : Int) := by simp [upd]; exact nI_toInt (by omega)
  rw [this]
  by_cases q : i = r
  · subst q; simp
  · have : ¬ (r : Int) = (i : Int) := by omega
    simp [q, this]
theorem MB_clr {m y : Int32} {w : Nat → Int32} {d r : Nat} (h : MB m (upd w d (nI r)) (d + 1)) (hr : r < 16) (hn : exE w (r : Int) d = false) (e : ∀ i : Nat, i < 16 → bt y i = (bt m i && !decide (i = r))) : MB y w d := fun i hi => by
  rw [e i hi, h i hi, exE_s, exE_upd (Nat.le_refl d)]
  have h2 : (upd w d (nI r) d).toInt = (r : Int) := by simp [upd]; exact nI_toInt (by omega)
  rw [h2]
  by_cases q : i = r
  · subst q; simp [hn]
  · have : ¬ (r : Int) = (i : Int) := by omega
    simp [q, this]
/-- where a road ends that is gone from a spot, in the class's own number -/
def leE (X : vI) (r : Nat) (s : Int) : Int := if leadsF X r s < 0 then -9 else leadsF X r s
theorem ed7 {n : Nat} {sh : vS} {I : vI} {R : vR} {X : vI} {r j : Nat} {s : Int} {v : Int} (h : RD n sh I R X r j) (hs : (sh j).1 = 7 ∨ (sh j).1 = 3) (e : v = (if ¬ ((I j 4).toInt = 0 ∧ ((sh j).1 = 3 → (I j 5).toInt = 0)) then -9 else if s = (I j 0).toInt then (I j 1).toInt else if s = (I j 1).toInt then (I j 0).toInt else -9)) : v = leE X r s := by
  obtain ⟨-, -, -, h1, ⟨h2, h3, -, -, h4⟩, h5, h6, h7⟩ := h
  have hc : (sh j).1 = rdC (X 31 r).toInt := by rw [h1]
  rw [h2, h3, h4] at e
  rw [e]
  unfold leE leadsF
  rcases hs with hs | hs
  · have hz : ¬ (sh j).1 = 3 := by omega
    have hk : (X 31 r).toInt ≠ 2 := fun z => by rw [hs, z] at hc; simp [rdC] at hc
    have hk1 : (X 31 r).toInt ≠ 1 := fun z => by rw [hs, z] at hc; simp [rdC] at hc
    have h8 := h6 hk
    simp only [hz, false_implies, and_true]
    (repeat' split) <;> first | rfl | omega
  · have hk : (X 31 r).toInt = 2 := by
      unfold rdC at hc
      (repeat' split at hc) <;> omega
    have h8 := h5 hk
    simp only [hs, true_implies]
    rw [h8]
    (repeat' split) <;> first | rfl | omega
theorem ed6 {n : Nat} {sh : vS} {I : vI} {R : vR} {X : vI} {r j : Nat} {s : Int} {v : Int} (h : RD n sh I R X r j) (hs : (sh j).1 = 6) (e : v = (if ¬ ((I j 4).toInt = 0) then -9 else if s = (I j 0).toInt then (I j 1).toInt else -9)) : v = leE X r s := by
  obtain ⟨-, -, -, h1, ⟨h2, h3, -, -, h4⟩, h5, h6, h7⟩ := h
  have hc : (sh j).1 = rdC (X 31 r).toInt := by rw [h1]
  rw [h2, h3, h4] at e
  rw [e]
  unfold leE leadsF
  have hk : (X 31 r).toInt = 1 := by
    unfold rdC at hc
    (repeat' split at hc) <;> omega
  have h8 := h6 (by omega)
  (repeat' split) <;> first | rfl | omega
theorem rdcl {n : Nat} {sh : vS} {I : vI} {R : vR} {X : vI} {r j : Nat} (h : RD n sh I R X r j) : (sh j).1 = 7 ∨ (sh j).1 = 6 ∨ (sh j).1 = 3 := by
  rw [h.2.2.2.1]; exact rdC_3 _
section VE
variable {G : vG} {own : String} {cc : ByteArray} {ret : Option FieldType} {ini : Bool} {d MC MS nL : Nat} {post : PT} {pc : Nat} {lo : List (Nat × Value)} {st st0 : List Value} {ce sl n : Nat} {sh : vS} {I : vI} {L : vL} {R : vR} {idx : Nat}
/-- road.endFrom(s) of any road of the table -/
theorem V_endF {X : vI} {r j : Nat} {s : Int32} (hw : WF n sh R) (h : RD n sh I R X r j) (o7 : OV own idx RX7 yX7_endFrom yX7_endFrom 1) (o6 : OV own idx RX6 yX7_endFrom yX6_endFrom 1) (o3 : OV own idx RX3 yX7_endFrom yX7_endFrom 1) (hd : decode cc pc = .ok (.invokevirtual idx, 3)) (hdd : 5 ≤ d) (hce : ce ≤ MC) (hsl : sl ≤ MS) (hW : (st.map fun v => v.category).sum ≤ 8)
    (kk : ∀ v : Int32, v.toInt = leE X r s.toInt → V G own cc ret ini d MC MS nL post (pc + 3) lo (.int v :: st) ce sl n sh I L R) : V G own cc ret ini d MC MS nL post pc lo (.int s :: .ref (ad G j) :: st) ce sl n sh I L R := by
  have hj := h.2.2.1
  have h56 := h.2.1
  rcases rdcl h with hs | hs | hs
  · refine V_callO (As := [.int s]) (st := st) (c_X7_endFrom G j s hw hj (Or.inl hs) h56) mf_X7_endFrom o7 hj hs (by decide) rfl hd rfl rfl (by omega) (by omega) (by omega) hW (fun r1 n1 sh1 I1 L1 R1 hq => ?_)
    obtain ⟨rfl, rfl, rfl, rfl, rfl, v, rfl, hv⟩ := hq
    exact kk v (ed7 h (Or.inl hs) hv)
  · refine V_callO (As := [.int s]) (st := st) (c_X6_endFrom G j s hw hj hs h56 (by rw [h.2.2.2.2.1.1, h.2.2.2.2.1.2.1]; exact h.2.2.2.2.2.2.2.2.2.1)) mf_X6_endFrom o6 hj hs (by decide) rfl hd rfl rfl (by omega) (by omega) (by omega) hW (fun r1 n1 sh1 I1 L1 R1 hq => ?_)
    obtain ⟨rfl, rfl, rfl, rfl, rfl, v, rfl, hv⟩ := hq
    exact kk v (ed6 h hs hv)
  · refine V_callO (As := [.int s]) (st := st) (c_X7_endFrom G j s hw hj (Or.inr (Or.inr hs)) h56) mf_X7_endFrom o3 hj hs (by decide) rfl hd rfl rfl (by omega) (by omega) (by omega) hW (fun r1 n1 sh1 I1 L1 R1 hq => ?_)
    obtain ⟨rfl, rfl, rfl, rfl, rfl, v, rfl, hv⟩ := hq
    exact kk v (ed7 h (Or.inr hs) hv)
end VE
/-- how many of the first m roads may be gone from a spot -/
def cE (X : vI) (s : Int) : Nat → Nat
  | 0 => 0
  | m + 1 => cE X s m + if leadsF X m s < 0 then 0 else 1
theorem cE_t {X : vI} {s : Int} {m : Nat} (h : ¬ leadsF X m s < 0) : cE X s (m + 1) = cE X s m + 1 := by
  show cE X s m + (if leadsF X m s < 0 then 0 else 1) = _
  rw [if_neg h]
theorem cE_f {X : vI} {s : Int} {m : Nat} (h : leadsF X m s < 0) : cE X s (m + 1) = cE X s m := by
  show cE X s m + (if leadsF X m s < 0 then 0 else 1) = _
  rw [if_pos h, Nat.add_zero]
theorem cE_le (X : vI) (s : Int) : ∀ m : Nat, cE X s m ≤ m
  | 0 => Nat.le_refl _
  | m + 1 => by
    have := cE_le X s m
    by_cases h : leadsF X m s < 0
    · rw [cE_f h]; omega
    · rw [cE_t h]; omega
theorem cE_mono (X : vI) (s : Int) (a : Nat) : ∀ k : Nat, cE X s a ≤ cE X s (a + k)
  | 0 => Nat.le_refl _
  | k + 1 => by
    have h1 := cE_mono X s a k
    show _ ≤ cE X s ((a + k) + 1)
    by_cases h : leadsF X (a + k) s < 0
    · rw [cE_f h]; omega
    · rw [cE_t h]; omega
theorem cE_lt {X : vI} {s : Int} {r m : Nat} (h : r < m) (hr : ¬ leadsF X r s < 0) : cE X s r < cE X s m := by
  have h1 := cE_mono X s (r + 1) (m - (r + 1))
  rw [cE_t hr, show r + 1 + (m - (r + 1)) = m by omega] at h1
  omega
/-- the entries of spot s for the first m roads -/
def ExR (J X : vI) (s m : Nat) : Prop := (J 5 s).toInt = (cE X (s : Int) m : Int) ∧ ∀ r, r < m → ¬ leadsF X r (s : Int) < 0 → (J 6 (16 * s + cE X (s : Int) r)).toInt = (r : Int) ∧ (J 7 (16 * s + cE X (s : Int) r)).toInt = leadsF X r (s : Int) ∧ J 8 (16 * s + cE X (s : Int) r) = X 30 r
def aeF (I X : vI) (s r : Nat) (rv ve vc : Int32) : vI := up2 (up2 (up2 (up2 I 6 (16 * s + cE X (s : Int) r) rv) 7 (16 * s + cE X (s : Int) r) ve) 8 (16 * s + cE X (s : Int) r) (X 30 r)) 5 s vc
theorem ae5 {I X : vI} {s r b : Nat} {rv ve vc : Int32} : aeF I X s r rv ve vc 5 b = if b = s then vc else I 5 b := by simp [aeF, up2]
theorem ae6 {I X : vI} {s r b : Nat} {rv ve vc : Int32} : aeF I X s r rv ve vc 6 b = if b = 16 * s + cE X (s : Int) r then rv else I 6 b := by simp [aeF, up2]
theorem ae7 {I X : vI} {s r b : Nat} {rv ve vc : Int32} : aeF I X s r rv ve vc 7 b = if b = 16 * s + cE X (s : Int) r then ve else I 7 b := by simp [aeF, up2]
theorem ae8 {I X : vI} {s r b : Nat} {rv ve vc : Int32} : aeF I X s r rv ve vc 8 b = if b = 16 * s + cE X (s : Int) r then X 30 r else I 8 b := by simp [aeF, up2]
theorem aeo {I X : vI} {s r a b : Nat} {rv ve vc : Int32} (h5 : a ≠ 5) (h6 : a ≠ 6) (h7 : a ≠ 7) (h8 : a ≠ 8) : aeF I X s r rv ve vc a b = I a b := by simp [aeF, up2, h5, h6, h7, h8]
theorem ExR_s {I X : vI} {s r : Nat} {rv ve vc : Int32} (h : ExR I X s r) (hl : ¬ leadsF X r (s : Int) < 0) (h1 : rv.toInt = (r : Int)) (h2 : ve.toInt = leadsF X r (s : Int)) (h3 : vc.toInt = (cE X (s : Int) r : Int) + 1) : ExR (aeF I X s r rv ve vc) X s (r + 1) := by
  refine ⟨by rw [ae5, if_pos rfl, cE_t hl, h3]; rfl, fun q hq hz => ?_⟩
  rw [ae6, ae7, ae8]
  rcases (show q < r ∨ q = r by omega) with z | rfl
  · have := cE_lt z hz
    rw [if_neg (by omega), if_neg (by omega), if_neg (by omega)]
    exact h.2 q z hz
  · rw [if_pos rfl, if_pos rfl, if_pos rfl]
    exact ⟨h1, h2, rfl⟩
theorem ExR_f {I X : vI} {s r : Nat} (h : ExR I X s r) (hl : leadsF X r (s : Int) < 0) : ExR I X s (r + 1) := by
  refine ⟨by rw [cE_f hl]; exact h.1, fun q hq hz => ?_⟩
  rcases (show q < r ∨ q = r by omega) with z | rfl
  · exact h.2 q z hz
  · exact absurd hl hz
theorem ExR_o {I X : vI} {s s' r m : Nat} {rv ve vc : Int32} (h : ExR I X s' m) (hm : m ≤ 16) (hne : s' ≠ s) (hr : r < 16) : ExR (aeF I X s r rv ve vc) X s' m := by
  refine ⟨by rw [ae5, if_neg hne]; exact h.1, fun q hq hz => ?_⟩
  have h1 := cE_le X (s' : Int) q
  have h2 := cE_le X (s : Int) r
  rw [ae6, ae7, ae8, if_neg (by omega), if_neg (by omega), if_neg (by omega)]
  exact h.2 q hq hz
theorem le_2 {X : vI} {r : Nat} {s v : Int} (h : v = leE X r s) : (v = -9 ∧ leadsF X r s < 0) ∨ (v = leadsF X r s ∧ 0 ≤ leadsF X r s) := by
  unfold leE at h
  split at h
  · exact Or.inl ⟨h, by assumption⟩
  · exact Or.inr ⟨h, by omega⟩
def fgF (I : vI) (j : Nat) : Nat → vI
  | 0 => up2 I j 4 0
  | m + 1 => up2 (up2 (fgF I j m) (j + 2) m 0) (j + 3) m 0
