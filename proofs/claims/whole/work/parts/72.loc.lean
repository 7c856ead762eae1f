/-- the reference's rows are X's, all others J's -/
def mx (J X : vI) : vI := fun a => if 27 ≤ a ∧ a ≤ 55 then X a else J a
theorem mx_i {J X : vI} {a : Nat} (h : 27 ≤ a ∧ a ≤ 55) : mx J X a = X a := if_pos h
theorem mx_o {J X : vI} {a : Nat} (h : ¬ (27 ≤ a ∧ a ≤ 55)) : mx J X a = J a := if_neg h
theorem mx_ag {I X : vI} (h : ∀ a, 27 ≤ a → a ≤ 55 → I a = X a) : I = mx I X := funext fun a => by
  by_cases q : 27 ≤ a ∧ a ≤ 55
  · rw [mx_i q]; exact h a q.1 q.2
  · rw [mx_o q]
theorem mxU {J X : vI} {a k : Nat} {v : Int32} (h : 27 ≤ a ∧ a ≤ 55) : up2 (mx J X) a k v = mx J (up2 X a k v) := by
  funext x y
  by_cases q : 27 ≤ x ∧ x ≤ 55
  · rw [mx_i q]
    by_cases z : x = a ∧ y = k
    · obtain ⟨rfl, rfl⟩ := z; rw [up2_e, up2_e]
    · unfold up2
      rw [if_neg z, if_neg z, mx_i q]
  · rw [mx_o q, up2_o (fun e => q (by rw [e]; exact h)), mx_o q]
theorem mxC {J X : vI} {d : Nat} {q : Int} {g : Nat → Int32} (h : 27 ≤ d ∧ d ≤ 55) : ∀ m : Nat, cpF (mx J X) d q g m = mx J (cpF X d q g m)
  | 0 => rfl
  | m + 1 => by
    show up2 (cpF (mx J X) d q g m) d _ _ = mx J (up2 (cpF X d q g m) d _ _)
    rw [mxC h m, mxU h]
theorem mxZ {J X : vI} : ∀ m : Nat, zzF (mx J X) m = mx J (zzF X m)
  | 0 => rfl
  | m + 1 => by
    show up2 (up2 (zzF (mx J X) m) 53 m 0) 55 m 0 = mx J (up2 (up2 (zzF X m) 53 m 0) 55 m 0)
    rw [mxZ m, mxU (by decide), mxU (by decide)]
section LOC
variable {J X : vI}
theorem nwF_m {a : Int} : ∀ N : Nat, nwF (mx J X) a N = nwF X a N
  | 0 => rfl
  | N + 1 => by
    show (if (X 45 N).toInt = a then X 46 N else nwF (mx J X) a N) = _
    rw [nwF_m N]; rfl
theorem nxF_m {a : Int} {p : Int32} : ∀ N : Nat, nxF (mx J X) a p N = nxF X a p N
  | 0 => rfl
  | N + 1 => by
    show (if a < (X 45 N).toInt ∧ (X 45 N).toInt < (nxF (mx J X) a p N).toInt then X 45 N else nxF (mx J X) a p N) = _
    rw [nxF_m N]; rfl
theorem dueF_m {p : Int32} : ∀ (f : Nat) (a : Int), dueF (mx J X) p f a = dueF X p f a
  | 0, _ => rfl
  | f + 1, a => by
    show (if a < p.toInt then (600 * ((nxF (mx J X) a p (X 27 27).toInt.toNat).toInt - a)).tdiv (nwF (mx J X) a (X 27 27).toInt.toNat).toInt + dueF (mx J X) p f (nxF (mx J X) a p (X 27 27).toInt.toNat).toInt else 0) = _
    rw [nxF_m, nwF_m, dueF_m f]; rfl
theorem carF_m {a c : Int} : ∀ N : Nat, carF (mx J X) a c N = carF X a c N
  | 0 => rfl
  | N + 1 => by
    show carF (mx J X) a c N + _ = carF X a c N + _
    rw [carF_m N]; rfl
theorem psF_m : ∀ N : Nat, psF (mx J X) N = psF X N
  | 0 => rfl
  | N + 1 => by
    show psF (mx J X) N + _ = psF X N + _
    rw [psF_m N]; rfl
theorem raF_m {p : Int} {N : Nat} : ∀ g m : Nat, raF (mx J X) p N g m = raF X p N g m
  | 0, _ => rfl
  | g + 1, m => by
    rw [raF_s, raF_s, psF_m, raF_m g]; rfl
theorem pvF_m {q : Int} {N : Nat} : ∀ (g x : Nat) (s c a : Int), pvF (mx J X) q N g x s c a = pvF X q N g x s c a
  | 0, x, s, c, a => rfl
  | g + 1, x, s, c, a => by
    rw [pvF_s, pvF_s, pvF_m g]
    rfl
theorem errF_m {a c : Int} : errF (mx J X) a c = errF X a c := by
  have e1 : errE (mx J X) a c = errE X a c := by
    show _ - _ - dueF (mx J X) (X 47 c.toNat) 10 0 = _ - _ - dueF X (X 47 c.toNat) 10 0
    rw [dueF_m]; rfl
  unfold errF
  rw [e1, carF_m]; rfl
theorem ptsF_m {a c : Int} : ptsF (mx J X) a c = ptsF X a c := by
  unfold ptsF
  rw [errF_m]; rfl
theorem totF_m {a : Int} : ∀ N : Nat, totF (mx J X) a N = totF X a N
  | 0 => rfl
  | N + 1 => by
    show totF (mx J X) a N + ptsF (mx J X) a (N : Int) = _
    rw [totF_m N, ptsF_m]; rfl
theorem fbF_m {a b : Int} : ∀ N : Nat, fbF (mx J X) a b N = fbF X a b N
  | 0 => rfl
  | N + 1 => by
    show pIf (ptsF (mx J X) a (N : Int) ≠ ptsF (mx J X) b (N : Int) ∧ (fbF (mx J X) a b N < 0 ∨ (X 47 N).toInt < (X 47 (fbF (mx J X) a b N).toNat).toInt)) (N : Int) (fbF (mx J X) a b N) = _
    rw [ptsF_m, ptsF_m, fbF_m N]; rfl
theorem betP_m {a b : Int} : betP (mx J X) a b = betP X a b := by
  unfold betP
  simp only [totF_m, fbF_m, ptsF_m]
  rfl
theorem rkP_m {a : Int} : rkP (mx J X) a = rkP X a := funext fun k => by
  unfold rkP
  rw [betP_m]
theorem goR_m : ∀ (D d : Nat) (w : Nat → Int32) (s fo su : Int) (g : Sg), goR (mx J X) D d w s fo su g = goR X D d w s fo su g
  | 0, _, _, _, _, _, _ => rfl
  | D + 1, d, w, s, fo, su, g => by
    have h : (fun (w' : Nat → Int32) (s' fo' su' : Int) (g' : Sg) => goR (mx J X) D (d + 1) w' s' fo' su' g') = fun w' s' fo' su' g' => goR X D (d + 1) w' s' fo' su' g' := by
      funext w' s' fo' su' g'
      exact goR_m D (d + 1) w' s' fo' su' g'
    show itR (stR (mx J X) (fun w' s' fo' su' g' => goR (mx J X) D (d + 1) w' s' fo' su' g') d w s fo su) (X 27 1).toInt.toNat 0 g = _
    rw [h]; rfl
theorem srF_m : srF (mx J X) = srF X := by
  unfold srF
  rw [goR_m]; rfl
end LOC
/-- a pair's memory, J's rows put beside -/
def mxp {α : Type} (J : vI) (p : vI × α) : vI × α := (mx J p.1, p.2)
theorem mxp_ite {α : Type} {J : vI} {c : Prop} [Decidable c] {a b : vI × α} : mxp J (if c then a else b) = if c then mxp J a else mxp J b := by
  split <;> rfl
theorem mxp_bif {α : Type} {J : vI} {c : Prop} {a b : vI × α} : mxp J (bIf c a b) = bIf c (mxp J a) (mxp J b) := by
  by_cases h : c
  · rw [bIf_pos h, bIf_pos h]
  · rw [bIf_neg h, bIf_neg h]
theorem mxp_mk {α : Type} {J X : vI} {v : α} : mxp J (X, v) = (mx J X, v) := rfl
theorem Lo_qi {J : vI} {s s' : vI × Int32} {I2 : vI} {r : Option Value} (e : s' = mxp J s) (h : qi s' I2 r) : ∃ X2, I2 = mx J X2 ∧ qi s X2 r := by
  obtain ⟨v, h1, rfl⟩ := h
  rw [e] at h1
  obtain ⟨h2, h3⟩ := Prod.mk.inj h1
  exact ⟨s.1, h2.symm, v, by rw [← h3], rfl⟩
theorem Lo_ql {J : vI} {s s' : vI × Int64} {I2 : vI} {r : Option Value} (e : s' = mxp J s) (h : ql s' I2 r) : ∃ X2, I2 = mx J X2 ∧ ql s X2 r := by
  obtain ⟨v, h1, rfl⟩ := h
  rw [e] at h1
  obtain ⟨h2, h3⟩ := Prod.mk.inj h1
  exact ⟨s.1, h2.symm, v, by rw [← h3], rfl⟩
theorem Lo_qz {J : vI} {s s' : vI × Int} {I2 : vI} {r : Option Value} (e : s' = mxp J s) (h : qz s' I2 r) : ∃ X2, I2 = mx J X2 ∧ qz s X2 r := by
  obtain ⟨v, h1, rfl⟩ := h
  rw [e] at h1
  obtain ⟨h2, h3⟩ := Prod.mk.inj h1
  exact ⟨s.1, h2.symm, v, by rw [← h3], rfl⟩
theorem Lo_iN {J X : vI} {z z' : Int} {I2 : vI} {r : Option Value} (e : z' = z) (h : iN (mx J X) z' I2 r) : ∃ X2, I2 = mx J X2 ∧ iN X z X2 r := by
  obtain ⟨rfl, v, rfl, h⟩ := h
  exact ⟨X, rfl, rfl, v, rfl, h.trans e⟩
theorem Lo_zL {J X : vI} {z z' : Int} {I2 : vI} {r : Option Value} (e : z' = z) (h : zL (mx J X) z' I2 r) : ∃ X2, I2 = mx J X2 ∧ zL X z X2 r := by
  obtain ⟨rfl, v, rfl, h⟩ := h
  exact ⟨X, rfl, rfl, v, rfl, h.trans e⟩
theorem Lo_eN {J X : vI} {z z' : Int32} {I2 : vI} {r : Option Value} (e : z' = z) (h : eN (mx J X) z' I2 r) : ∃ X2, I2 = mx J X2 ∧ eN X z X2 r := by
  obtain ⟨rfl, rfl⟩ := h
  exact ⟨X, rfl, rfl, by rw [e]⟩
theorem sfk_o {a b : Nat} (h : ¬ (27 ≤ a ∧ a ≤ 55)) : sfk a b = true := by
  unfold sfk
  have h1 : (a == 39) = false := beq_eq_false_iff_ne.mpr (by omega)
  have h2 : (a == 40) = false := beq_eq_false_iff_ne.mpr (by omega)
  have h3 : (a == 41) = false := beq_eq_false_iff_ne.mpr (by omega)
  have h4 : (a == 42) = false := beq_eq_false_iff_ne.mpr (by omega)
  have h5 : (a == 43) = false := beq_eq_false_iff_ne.mpr (by omega)
  have h6 : (a == 27) = false := beq_eq_false_iff_ne.mpr (by omega)
  rw [h1, h2, h3, h4, h5, h6]; rfl
theorem SF_m {J X I1 : vI} (h : SF (mx J X) I1) : I1 = mx J (mx X I1) ∧ SF X (mx X I1) ∧ sgM (mx X I1) = sgM I1 := by
  refine ⟨funext fun a => ?_, fun a b q => ?_, rfl⟩
  · by_cases q : 27 ≤ a ∧ a ≤ 55
    · rw [mx_i q, mx_i q]
    · rw [mx_o q]
      funext b
      rw [h a b (sfk_o q), mx_o q]
  · by_cases z : 27 ≤ a ∧ a ≤ 55
    · rw [mx_i z, h a b q, mx_i z]
    · rw [mx_o z]
theorem Lo_wy {J X I2 : vI} {r : Option Value} (h : ∃ v : Int32, r = some (.int v) ∧ wyP (mx J X) I2 v) : ∃ X2, I2 = mx J X2 ∧ ∃ v : Int32, r = some (.int v) ∧ wyP X X2 v := by
  obtain ⟨v, rfl, ⟨h1, rfl, h3⟩ | ⟨h1, h2, h3, sp, h4, h5⟩⟩ := h
  · exact ⟨X, rfl, v, rfl, Or.inl ⟨h1, rfl, h3⟩⟩
  · obtain ⟨e1, e2, e3⟩ := SF_m h2
    refine ⟨mx X I2, e1, v, rfl, Or.inr ⟨h1, e2, by rw [e3]; exact h3, sp, by rw [e3, ← h4, srF_m], by rw [e3]; exact h5⟩⟩
theorem lyF_m {J X : vI} : lyF (mx J X) = mx J (lyF X) := by
  unfold lyF
  rw [mxU (by decide), mxU (by decide), mxC (by decide), mxU (by decide), mxU (by decide), mxU (by decide), mxZ]
  rfl
theorem Lo_ly {J X I2 : vI} {r : Option Value} (h : ∃ v : Int32, r = some (.int v) ∧ lyP (mx J X) I2 v) : ∃ X2, I2 = mx J X2 ∧ ∃ v : Int32, r = some (.int v) ∧ lyP X X2 v := by
  obtain ⟨v, rfl, ⟨h1, rfl, h3⟩ | ⟨h1, I1, h2, h3, sp, h4, h5⟩⟩ := h
  · exact ⟨X, rfl, v, rfl, Or.inl ⟨h1, rfl, h3⟩⟩
  · obtain ⟨e1, e2, e3⟩ := SF_m h2
    have h4' : srF X = (sgM (mx X I1), sp) := by rw [e3, ← h4, srF_m]
    have h3' : SB (sgM (mx X I1)) := by rw [e3]; exact h3
    rcases h5 with ⟨g1, rfl, g3⟩ | ⟨g1, g2, rfl, g3⟩ | ⟨g1, g2, g4, g3⟩
    · exact ⟨mx X I2, e1, v, rfl, Or.inr ⟨h1, mx X I2, e2, h3', sp, h4', Or.inl ⟨g1, rfl, g3⟩⟩⟩
    · exact ⟨mx X I2, e1, v, rfl, Or.inr ⟨h1, mx X I2, e2, h3', sp, h4', Or.inr (Or.inl ⟨g1, g2, rfl, g3⟩)⟩⟩
    · refine ⟨lyF (mx X I1), by rw [g4, ← lyF_m, ← e1], v, rfl, Or.inr ⟨h1, mx X I1, e2, h3', sp, h4', Or.inr (Or.inr ⟨g1, g2, rfl, g3⟩)⟩⟩
theorem JZ_I {t : Int} {n : Nat} {sh : vS} {I I' : vI} {L : vL} {R : vR} {X : vI} (h : JZ t n sh I L R X) (hI : ∀ a, ¬ (27 ≤ a ∧ a ≤ 55) → I' a = I a) : JZ t n sh I' L R X := by
  obtain ⟨⟨hw, hR, hC, hK, hS, hT, hB, hQ, hY, hV⟩, hx⟩ := h
  refine ⟨⟨hw, ?_, ?_, ?_, ?_, ?_, ?_, ?_, ?_, hV⟩, hx⟩
  · exact FRd hR (Nat.le_refl _) (fun _ _ => rfl) rfl (by rw [hI 0 (by omega)]) (fun a h1 _ _ => hI a (by omega)) rfl rfl rfl rfl rfl rfl rfl
  · exact FC hC (Nat.le_refl _) (fun _ _ => rfl) rfl (by rw [hI 0 (by omega)]) (fun a h1 _ _ => ⟨hI a (by omega), rfl⟩) rfl rfl rfl rfl rfl rfl
  · exact FKk hK (Nat.le_refl _) (fun _ _ => rfl) rfl (fun _ _ _ => rfl) (by rw [hI 0 (by omega)]) (fun a h1 _ _ => hI a (by omega)) rfl rfl rfl rfl rfl rfl rfl
  · exact FS hS (fun a h1 h2 => hI a (by omega)) rfl rfl rfl
  · exact FT hT (by rw [hI 0 (by omega)]) (by rw [hI 0 (by omega)]) rfl rfl
  · exact FB hB (by rw [hI 2 (by omega)]) (hI 3 (by omega)) rfl rfl
  · exact FQ hQ (by rw [hI 4 (by omega)]) (by rw [hI 4 (by omega)]) (hI 10 (by omega)) rfl rfl rfl
  · exact FW' hY (by rw [hI 11 (by omega)]) (by rw [hI 11 (by omega)]) (by rw [hI 11 (by omega)]) (hI 12 (by omega)) (hI 13 (by omega)) (hI 14 (by omega)) (hI 15 (by omega)) rfl rfl rfl rfl rfl rfl rfl rfl
theorem JZ_m {t : Int} {n : Nat} {sh : vS} {J : vI} {L : vL} {R : vR} {X X2 : vI} (h : JZ t n sh (mx J X) L R X2) : JZ t n sh (mx J X2) L R X2 := JZ_I h (fun a ha => by rw [mx_o ha, mx_o ha])
theorem cat2 (v : Value) : v.category ≤ 2 := by cases v <;> exact Nat.le_of_ble_eq_true rfl
section LO2
variable {J X : vI}
theorem mr27 : mx J X 27 = X 27 := rfl
theorem mu27 {k : Nat} {v : Int32} : up2 (mx J X) 27 k v = mx J (up2 X 27 k v) := mxU (by decide)
theorem mr28 : mx J X 28 = X 28 := rfl
theorem mu28 {k : Nat} {v : Int32} : up2 (mx J X) 28 k v = mx J (up2 X 28 k v) := mxU (by decide)
theorem mr29 : mx J X 29 = X 29 := rfl
theorem mu29 {k : Nat} {v : Int32} : up2 (mx J X) 29 k v = mx J (up2 X 29 k v) := mxU (by decide)
theorem mr30 : mx J X 30 = X 30 := rfl
theorem mu30 {k : Nat} {v : Int32} : up2 (mx J X) 30 k v = mx J (up2 X 30 k v) := mxU (by decide)
theorem mr31 : mx J X 31 = X 31 := rfl
theorem mu31 {k : Nat} {v : Int32} : up2 (mx J X) 31 k v = mx J (up2 X 31 k v) := mxU (by decide)
theorem mr32 : mx J X 32 = X 32 := rfl
theorem mu32 {k : Nat} {v : Int32} : up2 (mx J X) 32 k v = mx J (up2 X 32 k v) := mxU (by decide)
theorem mr33 : mx J X 33 = X 33 := rfl
theorem mu33 {k : Nat} {v : Int32} : up2 (mx J X) 33 k v = mx J (up2 X 33 k v) := mxU (by decide)
theorem mr34 : mx J X 34 = X 34 := rfl
theorem mu34 {k : Nat} {v : Int32} : up2 (mx J X) 34 k v = mx J (up2 X 34 k v) := mxU (by decide)
theorem mr35 : mx J X 35 = X 35 := rfl
theorem mu35 {k : Nat} {v : Int32} : up2 (mx J X) 35 k v = mx J (up2 X 35 k v) := mxU (by decide)
theorem mr36 : mx J X 36 = X 36 := rfl
theorem mu36 {k : Nat} {v : Int32} : up2 (mx J X) 36 k v = mx J (up2 X 36 k v) := mxU (by decide)
theorem mr37 : mx J X 37 = X 37 := rfl
theorem mu37 {k : Nat} {v : Int32} : up2 (mx J X) 37 k v = mx J (up2 X 37 k v) := mxU (by decide)
theorem mr38 : mx J X 38 = X 38 := rfl
theorem mu38 {k : Nat} {v : Int32} : up2 (mx J X) 38 k v = mx J (up2 X 38 k v) := mxU (by decide)
theorem mr39 : mx J X 39 = X 39 := rfl
theorem mu39 {k : Nat} {v : Int32} : up2 (mx J X) 39 k v = mx J (up2 X 39 k v) := mxU (by decide)
theorem mr40 : mx J X 40 = X 40 := rfl
theorem mu40 {k : Nat} {v : Int32} : up2 (mx J X) 40 k v = mx J (up2 X 40 k v) := mxU (by decide)
theorem mr41 : mx J X 41 = X 41 := rfl
theorem mu41 {k : Nat} {v : Int32} : up2 (mx J X) 41 k v = mx J (up2 X 41 k v) := mxU (by decide)
theorem mr42 : mx J X 42 = X 42 := rfl
theorem mu42 {k : Nat} {v : Int32} : up2 (mx J X) 42 k v = mx J (up2 X 42 k v) := mxU (by decide)
theorem mr43 : mx J X 43 = X 43 := rfl
theorem mu43 {k : Nat} {v : Int32} : up2 (mx J X) 43 k v = mx J (up2 X 43 k v) := mxU (by decide)
theorem mr44 : mx J X 44 = X 44 := rfl
theorem mu44 {k : Nat} {v : Int32} : up2 (mx J X) 44 k v = mx J (up2 X 44 k v) := mxU (by decide)
theorem mr45 : mx J X 45 = X 45 := rfl
theorem mu45 {k : Nat} {v : Int32} : up2 (mx J X) 45 k v = mx J (up2 X 45 k v) := mxU (by decide)
theorem mr46 : mx J X 46 = X 46 := rfl
theorem mu46 {k : Nat} {v : Int32} : up2 (mx J X) 46 k v = mx J (up2 X 46 k v) := mxU (by decide)
theorem mr47 : mx J X 47 = X 47 := rfl
theorem mu47 {k : Nat} {v : Int32} : up2 (mx J X) 47 k v = mx J (up2 X 47 k v) := mxU (by decide)
theorem mr48 : mx J X 48 = X 48 := rfl
theorem mu48 {k : Nat} {v : Int32} : up2 (mx J X) 48 k v = mx J (up2 X 48 k v) := mxU (by decide)
theorem mr49 : mx J X 49 = X 49 := rfl
theorem mu49 {k : Nat} {v : Int32} : up2 (mx J X) 49 k v = mx J (up2 X 49 k v) := mxU (by decide)
theorem mr50 : mx J X 50 = X 50 := rfl
theorem mu50 {k : Nat} {v : Int32} : up2 (mx J X) 50 k v = mx J (up2 X 50 k v) := mxU (by decide)
theorem mr51 : mx J X 51 = X 51 := rfl
theorem mu51 {k : Nat} {v : Int32} : up2 (mx J X) 51 k v = mx J (up2 X 51 k v) := mxU (by decide)
theorem mr52 : mx J X 52 = X 52 := rfl
theorem mu52 {k : Nat} {v : Int32} : up2 (mx J X) 52 k v = mx J (up2 X 52 k v) := mxU (by decide)
theorem mr53 : mx J X 53 = X 53 := rfl
theorem mu53 {k : Nat} {v : Int32} : up2 (mx J X) 53 k v = mx J (up2 X 53 k v) := mxU (by decide)
theorem mr54 : mx J X 54 = X 54 := rfl
theorem mu54 {k : Nat} {v : Int32} : up2 (mx J X) 54 k v = mx J (up2 X 54 k v) := mxU (by decide)
theorem mr55 : mx J X 55 = X 55 := rfl
theorem mu55 {k : Nat} {v : Int32} : up2 (mx J X) 55 k v = mx J (up2 X 55 k v) := mxU (by decide)
set_option maxHeartbeats 1000000 in
theorem Lp_sRoad {a b l k : Int32} : sRoad (mx J X) a b l k = mxp J (sRoad X a b l k) := by
  unfold sRoad 
  simp only [mxp_ite, mxp_bif, mxp_mk, mr27, mr28, mr29, mr30, mr31, mr32, mr33, mr34, mr35, mr36, mr37, mr38, mr39, mr40, mr41, mr42, mr43, mr44, mr45, mr46, mr47, mr48, mr49, mr50, mr51, mr52, mr53, mr54, mr55, mu27, mu28, mu29, mu30, mu31, mu32, mu33, mu34, mu35, mu36, mu37, mu38, mu39, mu40, mu41, mu42, mu43, mu44, mu45, mu46, mu47, mu48, mu49, mu50, mu51, mu52, mu53, mu54, mu55, mxC (show 27 ≤ 36 ∧ 36 ≤ 55 by decide), mxC (show 27 ≤ 37 ∧ 37 ≤ 55 by decide), mxC (show 27 ≤ 38 ∧ 38 ≤ 55 by decide), pvF_m]
  try rfl
set_option maxHeartbeats 1000000 in
theorem Lp_sShut {r b : Int32} : sShut (mx J X) r b = mxp J (sShut X r b) := by
  unfold sShut isRoad
  simp only [mxp_ite, mxp_bif, mxp_mk, mr27, mr28, mr29, mr30, mr31, mr32, mr33, mr34, mr35, mr36, mr37, mr38, mr39, mr40, mr41, mr42, mr43, mr44, mr45, mr46, mr47, mr48, mr49, mr50, mr51, mr52, mr53, mr54, mr55, mu27, mu28, mu29, mu30, mu31, mu32, mu33, mu34, mu35, mu36, mu37, mu38, mu39, mu40, mu41, mu42, mu43, mu44, mu45, mu46, mu47, mu48, mu49, mu50, mu51, mu52, mu53, mu54, mu55, mxC (show 27 ≤ 36 ∧ 36 ≤ 55 by decide), mxC (show 27 ≤ 37 ∧ 37 ≤ 55 by decide), mxC (show 27 ≤ 38 ∧ 38 ≤ 55 by decide), pvF_m]
  try rfl
set_option maxHeartbeats 1000000 in
theorem Lp_sWet {r b : Int32} : sWet (mx J X) r b = mxp J (sWet X r b) := by
  unfold sWet isRoad
  simp only [mxp_ite, mxp_bif, mxp_mk, mr27, mr28, mr29, mr30, mr31, mr32, mr33, mr34, mr35, mr36, mr37, mr38, mr39, mr40, mr41, mr42, mr43, mr44, mr45, mr46, mr47, mr48, mr49, mr50, mr51, mr52, mr53, mr54, mr55, mu27, mu28, mu29, mu30, mu31, mu32, mu33, mu34, mu35, mu36, mu37, mu38, mu39, mu40, mu41, mu42, mu43, mu44, mu45, mu46, mu47, mu48, mu49, mu50, mu51, mu52, mu53, mu54, mu55, mxC (show 27 ≤ 36 ∧ 36 ≤ 55 by decide), mxC (show 27 ≤ 37 ∧ 37 ≤ 55 by decide), mxC (show 27 ≤ 38 ∧ 38 ≤ 55 by decide), pvF_m]
  try rfl
set_option maxHeartbeats 1000000 in
theorem Lp_sLose {k : Int32} : sLose (mx J X) k = mxp J (sLose X k) := by
  unfold sLose isSheet
  simp only [mxp_ite, mxp_bif, mxp_mk, mr27, mr28, mr29, mr30, mr31, mr32, mr33, mr34, mr35, mr36, mr37, mr38, mr39, mr40, mr41, mr42, mr43, mr44, mr45, mr46, mr47, mr48, mr49, mr50, mr51, mr52, mr53, mr54, mr55, mu27, mu28, mu29, mu30, mu31, mu32, mu33, mu34, mu35, mu36, mu37, mu38, mu39, mu40, mu41, mu42, mu43, mu44, mu45, mu46, mu47, mu48, mu49, mu50, mu51, mu52, mu53, mu54, mu55, mxC (show 27 ≤ 36 ∧ 36 ≤ 55 by decide), mxC (show 27 ≤ 37 ∧ 37 ≤ 55 by decide), mxC (show 27 ≤ 38 ∧ 38 ≤ 55 by decide), pvF_m]
  try rfl
set_option maxHeartbeats 1000000 in
theorem Lp_sPut {k i v : Int32} : sPut (mx J X) k i v = mxp J (sPut X k i v) := by
  unfold sPut isSheet noCellF
  simp only [mxp_ite, mxp_bif, mxp_mk, mr27, mr28, mr29, mr30, mr31, mr32, mr33, mr34, mr35, mr36, mr37, mr38, mr39, mr40, mr41, mr42, mr43, mr44, mr45, mr46, mr47, mr48, mr49, mr50, mr51, mr52, mr53, mr54, mr55, mu27, mu28, mu29, mu30, mu31, mu32, mu33, mu34, mu35, mu36, mu37, mu38, mu39, mu40, mu41, mu42, mu43, mu44, mu45, mu46, mu47, mu48, mu49, mu50, mu51, mu52, mu53, mu54, mu55, mxC (show 27 ≤ 36 ∧ 36 ≤ 55 by decide), mxC (show 27 ≤ 37 ∧ 37 ≤ 55 by decide), mxC (show 27 ≤ 38 ∧ 38 ≤ 55 by decide), pvF_m]
  try rfl
set_option maxHeartbeats 1000000 in
theorem Lp_sCell {k i lane : Int32} : sCell (mx J X) k i lane = mxp J (sCell X k i lane) := by
  unfold sCell isSheet isLane noCellF
  simp only [mxp_ite, mxp_bif, mxp_mk, mr27, mr28, mr29, mr30, mr31, mr32, mr33, mr34, mr35, mr36, mr37, mr38, mr39, mr40, mr41, mr42, mr43, mr44, mr45, mr46, mr47, mr48, mr49, mr50, mr51, mr52, mr53, mr54, mr55, mu27, mu28, mu29, mu30, mu31, mu32, mu33, mu34, mu35, mu36, mu37, mu38, mu39, mu40, mu41, mu42, mu43, mu44, mu45, mu46, mu47, mu48, mu49, mu50, mu51, mu52, mu53, mu54, mu55, mxC (show 27 ≤ 36 ∧ 36 ≤ 55 by decide), mxC (show 27 ≤ 37 ∧ 37 ≤ 55 by decide), mxC (show 27 ≤ 38 ∧ 38 ≤ 55 by decide), pvF_m]
  try rfl
set_option maxHeartbeats 1000000 in
theorem Lp_sSpeed {p v : Int32} : sSpeed (mx J X) p v = mxp J (sSpeed X p v) := by
  unfold sSpeed 
  simp only [mxp_ite, mxp_bif, mxp_mk, mr27, mr28, mr29, mr30, mr31, mr32, mr33, mr34, mr35, mr36, mr37, mr38, mr39, mr40, mr41, mr42, mr43, mr44, mr45, mr46, mr47, mr48, mr49, mr50, mr51, mr52, mr53, mr54, mr55, mu27, mu28, mu29, mu30, mu31, mu32, mu33, mu34, mu35, mu36, mu37, mu38, mu39, mu40, mu41, mu42, mu43, mu44, mu45, mu46, mu47, mu48, mu49, mu50, mu51, mu52, mu53, mu54, mu55, mxC (show 27 ≤ 36 ∧ 36 ≤ 55 by decide), mxC (show 27 ≤ 37 ∧ 37 ≤ 55 by decide), mxC (show 27 ≤ 38 ∧ 38 ≤ 55 by decide), pvF_m]
  try rfl
set_option maxHeartbeats 1000000 in
theorem Lp_sWatch {c a b x y : Int32} : sWatch (mx J X) c a b x y = mxp J (sWatch X c a b x y) := by
  unfold sWatch isCtl isTm
  simp only [mxp_ite, mxp_bif, mxp_mk, mr27, mr28, mr29, mr30, mr31, mr32, mr33, mr34, mr35, mr36, mr37, mr38, mr39, mr40, mr41, mr42, mr43, mr44, mr45, mr46, mr47, mr48, mr49, mr50, mr51, mr52, mr53, mr54, mr55, mu27, mu28, mu29, mu30, mu31, mu32, mu33, mu34, mu35, mu36, mu37, mu38, mu39, mu40, mu41, mu42, mu43, mu44, mu45, mu46, mu47, mu48, mu49, mu50, mu51, mu52, mu53, mu54, mu55, mxC (show 27 ≤ 36 ∧ 36 ≤ 55 by decide), mxC (show 27 ≤ 37 ∧ 37 ≤ 55 by decide), mxC (show 27 ≤ 38 ∧ 38 ≤ 55 by decide), pvF_m]
  try rfl
set_option maxHeartbeats 1000000 in
theorem Lp_sStrike {c b : Int32} : sStrike (mx J X) c b = mxp J (sStrike X c b) := by
  unfold sStrike isCtl
  simp only [mxp_ite, mxp_bif, mxp_mk, mr27, mr28, mr29, mr30, mr31, mr32, mr33, mr34, mr35, mr36, mr37, mr38, mr39, mr40, mr41, mr42, mr43, mr44, mr45, mr46, mr47, mr48, mr49, mr50, mr51, mr52, mr53, mr54, mr55, mu27, mu28, mu29, mu30, mu31, mu32, mu33, mu34, mu35, mu36, mu37, mu38, mu39, mu40, mu41, mu42, mu43, mu44, mu45, mu46, mu47, mu48, mu49, mu50, mu51, mu52, mu53, mu54, mu55, mxC (show 27 ≤ 36 ∧ 36 ≤ 55 by decide), mxC (show 27 ≤ 37 ∧ 37 ≤ 55 by decide), mxC (show 27 ≤ 38 ∧ 38 ≤ 55 by decide), pvF_m]
  try rfl
set_option maxHeartbeats 1000000 in
theorem Lp_sCar {s k : Int32} : sCar (mx J X) s k = mxp J (sCar X s k) := by
  unfold sCar 
  simp only [mxp_ite, mxp_bif, mxp_mk, mr27, mr28, mr29, mr30, mr31, mr32, mr33, mr34, mr35, mr36, mr37, mr38, mr39, mr40, mr41, mr42, mr43, mr44, mr45, mr46, mr47, mr48, mr49, mr50, mr51, mr52, mr53, mr54, mr55, mu27, mu28, mu29, mu30, mu31, mu32, mu33, mu34, mu35, mu36, mu37, mu38, mu39, mu40, mu41, mu42, mu43, mu44, mu45, mu46, mu47, mu48, mu49, mu50, mu51, mu52, mu53, mu54, mu55, mxC (show 27 ≤ 36 ∧ 36 ≤ 55 by decide), mxC (show 27 ≤ 37 ∧ 37 ≤ 55 by decide), mxC (show 27 ≤ 38 ∧ 38 ≤ 55 by decide), pvF_m]
  try rfl
set_option maxHeartbeats 1000000 in
theorem Lp_sClock {car c t : Int32} : sClock (mx J X) car c t = mxp J (sClock X car c t) := by
  unfold sClock isCar isCtl isTm
  simp only [mxp_ite, mxp_bif, mxp_mk, mr27, mr28, mr29, mr30, mr31, mr32, mr33, mr34, mr35, mr36, mr37, mr38, mr39, mr40, mr41, mr42, mr43, mr44, mr45, mr46, mr47, mr48, mr49, mr50, mr51, mr52, mr53, mr54, mr55, mu27, mu28, mu29, mu30, mu31, mu32, mu33, mu34, mu35, mu36, mu37, mu38, mu39, mu40, mu41, mu42, mu43, mu44, mu45, mu46, mu47, mu48, mu49, mu50, mu51, mu52, mu53, mu54, mu55, mxC (show 27 ≤ 36 ∧ 36 ≤ 55 by decide), mxC (show 27 ≤ 37 ∧ 37 ≤ 55 by decide), mxC (show 27 ≤ 38 ∧ 38 ≤ 55 by decide), pvF_m]
  try rfl
set_option maxHeartbeats 1000000 in
theorem Lp_sAllow {car c a : Int32} : sAllow (mx J X) car c a = mxp J (sAllow X car c a) := by
  unfold sAllow isCar isCtl
  simp only [mxp_ite, mxp_bif, mxp_mk, mr27, mr28, mr29, mr30, mr31, mr32, mr33, mr34, mr35, mr36, mr37, mr38, mr39, mr40, mr41, mr42, mr43, mr44, mr45, mr46, mr47, mr48, mr49, mr50, mr51, mr52, mr53, mr54, mr55, mu27, mu28, mu29, mu30, mu31, mu32, mu33, mu34, mu35, mu36, mu37, mu38, mu39, mu40, mu41, mu42, mu43, mu44, mu45, mu46, mu47, mu48, mu49, mu50, mu51, mu52, mu53, mu54, mu55, mxC (show 27 ≤ 36 ∧ 36 ≤ 55 by decide), mxC (show 27 ≤ 37 ∧ 37 ≤ 55 by decide), mxC (show 27 ≤ 38 ∧ 38 ≤ 55 by decide), pvF_m]
  try rfl
set_option maxHeartbeats 1000000 in
theorem Lp_sTell {r : Int32} : sTell (mx J X) r = mxp J (sTell X r) := by
  unfold sTell isRoad trF
  simp only [mxp_ite, mxp_bif, mxp_mk, mr27, mr28, mr29, mr30, mr31, mr32, mr33, mr34, mr35, mr36, mr37, mr38, mr39, mr40, mr41, mr42, mr43, mr44, mr45, mr46, mr47, mr48, mr49, mr50, mr51, mr52, mr53, mr54, mr55, mu27, mu28, mu29, mu30, mu31, mu32, mu33, mu34, mu35, mu36, mu37, mu38, mu39, mu40, mu41, mu42, mu43, mu44, mu45, mu46, mu47, mu48, mu49, mu50, mu51, mu52, mu53, mu54, mu55, mxC (show 27 ≤ 36 ∧ 36 ≤ 55 by decide), mxC (show 27 ≤ 37 ∧ 37 ≤ 55 by decide), mxC (show 27 ≤ 38 ∧ 38 ≤ 55 by decide), pvF_m]
  try rfl
set_option maxHeartbeats 1000000 in
theorem Lp_sGreet {c : Int32} : sGreet (mx J X) c = mxp J (sGreet X c) := by
  unfold sGreet isCar trF
  simp only [mxp_ite, mxp_bif, mxp_mk, mr27, mr28, mr29, mr30, mr31, mr32, mr33, mr34, mr35, mr36, mr37, mr38, mr39, mr40, mr41, mr42, mr43, mr44, mr45, mr46, mr47, mr48, mr49, mr50, mr51, mr52, mr53, mr54, mr55, mu27, mu28, mu29, mu30, mu31, mu32, mu33, mu34, mu35, mu36, mu37, mu38, mu39, mu40, mu41, mu42, mu43, mu44, mu45, mu46, mu47, mu48, mu49, mu50, mu51, mu52, mu53, mu54, mu55, mxC (show 27 ≤ 36 ∧ 36 ≤ 55 by decide), mxC (show 27 ≤ 37 ∧ 37 ≤ 55 by decide), mxC (show 27 ≤ 38 ∧ 38 ≤ 55 by decide), pvF_m]
  try rfl
set_option maxHeartbeats 1000000 in
theorem Lp_sAs {c k : Int32} : sAs (mx J X) c k = mxp J (sAs X c k) := by
  unfold sAs isCar
  simp only [mxp_ite, mxp_bif, mxp_mk, mr27, mr28, mr29, mr30, mr31, mr32, mr33, mr34, mr35, mr36, mr37, mr38, mr39, mr40, mr41, mr42, mr43, mr44, mr45, mr46, mr47, mr48, mr49, mr50, mr51, mr52, mr53, mr54, mr55, mu27, mu28, mu29, mu30, mu31, mu32, mu33, mu34, mu35, mu36, mu37, mu38, mu39, mu40, mu41, mu42, mu43, mu44, mu45, mu46, mu47, mu48, mu49, mu50, mu51, mu52, mu53, mu54, mu55, mxC (show 27 ≤ 36 ∧ 36 ≤ 55 by decide), mxC (show 27 ≤ 37 ∧ 37 ≤ 55 by decide), mxC (show 27 ≤ 38 ∧ 38 ≤ 55 by decide), pvF_m]
  try rfl
set_option maxHeartbeats 1000000 in
theorem Lp_sControl {p : Int32} : sControl (mx J X) p = mxp J (sControl X p) := by
  unfold sControl 
  simp only [mxp_ite, mxp_bif, mxp_mk, mr27, mr28, mr29, mr30, mr31, mr32, mr33, mr34, mr35, mr36, mr37, mr38, mr39, mr40, mr41, mr42, mr43, mr44, mr45, mr46, mr47, mr48, mr49, mr50, mr51, mr52, mr53, mr54, mr55, mu27, mu28, mu29, mu30, mu31, mu32, mu33, mu34, mu35, mu36, mu37, mu38, mu39, mu40, mu41, mu42, mu43, mu44, mu45, mu46, mu47, mu48, mu49, mu50, mu51, mu52, mu53, mu54, mu55, mxC (show 27 ≤ 36 ∧ 36 ≤ 55 by decide), mxC (show 27 ≤ 37 ∧ 37 ≤ 55 by decide), mxC (show 27 ≤ 38 ∧ 38 ≤ 55 by decide), pvF_m]
  try rfl
set_option maxHeartbeats 1000000 in
theorem Lp_sSheet {k l m : Int32} : sSheet (mx J X) k l m = mxp J (sSheet X k l m) := by
  unfold sSheet isSheet isLane
  simp only [mxp_ite, mxp_bif, mxp_mk, mr27, mr28, mr29, mr30, mr31, mr32, mr33, mr34, mr35, mr36, mr37, mr38, mr39, mr40, mr41, mr42, mr43, mr44, mr45, mr46, mr47, mr48, mr49, mr50, mr51, mr52, mr53, mr54, mr55, mu27, mu28, mu29, mu30, mu31, mu32, mu33, mu34, mu35, mu36, mu37, mu38, mu39, mu40, mu41, mu42, mu43, mu44, mu45, mu46, mu47, mu48, mu49, mu50, mu51, mu52, mu53, mu54, mu55, mxC (show 27 ≤ 36 ∧ 36 ≤ 55 by decide), mxC (show 27 ≤ 37 ∧ 37 ≤ 55 by decide), mxC (show 27 ≤ 38 ∧ 38 ≤ 55 by decide), pvF_m]
  try rfl
set_option maxHeartbeats 1000000 in
theorem Lp_sBook {k l i m : Int32} : sBook (mx J X) k l i m = mxp J (sBook X k l i m) := by
  unfold sBook isSheet isLane faultF
  simp only [mxp_ite, mxp_bif, mxp_mk, mr27, mr28, mr29, mr30, mr31, mr32, mr33, mr34, mr35, mr36, mr37, mr38, mr39, mr40, mr41, mr42, mr43, mr44, mr45, mr46, mr47, mr48, mr49, mr50, mr51, mr52, mr53, mr54, mr55, mu27, mu28, mu29, mu30, mu31, mu32, mu33, mu34, mu35, mu36, mu37, mu38, mu39, mu40, mu41, mu42, mu43, mu44, mu45, mu46, mu47, mu48, mu49, mu50, mu51, mu52, mu53, mu54, mu55, mxC (show 27 ≤ 36 ∧ 36 ≤ 55 by decide), mxC (show 27 ≤ 37 ∧ 37 ≤ 55 by decide), mxC (show 27 ≤ 38 ∧ 38 ≤ 55 by decide), pvF_m]
  try rfl
set_option maxHeartbeats 1000000 in
theorem Lp_sCopy {k i o j m : Int32} : sCopy (mx J X) k i o j m = mxp J (sCopy X k i o j m) := by
  unfold sCopy isSheet cp1F cp2F
  simp only [mxp_ite, mxp_bif, mxp_mk, mr27, mr28, mr29, mr30, mr31, mr32, mr33, mr34, mr35, mr36, mr37, mr38, mr39, mr40, mr41, mr42, mr43, mr44, mr45, mr46, mr47, mr48, mr49, mr50, mr51, mr52, mr53, mr54, mr55, mu27, mu28, mu29, mu30, mu31, mu32, mu33, mu34, mu35, mu36, mu37, mu38, mu39, mu40, mu41, mu42, mu43, mu44, mu45, mu46, mu47, mu48, mu49, mu50, mu51, mu52, mu53, mu54, mu55, mxC (show 27 ≤ 36 ∧ 36 ≤ 55 by decide), mxC (show 27 ≤ 37 ∧ 37 ≤ 55 by decide), mxC (show 27 ≤ 38 ∧ 38 ≤ 55 by decide), pvF_m]
  try rfl
set_option maxHeartbeats 1000000 in
theorem Lp_sProof {k l i m : Int32} : sProof (mx J X) k l i m = mxp J (sProof X k l i m) := by
  unfold sProof isSheet isLane faultF
  simp only [mxp_ite, mxp_bif, mxp_mk, mr27, mr28, mr29, mr30, mr31, mr32, mr33, mr34, mr35, mr36, mr37, mr38, mr39, mr40, mr41, mr42, mr43, mr44, mr45, mr46, mr47, mr48, mr49, mr50, mr51, mr52, mr53, mr54, mr55, mu27, mu28, mu29, mu30, mu31, mu32, mu33, mu34, mu35, mu36, mu37, mu38, mu39, mu40, mu41, mu42, mu43, mu44, mu45, mu46, mu47, mu48, mu49, mu50, mu51, mu52, mu53, mu54, mu55, mxC (show 27 ≤ 36 ∧ 36 ≤ 55 by decide), mxC (show 27 ≤ 37 ∧ 37 ≤ 55 by decide), mxC (show 27 ≤ 38 ∧ 38 ≤ 55 by decide), pvF_m]
  try rfl
theorem Ln_sAbout {r w : Int32} : sAbout (mx J X) r w = sAbout X r w := rfl
theorem Ln_sLaid {i : Int32} : sLaid (mx J X) i = sLaid X i := rfl
theorem Ln_sTold {w : Int32} : sTold (mx J X) w = sTold X w := rfl
theorem Ln_sRight {c t : Int32} : sRight (mx J X) c t = sRight X c t := rfl
theorem Ln_sDue {p : Int32} : sDue (mx J X) p = sDue X p := by
  unfold sDue
  rw [dueF_m]; rfl
theorem Ln_sRoadAt {p : Int32} : sRoadAt (mx J X) p = sRoadAt X p := by
  unfold sRoadAt
  rw [raF_m]; rfl
theorem Ln_sError {car c : Int32} : sError (mx J X) car c = sError X car c := by
  unfold sError
  rw [errF_m]; rfl
theorem Ln_sPoints {car c : Int32} : sPoints (mx J X) car c = sPoints X car c := by
  unfold sPoints
  rw [ptsF_m]; rfl
theorem Ln_sResult {car w : Int32} : sResult (mx J X) car w = sResult X car w := by
  unfold sResult
  rw [totF_m, rkP_m]; rfl
end LO2
