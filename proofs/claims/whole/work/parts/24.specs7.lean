def BL (I I' : vI) (d : Nat) : Prop := ∀ k, k < d → I' 40 k = I 40 k ∧ I' 41 k = I 41 k ∧ I' 42 k = I 42 k ∧ I' 43 k = I 43 k
/-- the level of d roads, road r0 next, c roads left, D more roads at most behind the next one -/
def lvR (E : vI) (D d : Nat) (w : Nat → Int32) (s fo su : Int) (c r0 : Nat) (g : Sg) : Sg × Bool :=
  itR (stR E (fun w' s' fo' su' g' => goR E D (d + 1) w' s' fo' su' g') d w s fo su) c r0 g
/-- a memory in the midst of a search -/
def SM (E : vI) (d : Nat) (w : Nat → Int32) (s fo su : Int) (I : vI) : Prop :=
  SF E I ∧ (I 27 19).toInt = (d : Int) ∧ (∀ k, k < d → I 40 k = w k) ∧ (I 41 d).toInt = s ∧ (I 42 d).toInt = fo ∧ (I 43 d).toInt = su ∧ SB (sgM I) ∧ (0 ≤ s ∧ s ≤ 9) ∧ (1 ≤ fo ∧ fo ≤ (E 27 12).toInt) ∧ (0 ≤ su ∧ su ≤ 20000 * (d : Int))
/-- the memory that a search starts from -/
def SE (E : vI) : Prop := (0 ≤ (E 27 1).toInt ∧ (E 27 1).toInt ≤ 16) ∧ (2 ≤ (E 27 12).toInt ∧ (E 27 12).toInt ≤ 8) ∧ (∀ r, r < 16 → (0 ≤ (E 28 r).toInt ∧ (E 28 r).toInt ≤ 9) ∧ (0 ≤ (E 29 r).toInt ∧ (E 29 r).toInt ≤ 9) ∧ 0 ≤ (E 30 r).toInt ∧ (E 30 r).toInt ≤ 20000)
theorem leads_b {E : vI} (h : SE E) {r : Nat} (hr : r < 16) (s : Int) : -1 ≤ leadsF E r s ∧ leadsF E r s ≤ 9 := by
  have h1 := h.2.2 r hr
  unfold leadsF
  (repeat' split) <;> omega
theorem jg_SB {E : vI} {d : Nat} {w : Nat → Int32} {s fo su : Int} {t bs bm rv : Int} {b : Nat → Int32} (h : 0 ≤ t ∧ t ≤ 60000) (hb : -1 ≤ bs ∧ bs ≤ 200000) (hr : 0 ≤ rv ∧ rv + 1 ≤ t) (hs : 0 ≤ su ∧ su ≤ 200000) : SB (jgF E d w s fo su (t, bs, bm, rv, b)) := by
  unfold jgF SB
  (repeat' split) <;> refine ⟨?_, ?_, ?_, ?_, ?_, ?_⟩ <;> first | exact h.1 | exact h.2 | (show -1 ≤ su; omega) | exact hs.2 | exact hb.1 | exact hb.2 | (show (0 : Int) ≤ 0; omega) | (show (0 : Int) ≤ t; omega) | (show 0 ≤ rv + 1; omega) | (show rv + 1 ≤ t; omega) | exact hr.1 | (show rv ≤ t; omega)
theorem jgF_d {E I : vI} (h : SF E I) {d : Nat} {w w' : Nat → Int32} (hw : ∀ k, k < d → w k = w' k) (s fo su : Int) (g : Sg) : jgF I d w s fo su g = jgF E d w' s fo su g := by
  unfold jgF
  rw [h 27 12 rfl, h 38 _ rfl]
  have e : (fun k => if k < d then w k else g.2.2.2.2 k) = fun k => if k < d then w' k else g.2.2.2.2 k := funext fun k => by
    by_cases q : k < d
    · rw [if_pos q, if_pos q, hw k q]
    · rw [if_neg q, if_neg q]
  rw [e]
theorem itR_s {st : Nat → Sg → Sg × Bool} {c r : Nat} {g : Sg} : itR st (c + 1) r g = if (st r g).2 = true then ((st r g).1, true) else itR st c (r + 1) (st r g).1 := rfl
