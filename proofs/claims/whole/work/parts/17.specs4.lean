/-- n numbers g 0, g 1 .. put into row d from q on -/
def cpF (I : vI) (d : Nat) (q : Int) (g : Nat → Int32) : Nat → vI
  | 0 => I
  | m + 1 => up2 (cpF I d q g m) d (q + (m : Int)).toNat (g m)
theorem cpF_o {I : vI} {d : Nat} {q : Int} {g : Nat → Int32} {a b : Nat} (h : a ≠ d) : ∀ m : Nat, cpF I d q g m a b = I a b
  | 0 => rfl
  | m + 1 => by
    show up2 _ d _ _ a b = _
    rw [up2_o h]
    exact cpF_o h m
theorem cpF_c {I : vI} {d : Nat} {q : Nat} {g : Nat → Int32} {b : Nat} : ∀ m : Nat, cpF I d (q : Int) g m d b = if q ≤ b ∧ b < q + m then g (b - q) else I d b
  | 0 => by simp [cpF]; omega
  | m + 1 => by
    show up2 _ d _ _ d b = _
    have e : ((q : Int) + (m : Int)).toNat = q + m := by omega
    rw [e]
    by_cases h : b = q + m
    · subst h
      rw [up2_e, if_pos (by omega)]
      congr 1
      omega
    · rw [up2_k h, cpF_c m]
      by_cases h2 : q ≤ b ∧ b < q + m
      · rw [if_pos h2, if_pos (by omega)]
      · rw [if_neg h2, if_neg (by omega)]
def exE (f : Nat → Int32) (v : Int) : Nat → Bool
  | 0 => false
  | m + 1 => exE f v m || decide ((f m).toInt = v)
theorem exE_i (f : Nat → Int32) (v : Int) : ∀ m : Nat, exE f v m = true ↔ ∃ k, k < m ∧ (f k).toInt = v
  | 0 => by simp [exE]
  | m + 1 => by
    simp only [exE, Bool.or_eq_true, exE_i f v m, decide_eq_true_eq]
    constructor
    · rintro (⟨k, h1, h2⟩ | h)
      · exact ⟨k, by omega, h2⟩
      · exact ⟨m, by omega, h⟩
    · rintro ⟨k, h1, h2⟩
      rcases (show k < m ∨ k = m by omega) with h | rfl
      · exact Or.inl ⟨k, h, h2⟩
      · exact Or.inr h2
/-- the first place below m + f, from m on, where v stands; -9: none -/
def plF (f : Nat → Int32) (v : Int) : Nat → Nat → Int
  | 0, _ => -9
  | g + 1, m => if (f m).toInt = v then (m : Int) else plF f v g (m + 1)
def sAbout (I : vI) (r w : Int32) : Int :=
  if ¬ isRoad I r then -1 else if w.toInt = 0 then (I 28 r.toInt.toNat).toInt else if w.toInt = 1 then (I 29 r.toInt.toNat).toInt
  else if w.toInt = 2 then (I 30 r.toInt.toNat).toInt else if w.toInt = 3 then (I 31 r.toInt.toNat).toInt
  else if w.toInt = 4 then (if (I 32 r.toInt.toNat).toInt ≠ 0 ∨ (I 33 r.toInt.toNat).toInt ≠ 0 then 1 else 0)
  else if w.toInt = 5 then plF (I 44) r.toInt (I 27 24).toInt.toNat 0 else -2
def psF (I : vI) : Nat → Int
  | 0 => 0
  | m + 1 => psF I m + (I 30 (I 44 m).toInt.toNat).toInt
theorem psF_b (I : vI) (N : Nat) (h : ∀ k, k < N → 0 ≤ (I 30 (I 44 k).toInt.toNat).toInt ∧ (I 30 (I 44 k).toInt.toNat).toInt ≤ 20000) : ∀ m : Nat, m ≤ N → 0 ≤ psF I m ∧ psF I m ≤ 20000 * (m : Int)
  | 0, _ => by simp [psF]
  | m + 1, hm => by
    have h1 := psF_b I N h m (by omega)
    have h2 := h m (by omega)
    unfold psF
    omega
def raF (I : vI) (p : Int) (N : Nat) : Nat → Nat → Int
  | 0, _ => (I 44 (N - 1)).toInt
  | g + 1, m => if p < psF I (m + 1) then (I 44 m).toInt else raF I p N g (m + 1)
theorem raF_s {I : vI} {p : Int} {N g m : Nat} : raF I p N (g + 1) m = if p < psF I (m + 1) then (I 44 m).toInt else raF I p N g (m + 1) := rfl
theorem plF_s {f : Nat → Int32} {v : Int} {g m : Nat} : plF f v (g + 1) m = if (f m).toInt = v then (m : Int) else plF f v g (m + 1) := rfl
def sRoadAt (I : vI) (p : Int32) : Int :=
  if (I 27 24).toInt = 0 then -3 else if ¬ (0 ≤ p.toInt ∧ p.toInt ≤ (I 27 25).toInt) then -2
  else raF I p.toInt (I 27 24).toInt.toNat (I 27 24).toInt.toNat 0
def sControl (I : vI) (p : Int32) : vI × Int32 :=
  if (I 27 24).toInt = 0 then (I, -3) else if ¬ (1 ≤ p.toInt ∧ p.toInt ≤ (I 27 25).toInt) then (I, -2)
  else if exE (I 47) p.toInt (I 27 30).toInt.toNat = true then (I, -3)
  else if (I 27 30).toInt = 8 then (I, -4)
  else (up2 (up2 (up2 (up2 I 47 (I 27 30).toInt.toNat p) 48 (I 27 30).toInt.toNat 0) 49 (I 27 30).toInt.toNat 0) 27 30 (I 27 30 + 1), I 27 30 + 1 - 1)
def sSheet (I : vI) (k l m : Int32) : vI × Int32 :=
  if ¬ isSheet k then (up2 I 27 0 0, -1) else if ¬ isLane l ∨ 32 < m.toInt then (up2 I 27 0 0, -2)
  else if m.toInt < 0 then (up2 I 27 0 4, -14)
  else (up2 (cpF (up2 (up2 I 34 k.toInt.toNat m) 35 k.toInt.toNat l) 36 (32 * k.toInt) (fun _ => 0) m.toInt.toNat) 27 0 0, 1)
def cp1F (I : vI) (k i : Int32) (m : Nat) : vI := cpF I 37 0 (fun x => I 36 (((32 * k.toInt) + i.toInt) + (x : Int)).toNat) m
def cp2F (I J : vI) (k i : Int32) (m : Nat) : vI := cpF J 36 ((32 * k.toInt) + i.toInt) (fun x => J 37 x) m
def bdP (I : vI) (k i m : Int32) : Prop := i.toInt < 0 ∨ m.toInt < 0 ∨ (I 34 k.toInt.toNat).toInt < i.toInt + m.toInt
def sCopy (I : vI) (k i o j m : Int32) : vI × Int32 :=
  if ¬ isSheet k ∨ ¬ isSheet o then (up2 I 27 0 0, -1)
  else if (I 34 k.toInt.toNat).toInt < 0 ∨ (I 34 o.toInt.toNat).toInt < 0 then (up2 I 27 0 1, -11)
  else if (I 35 k.toInt.toNat).toInt ≠ (I 35 o.toInt.toNat).toInt then (up2 I 27 0 2, -12)
  else if (i.toInt < 0 ∨ m.toInt < 0 ∨ (I 34 k.toInt.toNat).toInt < i.toInt + m.toInt) ∨ (j.toInt < 0 ∨ m.toInt < 0 ∨ (I 34 o.toInt.toNat).toInt < j.toInt + m.toInt) then (up2 I 27 0 3, -13)
  else (up2 (cp2F I (cp1F I k i m.toInt.toNat) o j m.toInt.toNat) 27 0 0, m)
/-- cell y of the row from q on may stand in a book -/
def bkP (I : vI) (q : Int) (y : Nat) : Prop := (0 ≤ (I 36 (q + (y : Int)).toNat).toInt ∧ (I 36 (q + (y : Int)).toNat).toInt ≤ 9) ∧ (y = 0 ∨ (I 36 ((q + (y : Int)) - 1).toNat).toInt ≠ (I 36 (q + (y : Int)).toNat).toInt)
def bookP (I : vI) (q : Int) (m : Int) : Prop := (2 ≤ m ∧ m ≤ 8) ∧ ∀ y : Nat, (y : Int) < m → bkP I q y
def bkI (I : vI) (q m : Int) (g : Int32) (x : Nat) : Prop := (g.toInt = 1 ∧ (2 ≤ m ∧ m ≤ 8) ∧ ∀ y : Nat, y < x → bkP I q y) ∨ (g.toInt = 0 ∧ ¬ bookP I q m)
theorem bkI_s {I : vI} {q m : Int} {g : Int32} {x : Nat} (h : bkI I q m g x) (hg : g.toInt ≠ 0) (hb : bkP I q x) : bkI I q m 1 (x + 1) := by
  rcases h with ⟨-, h2, h3⟩ | ⟨h1, -⟩
  · exact Or.inl ⟨rfl, h2, fun y hy => by
      rcases (show y < x ∨ y = x by omega) with h | rfl
      · exact h3 y h
      · exact hb⟩
  · exact absurd h1 hg
theorem bkI_f {I : vI} {q m : Int} {x : Nat} (hx : (x : Int) < m) (hb : ¬ bkP I q x) : bkI I q m 0 (x + 1) := Or.inr ⟨rfl, fun h => hb (h.2 x hx)⟩
theorem bkI_e {I : vI} {q m : Int} {g : Int32} {x : Nat} (h : bkI I q m g x) (hx : m ≤ (x : Int) ∨ g.toInt = 0) : rb (some (.int g)) (bookP I q m) := by
  rcases h with ⟨h1, h2, h3⟩ | ⟨h1, h2⟩
  · refine Or.inl ⟨⟨h2, fun y hy => h3 y (by omega)⟩, by rw [show g = 1 from ti_eq.mpr h1]⟩
  · exact Or.inr ⟨h2, by rw [show g = 0 from ti_eq.mpr h1]⟩
noncomputable def bIf {α : Type} (P : Prop) (a b : α) : α := @ite α P (Classical.propDecidable P) a b
theorem bIf_pos {α : Type} {P : Prop} {a b : α} (h : P) : bIf P a b = a := by unfold bIf; exact if_pos h
theorem bIf_neg {α : Type} {P : Prop} {a b : α} (h : ¬ P) : bIf P a b = b := by unfold bIf; exact if_neg h
noncomputable def sBook (I : vI) (k l i m : Int32) : vI × Int32 :=
  if ¬ isSheet k then (up2 I 27 0 0, -1) else if ¬ isLane l then (up2 I 27 0 0, -2)
  else if 0 < (faultF I k l i m).toInt then (up2 I 27 0 (faultF I k l i m), -10 - faultF I k l i m)
  else bIf (bookP I ((32 * k.toInt) + i.toInt) m.toInt) (up2 (cpF (up2 I 27 12 m) 38 0 (fun x => I 36 (((32 * k.toInt) + i.toInt) + (x : Int)).toNat) m.toInt.toNat) 27 0 0, m) (up2 I 27 0 0, -2)
/-- a row of roads looked at from place x on: where it stands, how many spots of the book are met, its sum -/
noncomputable def pvF (I : vI) (q : Int) (N : Nat) : Nat → Nat → Int → Int → Int → Int
  | 0, _, s, c, a => if N = 0 ∨ 10 < N ∨ c < (I 27 12).toInt ∨ s ≠ (I 38 ((I 27 12).toInt - 1).toNat).toInt then -100 else a
  | g + 1, x, s, c, a =>
    pIf (¬ (0 ≤ (I 36 (q + (x : Int)).toNat).toInt ∧ (I 36 (q + (x : Int)).toNat).toInt < (I 27 1).toInt) ∨ (∃ y, y < x ∧ aheadP I q (x : Int) y) ∨ leadsF I (I 36 (q + (x : Int)).toNat).toInt.toNat s < 0) (-1 - (x : Int))
      (pvF I q N g (x + 1) (leadsF I (I 36 (q + (x : Int)).toNat).toInt.toNat s)
        (c + if c < (I 27 12).toInt ∧ (I 38 c.toNat).toInt = leadsF I (I 36 (q + (x : Int)).toNat).toInt.toNat s then 1 else 0) (a + (I 30 (I 36 (q + (x : Int)).toNat).toInt.toNat).toInt))
noncomputable def sProof (I : vI) (k l i m : Int32) : vI × Int :=
  if ¬ isSheet k ∨ ¬ isLane l ∨ (I 27 12).toInt = 0 then (up2 I 27 0 0, -9223372036854775808)
  else if 0 < (faultF I k l i m).toInt then (up2 (up2 I 27 0 0) 27 0 (faultF I k l i m), -9223372036854775808)
  else (up2 I 27 0 0, pvF I ((32 * k.toInt) + i.toInt) m.toInt.toNat m.toInt.toNat 0 (I 38 0).toInt 1 0)
