/-- the memory's parts that a search leaves as they are -/
def sfk (a b : Nat) : Bool := !(a == 39 || a == 40 || a == 41 || a == 42 || a == 43 || (a == 27 && (b == 14 || b == 15 || b == 16 || b == 18 || b == 19)))
def SF (E I : vI) : Prop := ∀ a b, sfk a b = true → I a b = E a b
theorem SF_r {E : vI} : SF E E := fun _ _ _ => rfl
theorem SF_up {E I : vI} {i k : Nat} {v : Int32} (h : SF E I) (hk : sfk i k = false) : SF E (up2 I i k v) := fun a b q => by
  have hne : ¬ (a = i ∧ b = k) := fun ⟨z1, z2⟩ => by rw [z1, z2, hk] at q; cases q
  show (if a = i ∧ b = k then v else I a b) = E a b
  rw [if_neg hne]
  exact h a b q
theorem SF_t {E I J : vI} (h : SF E I) (g : SF I J) : SF E J := fun a b q => (g a b q).trans (h a b q)
/-- what a search knows: trials, the best sum (-1: none), of how many roads, how many rivals, the best row -/
abbrev Sg : Type := Int × Int × Int × Int × (Nat → Int32)
def sgM (I : vI) : Sg := ((I 27 14).toInt, (I 27 15).toInt, (I 27 16).toInt, (I 27 18).toInt, I 39)
def SB (g : Sg) : Prop := 0 ≤ g.1 ∧ g.1 ≤ 60000 ∧ -1 ≤ g.2.1 ∧ g.2.1 ≤ 200000 ∧ 0 ≤ g.2.2.2.1 ∧ g.2.2.2.1 ≤ g.1
/-- a row of d roads that ends at s, with so many spots met and such a sum, is judged -/
def jgF (E : vI) (d : Nat) (w : Nat → Int32) (s fo su : Int) (g : Sg) : Sg :=
  if fo < (E 27 12).toInt ∨ s ≠ (E 38 ((E 27 12).toInt - 1).toNat).toInt then g
  else if g.2.1 < 0 ∨ su < g.2.1 then (g.1, su, (d : Int), 0, fun k => if k < d then w k else g.2.2.2.2 k)
  else if su = g.2.1 then (g.1, g.2.1, g.2.2.1, g.2.2.2.1 + 1, g.2.2.2.2) else g
def itR (step : Nat → Sg → Sg × Bool) : Nat → Nat → Sg → Sg × Bool
  | 0, _, g => (g, false)
  | c + 1, r, g => if (step r g).2 = true then ((step r g).1, true) else itR step c (r + 1) (step r g).1
def foF (E : vI) (fo nx : Int) : Int := fo + (if fo < (E 27 12).toInt ∧ (E 38 fo.toNat).toInt = nx then 1 else 0)
def stR (E : vI) (rec : (Nat → Int32) → Int → Int → Int → Sg → Sg × Bool) (d : Nat) (w : Nat → Int32) (s fo su : Int) (r : Nat) (g : Sg) : Sg × Bool :=
  if exE w (r : Int) d = true ∨ leadsF E r s < 0 ∨ (0 ≤ g.2.1 ∧ g.2.1 < su + (E 30 r).toInt) then (g, false)
  else if g.1 = 60000 then (g, true)
  else rec (upd w d (nI r)) (leadsF E r s) (foF E fo (leadsF E r s)) (su + (E 30 r).toInt) (jgF E (d + 1) (upd w d (nI r)) (leadsF E r s) (foF E fo (leadsF E r s)) (su + (E 30 r).toInt) (g.1 + 1, g.2))
/-- the search from a row of d roads on, D more at most -/
def goR (E : vI) : Nat → Nat → (Nat → Int32) → Int → Int → Int → Sg → Sg × Bool
  | 0, _, _, _, _, _, g => (g, false)
  | D + 1, d, w, s, fo, su, g => itR (stR E (fun w' s' fo' su' g' => goR E D (d + 1) w' s' fo' su' g') d w s fo su) (E 27 1).toInt.toNat 0 g
theorem leadsF_SF {E I : vI} (h : SF E I) (r : Nat) (s : Int) : leadsF I r s = leadsF E r s := by
  unfold leadsF
  rw [h 28 r rfl, h 29 r rfl, h 31 r rfl, h 32 r rfl, h 33 r rfl]
/-- what judge may change -/
def JF (I I' : vI) : Prop := ∀ a b, ¬ a = 39 → ¬ (a = 27 ∧ (b = 15 ∨ b = 16 ∨ b = 18)) → I' a b = I a b
def srF (I : vI) : Sg × Bool := goR I 10 0 (fun _ => 0) (I 38 0).toInt 1 0 (0, -1, (I 27 16).toInt, 0, I 39)
