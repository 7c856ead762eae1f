/-- an answer of 32 bits, and the memory behind it, are the pair's -/
def qi (s : vI × Int32) (I' : vI) (r : Option Value) : Prop := ∃ v : Int32, s = (I', v) ∧ r = some (.int v)
def ql (s : vI × Int64) (I' : vI) (r : Option Value) : Prop := ∃ v : Int64, s = (I', v) ∧ r = some (.long v)
abbrev LOST64 : Int64 := -9223372036854775808
def sRoad (I : vI) (a b l k : Int32) : vI × Int32 :=
  if ¬ (0 ≤ a.toInt ∧ a.toInt ≤ 9) ∨ ¬ (0 ≤ b.toInt ∧ b.toInt ≤ 9) then (I, -1)
  else if a.toInt = b.toInt ∨ ¬ (1 ≤ l.toInt ∧ l.toInt ≤ 20000) ∨ ¬ (0 ≤ k.toInt ∧ k.toInt ≤ 2) then (I, -2)
  else if (I 27 1).toInt = 16 then (I, -4)
  else (up2 (up2 (up2 (up2 (up2 I 28 (I 27 1).toInt.toNat a) 29 (I 27 1).toInt.toNat b) 30 (I 27 1).toInt.toNat l) 31 (I 27 1).toInt.toNat k) 27 1 (I 27 1 + 1), I 27 1 + 1 - 1)
abbrev isRoad (I : vI) (r : Int32) : Prop := 0 ≤ r.toInt ∧ r.toInt < (I 27 1).toInt
def sShut (I : vI) (r b : Int32) : vI × Int32 :=
  if ¬ isRoad I r then (I, -1) else (up2 I 32 r.toInt.toNat b, if (I 32 r.toInt.toNat).toInt = b.toInt then 0 else 1)
def sWet (I : vI) (r b : Int32) : vI × Int32 :=
  if ¬ isRoad I r then (up2 I 27 0 0, -1)
  else if (I 31 r.toInt.toNat).toInt ≠ 2 then (up2 I 27 0 2, -12)
  else (up2 (up2 I 33 r.toInt.toNat b) 27 0 0, if (I 33 r.toInt.toNat).toInt = b.toInt then 0 else 1)
/-- where road r leads from spot s; -1: nowhere -/
def leadsF (I : vI) (r : Nat) (s : Int) : Int :=
  if (I 32 r).toInt ≠ 0 ∨ (I 33 r).toInt ≠ 0 then -1
  else if (I 28 r).toInt = s then (I 29 r).toInt
  else if (I 29 r).toInt = s ∧ (I 31 r).toInt ≠ 1 then (I 28 r).toInt else -1
abbrev isSheet (k : Int32) : Prop := 0 ≤ k.toInt ∧ k.toInt ≤ 3
abbrev isLane (k : Int32) : Prop := 0 ≤ k.toInt ∧ k.toInt ≤ 2
def sLose (I : vI) (k : Int32) : vI × Int32 :=
  if ¬ isSheet k then (I, -1) else (up2 I 34 k.toInt.toNat (-1), if (I 34 k.toInt.toNat).toInt < 0 then 0 else 1)
def noCellF (I : vI) (k i : Int32) : Int32 :=
  if (I 34 k.toInt.toNat).toInt < 0 then 1 else if 0 ≤ i.toInt ∧ i.toInt < (I 34 k.toInt.toNat).toInt then 0 else 3
def laneF (lane v : Int32) : Int32 := if lane.toInt = 0 then v.toInt8.toInt32 else if lane.toInt = 1 then v.toInt16.toInt32 else v
def sPut (I : vI) (k i v : Int32) : vI × Int32 :=
  if ¬ isSheet k then (up2 I 27 0 0, -1)
  else if 0 < (noCellF I k i).toInt then (up2 I 27 0 (noCellF I k i), -10 - noCellF I k i)
  else (up2 (up2 I 36 ((32 * k.toInt) + i.toInt).toNat (laneF (I 35 k.toInt.toNat) v)) 27 0 0, 1)
def sCell (I : vI) (k i lane : Int32) : vI × Int64 :=
  if ¬ isSheet k ∨ ¬ isLane lane then (up2 I 27 0 0, LOST64)
  else if 0 ≤ (I 34 k.toInt.toNat).toInt ∧ (I 35 k.toInt.toNat).toInt ≠ lane.toInt then (up2 (up2 I 27 0 0) 27 0 2, LOST64)
  else if 0 < (noCellF I k i).toInt then (up2 (up2 I 27 0 0) 27 0 (noCellF I k i), LOST64)
  else (up2 I 27 0 0, (I 36 ((32 * k.toInt) + i.toInt).toNat).toInt64)
def beyondF (i n all : Int32) : Prop := i.toInt < 0 ∨ n.toInt < 0 ∨ all.toInt < i.toInt + n.toInt
theorem noCell_3 (I : vI) (k i : Int32) : ((noCellF I k i).toInt = 0 ∧ 0 ≤ i.toInt ∧ i.toInt < (I 34 k.toInt.toNat).toInt) ∨ ((noCellF I k i).toInt = 1 ∧ (I 34 k.toInt.toNat).toInt < 0) ∨ ((noCellF I k i).toInt = 3 ∧ 0 ≤ (I 34 k.toInt.toNat).toInt ∧ ¬ (0 ≤ i.toInt ∧ i.toInt < (I 34 k.toInt.toNat).toInt)) := by
  unfold noCellF
  split
  · exact Or.inr (Or.inl ⟨rfl, by assumption⟩)
  · split
    · exact Or.inl ⟨rfl, by assumption⟩
    · exact Or.inr (Or.inr ⟨rfl, by omega, by assumption⟩)
def faultF (I : vI) (k lane i n : Int32) : Int32 :=
  if 0 ≤ (I 34 k.toInt.toNat).toInt ∧ (I 35 k.toInt.toNat).toInt ≠ lane.toInt then 2
  else if (I 34 k.toInt.toNat).toInt < 0 then 1 else if n.toInt < 0 then 4
  else if i.toInt < 0 ∨ (I 34 k.toInt.toNat).toInt < i.toInt + n.toInt then 3 else 0
theorem fault_5 (I : vI) (k lane i n : Int32) : ((faultF I k lane i n).toInt = 0 ∧ 0 ≤ i.toInt ∧ 0 ≤ n.toInt ∧ i.toInt + n.toInt ≤ (I 34 k.toInt.toNat).toInt) ∨ 0 < (faultF I k lane i n).toInt := by
  unfold faultF
  (repeat' split) <;> first | exact Or.inr (by decide) | exact Or.inl ⟨rfl, by omega, by omega, by omega⟩
def sLaid (I : vI) (i : Int32) : Int32 := if 0 ≤ i.toInt ∧ i.toInt < (I 27 24).toInt then I 44 i.toInt.toNat else -1
def sSpeed (I : vI) (p v : Int32) : vI × Int32 :=
  if ¬ (1 ≤ v.toInt ∧ v.toInt ≤ 3000) then (I, -2)
  else if (I 27 24).toInt = 0 then (I, -3)
  else if ¬ (0 ≤ p.toInt ∧ p.toInt ≤ (I 27 25).toInt) then (I, -2)
  else if (I 27 27).toInt = 8 then (I, -4)
  else (up2 (up2 (up2 I 45 (I 27 27).toInt.toNat p) 46 (I 27 27).toInt.toNat v) 27 27 (I 27 27 + 1), I 27 27 + 1)
abbrev isCtl (I : vI) (c : Int32) : Prop := 0 ≤ c.toInt ∧ c.toInt < (I 27 30).toInt
abbrev isCar (I : vI) (c : Int32) : Prop := 0 ≤ c.toInt ∧ c.toInt < (I 27 35).toInt
abbrev isTm (t : Int32) : Prop := 0 ≤ t.toInt ∧ t.toInt ≤ 1000000
def sWatch (I : vI) (c a b x y : Int32) : vI × Int32 :=
  if ¬ isCtl I c then (I, -1)
  else if ¬ isTm a ∨ ¬ isTm b ∨ ¬ isTm x ∨ ¬ isTm y ∨ b.toInt ≤ a.toInt ∨ y.toInt ≤ x.toInt then (I, -2)
  else (up2 (up2 (up2 (up2 (up2 I 49 c.toInt.toNat 1) 50 (4 * c.toInt).toNat a) 50 ((4 * c.toInt) + 1).toNat b) 50 ((4 * c.toInt) + 2).toNat x) 50 ((4 * c.toInt) + 3).toNat y, 1)
/-- a time put right -/
def rightF (I : vI) (c t : Int) : Int :=
  if (I 49 c.toNat).toInt = 0 then t
  else (I 50 (4 * c).toNat).toInt + ((t - (I 50 ((4 * c) + 2).toNat).toInt) * ((I 50 ((4 * c) + 1).toNat).toInt - (I 50 (4 * c).toNat).toInt)).tdiv ((I 50 ((4 * c) + 3).toNat).toInt - (I 50 ((4 * c) + 2).toNat).toInt)
/-- the checks of a control's watch are as told -/
def ckOK (I : vI) (c : Int) : Prop := (I 49 c.toNat).toInt ≠ 0 → (0 ≤ (I 50 (4 * c).toNat).toInt ∧ (I 50 (4 * c).toNat).toInt < (I 50 ((4 * c) + 1).toNat).toInt ∧ (I 50 ((4 * c) + 1).toNat).toInt ≤ 1000000 ∧ 0 ≤ (I 50 ((4 * c) + 2).toNat).toInt ∧ (I 50 ((4 * c) + 2).toNat).toInt < (I 50 ((4 * c) + 3).toNat).toInt ∧ (I 50 ((4 * c) + 3).toNat).toInt ≤ 1000000)
def sRight (I : vI) (c t : Int32) : Int := if ¬ isCtl I c ∨ ¬ isTm t then -9223372036854775808 else rightF I c.toInt t.toInt
def sStrike (I : vI) (c b : Int32) : vI × Int32 :=
  if ¬ isCtl I c then (I, -1) else (up2 I 48 c.toInt.toNat b, if (I 48 c.toInt.toNat).toInt = b.toInt then 0 else 1)
def sCar (I : vI) (s k : Int32) : vI × Int32 :=
  if ¬ (0 ≤ s.toInt ∧ s.toInt ≤ 500000) ∨ ¬ (0 ≤ k.toInt ∧ k.toInt ≤ 2) then (I, -2)
  else if (I 27 35).toInt = 8 then (I, -4)
  else (up2 (up2 (up2 I 51 (I 27 35).toInt.toNat s) 52 (I 27 35).toInt.toNat k) 27 35 (I 27 35 + 1), I 27 35 + 1 - 1)
def sClock (I : vI) (car c t : Int32) : vI × Int32 :=
  if ¬ isCar I car ∨ ¬ isCtl I c then (I, -1) else if ¬ isTm t then (I, -2)
  else if 0 < (I 53 ((8 * car.toInt) + c.toInt).toNat).toInt then (I, -3)
  else (up2 (up2 (up2 I 27 38 (I 27 38 + 1)) 53 ((8 * car.toInt) + c.toInt).toNat (I 27 38 + 1)) 54 ((8 * car.toInt) + c.toInt).toNat t, 1)
def sAllow (I : vI) (car c a : Int32) : vI × Int32 :=
  if ¬ isCar I car ∨ ¬ isCtl I c then (I, -1) else if ¬ (0 ≤ a.toInt ∧ a.toInt ≤ 3000) then (I, -2)
  else (up2 I 55 ((8 * car.toInt) + c.toInt).toNat a, I 55 ((8 * car.toInt) + c.toInt).toNat)
def trF (I : vI) (v : Int32) : vI := up2 I 27 42 (31 * I 27 42 + v)
def sTell (I : vI) (r : Int32) : vI × Int32 :=
  if ¬ isRoad I r then (I, -1)
  else if (I 31 r.toInt.toNat).toInt = 1 then (trF (trF I 2) 1, 1 + I 30 r.toInt.toNat)
  else if 0 < (I 31 r.toInt.toNat).toInt then (trF (trF I 3) 1, if (I 33 r.toInt.toNat).toInt ≠ 0 then -(I 30 r.toInt.toNat) else I 30 r.toInt.toNat)
  else (trF I 1, if (I 33 r.toInt.toNat).toInt ≠ 0 then -(I 30 r.toInt.toNat) else I 30 r.toInt.toNat)
def sGreet (I : vI) (c : Int32) : vI × Int32 :=
  if ¬ isCar I c then (I, -1)
  else if (I 52 c.toInt.toNat).toInt = 0 then (trF I 4, 10 * c)
  else if (I 52 c.toInt.toNat).toInt = 2 then (trF (trF I 6) 5, 8) else (trF I 5, 7)
def sAs (I : vI) (c k : Int32) : vI × Int32 :=
  if ¬ isCar I c then (up2 I 27 0 0, -1) else if ¬ (0 ≤ k.toInt ∧ k.toInt ≤ 2) then (up2 I 27 0 0, -2)
  else if k.toInt ≤ (I 52 c.toInt.toNat).toInt then (up2 I 27 0 0, 1) else (up2 I 27 0 2, -12)
def sTold (I : vI) (w : Int32) : Int32 :=
  if w.toInt = 0 then I 27 1 else if w.toInt = 1 then I 27 24 else if w.toInt = 2 then (if (I 27 24).toInt = 0 then 0 else I 27 25)
  else if w.toInt = 3 then I 27 27 else if w.toInt = 4 then I 27 30 else if w.toInt = 5 then I 27 35 else if w.toInt = 6 then I 27 12 else if w.toInt = 7 then I 27 14 else -2
