theorem l2iT {x : Int64} {z : Int32} {a : Int} (e : z = x.toInt32) (hx : x.toInt = a) (h1 : -2147483648 ≤ a) (h2 : a < 2147483648) : z.toInt = a := by
  subst e hx
  rw [Int64.toInt_toInt32]
  exact fb_bmod h1 h2
theorem dueF_ge {I : vI} {p : Int32} {f : Nat} {a : Int} (h : p.toInt ≤ a) : dueF I p f a = 0 := by
  cases f with
  | zero => rfl
  | succ f => exact if_neg (by omega)
theorem dueF_lt {I : vI} {p : Int32} {f : Nat} {a : Int} (h : a < p.toInt) : dueF I p (f + 1) a = (600 * ((nxF I a p (I 27 27).toInt.toNat).toInt - a)).tdiv (nwF I a (I 27 27).toInt.toNat).toInt + dueF I p f (nxF I a p (I 27 27).toInt.toNat).toInt := if_pos h
theorem nwF_t {I : vI} {a : Int} {m : Nat} (h : (I 45 m).toInt = a) : I 46 m = nwF I a (m + 1) := (if_pos h).symm
theorem nwF_n {I : vI} {a : Int} {m : Nat} {w : Int32} (hn : w = nwF I a m) (h : ¬ (I 45 m).toInt = a) : w = nwF I a (m + 1) := hn.trans (if_neg h).symm
theorem nxF_t {I : vI} {a : Int} {p : Int32} {m : Nat} {x : Int32} (hn : x = nxF I a p m) (h1 : a < (I 45 m).toInt) (h2 : (I 45 m).toInt < x.toInt) : I 45 m = nxF I a p (m + 1) := (if_pos ⟨h1, hn ▸ h2⟩).symm
theorem nxF_n {I : vI} {a : Int} {p : Int32} {m : Nat} {x : Int32} (hn : x = nxF I a p m) (h : ¬ (a < (I 45 m).toInt ∧ (I 45 m).toInt < x.toInt)) : x = nxF I a p (m + 1) := hn.trans (if_neg (hn ▸ h)).symm
theorem nzL {y : Int64} {b : Int} (h : y.toInt = b) (hb : b ≠ 0) : ¬ y = 0 := fun z => hb (by rw [← h, z]; rfl)
theorem mulB {a b M N : Int} (h1 : -M ≤ a) (h2 : a ≤ M) (h3 : -N ≤ b) (h4 : b ≤ N) : -(M * N) ≤ a * b ∧ a * b ≤ M * N := by
  have h5 : (a * b).natAbs ≤ M.toNat * N.toNat := by
    rw [Int.natAbs_mul]
    exact Nat.mul_le_mul (by omega) (by omega)
  have h6 : ((M.toNat * N.toNat : Nat) : Int) = M * N := by
    rw [Int.natCast_mul, Int.toNat_of_nonneg (by omega), Int.toNat_of_nonneg (by omega)]
  omega
def errE (I : vI) (car c : Int) : Int := rightF I c (I 54 ((8 * car) + c).toNat).toInt - (I 51 car.toNat).toInt - dueF I (I 47 c.toNat) 10 0
def errF (I : vI) (car c : Int) : Int := if errE I car c ≤ 0 then errE I car c else max (errE I car c - min (carF I car c (I 27 30).toInt.toNat) 1500) 0
def ptF (e : Int) (sort : Int) : Int :=
  if sort = 2 then min ((min (if e < 0 then 2 * ((9 - e) / 10) else (e + 9) / 10) 300) / 2) 50
  else if 0 < sort then (min (if e < 0 then 2 * ((9 - e) / 10) else (e + 9) / 10) 300) / 2
  else min (if e < 0 then 2 * ((9 - e) / 10) else (e + 9) / 10) 300
noncomputable def ptsF (I : vI) (car c : Int) : Int :=
  if (I 48 c.toNat).toInt ≠ 0 then 0 else if (I 53 ((8 * car) + c).toNat).toInt = 0 then 300
  else pIf (ooo I car c) 100 (ptF (errF I car c) (I 52 car.toNat).toInt)
/-- what the points of cars rest on is in its bounds -/
def PV (I : vI) : Prop := (0 ≤ (I 27 30).toInt ∧ (I 27 30).toInt ≤ 8) ∧ (0 ≤ (I 27 27).toInt ∧ (I 27 27).toInt ≤ 8) ∧ (∃ k, k < (I 27 27).toInt.toNat ∧ (I 45 k).toInt = 0) ∧ (∀ k, k < (I 27 27).toInt.toNat → 1 ≤ (I 46 k).toInt ∧ (I 46 k).toInt ≤ 3000) ∧ (∀ c : Nat, c < (I 27 30).toInt.toNat → 0 ≤ (I 47 c).toInt ∧ (I 47 c).toInt ≤ 200000) ∧ (∀ c : Int, 0 ≤ c → c < (I 27 30).toInt → ckOK I c) ∧ (∀ i, 0 ≤ (I 54 i).toInt ∧ (I 54 i).toInt ≤ 1000000) ∧ (∀ i, 0 ≤ (I 51 i).toInt ∧ (I 51 i).toInt ≤ 500000) ∧ (∀ i, 0 ≤ (I 53 i).toInt)
noncomputable def totF (I : vI) (car : Int) : Nat → Int
  | 0 => 0
  | m + 1 => totF I car m + ptsF I car (m : Int)
noncomputable def fbF (I : vI) (a b : Int) : Nat → Int
  | 0 => -1
  | m + 1 => pIf (ptsF I a (m : Int) ≠ ptsF I b (m : Int) ∧ (fbF I a b m < 0 ∨ (I 47 m).toInt < (I 47 (fbF I a b m).toNat).toInt)) (m : Int) (fbF I a b m)
def betP (I : vI) (a b : Int) : Prop := totF I a (I 27 30).toInt.toNat < totF I b (I 27 30).toInt.toNat ∨ (totF I a (I 27 30).toInt.toNat = totF I b (I 27 30).toInt.toNat ∧ ((fbF I a b (I 27 30).toInt.toNat < 0 ∧ a < b) ∨ (0 ≤ fbF I a b (I 27 30).toInt.toNat ∧ ptsF I a (fbF I a b (I 27 30).toInt.toNat) < ptsF I b (fbF I a b (I 27 30).toInt.toNat))))
noncomputable def cnP (p : Nat → Prop) : Nat → Int
  | 0 => 0
  | m + 1 => cnP p m + pIf (p m) 1 0
theorem cnP_b (p : Nat → Prop) : ∀ m : Nat, 0 ≤ cnP p m ∧ cnP p m ≤ m
  | 0 => by simp [cnP]
  | m + 1 => by
    have h := cnP_b p m
    unfold cnP
    by_cases q : p m
    · rw [pIf_pos q]; omega
    · rw [pIf_neg q]; omega
theorem fbF_b (I : vI) (a b : Int) : ∀ m : Nat, -1 ≤ fbF I a b m ∧ fbF I a b m < m
  | 0 => by simp [fbF]
  | m + 1 => by
    have h := fbF_b I a b m
    unfold fbF
    by_cases q : (ptsF I a (m : Int) ≠ ptsF I b (m : Int) ∧ (fbF I a b m < 0 ∨ (I 47 m).toInt < (I 47 (fbF I a b m).toNat).toInt))
    · rw [pIf_pos q]; omega
    · rw [pIf_neg q]; omega
def resP (I : vI) (car w : Int) (c : Nat) : Prop := (I 48 c).toInt = 0 ∧ ((w = 2 ∧ ¬ 0 < (I 53 ((8 * car) + (c : Int)).toNat).toInt) ∨ (w ≠ 2 ∧ 0 < (I 53 ((8 * car) + (c : Int)).toNat).toInt ∧ ooo I car (c : Int)))
def rkP (I : vI) (car : Int) (k : Nat) : Prop := (k : Int) ≠ car ∧ betP I (k : Int) car
noncomputable def sResult (I : vI) (car w : Int32) : Int :=
  if ¬ isCar I car then -1 else if ¬ (0 ≤ w.toInt ∧ w.toInt ≤ 3) then -2
  else pIf (hasDueP I) (if w.toInt = 0 then totF I car.toInt (I 27 30).toInt.toNat
    else if w.toInt = 1 then cnP (rkP I car.toInt) (I 27 35).toInt.toNat + 1
    else cnP (resP I car.toInt w.toInt) (I 27 30).toInt.toNat) (-3)
noncomputable def sDue (I : vI) (p : Int32) : Int := pIf (hasDueP I ∧ 0 ≤ p.toInt ∧ p.toInt ≤ (I 27 25).toInt) (dueF I p 10 0) (-9223372036854775808)
noncomputable def sError (I : vI) (car c : Int32) : Int := pIf (isCar I car ∧ isCtl I c ∧ (I 53 ((8 * car.toInt) + c.toInt).toNat).toInt ≠ 0 ∧ hasDueP I) (errF I car.toInt c.toInt) (-9223372036854775808)
noncomputable def sPoints (I : vI) (car c : Int32) : Int := if ¬ isCar I car ∨ ¬ isCtl I c then -1 else pIf (hasDueP I) (ptsF I car.toInt c.toInt) (-3)
