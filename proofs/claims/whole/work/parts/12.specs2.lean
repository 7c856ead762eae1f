/-- 'h' says whether p holds of one below m -/
def ac (h : Int32) (p : Nat → Prop) (m : Nat) : Prop := (h.toInt = 1 ∧ ∃ k, k < m ∧ p k) ∨ (h.toInt = 0 ∧ ∀ k, k < m → ¬ p k)
theorem ac_0 {p : Nat → Prop} : ac 0 p 0 := Or.inr ⟨rfl, fun k h => absurd h (Nat.not_lt_zero k)⟩
theorem ac_t {a : Int32} {p : Nat → Prop} {m : Nat} (h : ac a p m) (c : a.toInt ≠ 0) : ac 1 p (m + 1) := by
  rcases h with ⟨-, k, h1, h2⟩ | ⟨h1, -⟩
  · exact Or.inl ⟨rfl, k, by omega, h2⟩
  · exact absurd h1 c
theorem ac_y {p : Nat → Prop} {m : Nat} (h : p m) : ac 1 p (m + 1) := Or.inl ⟨rfl, m, by omega, h⟩
theorem ac_n {a : Int32} {p : Nat → Prop} {m : Nat} (h : ac a p m) (c : a.toInt = 0) (hp : ¬ p m) : ac 0 p (m + 1) := by
  rcases h with ⟨h1, -⟩ | ⟨-, h2⟩
  · omega
  · exact Or.inr ⟨rfl, fun k hk => by
      rcases (show k < m ∨ k = m by omega) with h | rfl
      · exact h2 k h
      · exact hp⟩
theorem ac_b {a : Int32} {p : Nat → Prop} {m : Nat} (h : ac a p m) : a.toInt = 0 ∨ a.toInt = 1 := by
  rcases h with ⟨h1, -⟩ | ⟨h1, -⟩
  · exact Or.inr h1
  · exact Or.inl h1
theorem ac_e {a : Int32} {p : Nat → Prop} {m : Nat} (h : ac a p m) : rb (some (.int a)) (∃ k, k < m ∧ p k) := by
  rcases h with ⟨h1, h2⟩ | ⟨h1, h2⟩
  · exact Or.inl ⟨h2, by rw [show a = 1 from ti_eq.mpr h1]⟩
  · exact Or.inr ⟨fun ⟨k, q1, q2⟩ => h2 k q1 q2, by rw [show a = 0 from ti_eq.mpr h1]⟩
theorem rb_of {r : Option Value} {P Q : Prop} (h : rb r P) (e : P ↔ Q) : rb r Q := by
  rcases h with ⟨h1, h2⟩ | ⟨h1, h2⟩
  · exact Or.inl ⟨e.mp h1, h2⟩
  · exact Or.inr ⟨fun q => h1 (e.mpr q), h2⟩
def inP (I : vI) (r : Int) (k : Nat) : Prop := (I 40 k).toInt = r
def due0P (I : vI) (k : Nat) : Prop := (I 45 k).toInt = 0
def hasDueP (I : vI) : Prop := (∃ k, k < (I 27 27).toInt.toNat ∧ due0P I k) ∧ 0 < (I 27 24).toInt
def aheadP (I : vI) (q x : Int) (k : Nat) : Prop := (I 36 (q + (k : Int)).toNat).toInt = (I 36 (q + x).toNat).toInt
def oooP (I : vI) (car c : Int) (k : Nat) : Prop := (I 47 c.toNat).toInt < (I 47 k).toInt ∧ (I 48 k).toInt = 0 ∧ 0 < (I 53 ((8 * car) + (k : Int)).toNat).toInt ∧ (I 53 ((8 * car) + (k : Int)).toNat).toInt < (I 53 ((8 * car) + c).toNat).toInt
def ooo (I : vI) (car c : Int) : Prop := ∃ k, k < (I 27 30).toInt.toNat ∧ oooP I car c k
def carF (I : vI) (car c : Int) : Nat → Int
  | 0 => 0
  | k + 1 => carF I car c k + (if (I 47 k).toInt ≤ (I 47 c.toNat).toInt then (if (I 55 ((8 * car) + (k : Int)).toNat).toInt < 600 then (I 55 ((8 * car) + (k : Int)).toNat).toInt else 600) else 0)
theorem carF_b (I : vI) (car c : Int) : ∀ k : Nat, -2147483648 * (k : Int) ≤ carF I car c k ∧ carF I car c k ≤ 600 * (k : Int)
  | 0 => by simp [carF]
  | k + 1 => by
    have h := carF_b I car c k
    have h2 := fb_rng (I 55 ((8 * car) + (k : Int)).toNat)
    unfold carF
    (repeat' split) <;> omega
noncomputable def pIf (P : Prop) (a b : Int) : Int := @ite _ P (Classical.propDecidable P) a b
theorem pIf_pos {P : Prop} {a b : Int} (h : P) : pIf P a b = a := by unfold pIf; exact if_pos h
theorem pIf_neg {P : Prop} {a b : Int} (h : ¬ P) : pIf P a b = b := by unfold pIf; exact if_neg h
/-- the speed that goes from place 'at' on; 0: none -/
def nwF (I : vI) (at' : Int) : Nat → Int32
  | 0 => 0
  | m + 1 => if (I 45 m).toInt = at' then I 46 m else nwF I at' m
/-- where the stretch from 'at' on ends -/
def nxF (I : vI) (at' : Int) (p : Int32) : Nat → Int32
  | 0 => p
  | m + 1 => if at' < (I 45 m).toInt ∧ (I 45 m).toInt < (nxF I at' p m).toInt then I 45 m else nxF I at' p m
def cntG (I : vI) (at' : Int) : Nat → Nat
  | 0 => 0
  | m + 1 => cntG I at' m + if at' < (I 45 m).toInt then 1 else 0
def dueF (I : vI) (p : Int32) : Nat → Int → Int
  | 0, _ => 0
  | f + 1, a => if a < p.toInt then (600 * ((nxF I a p (I 27 27).toInt.toNat).toInt - a)).tdiv (nwF I a (I 27 27).toInt.toNat).toInt + dueF I p f (nxF I a p (I 27 27).toInt.toNat).toInt else 0
theorem nwF_c (I : vI) (a : Int) : ∀ N : Nat, (∃ k, k < N ∧ (I 45 k).toInt = a) → ∃ k, k < N ∧ (I 45 k).toInt = a ∧ nwF I a N = I 46 k
  | 0, ⟨k, h, _⟩ => absurd h (Nat.not_lt_zero k)
  | N + 1, ⟨k, h, g⟩ => by
    unfold nwF
    by_cases q : (I 45 N).toInt = a
    · rw [if_pos q]; exact ⟨N, by omega, q, rfl⟩
    · rw [if_neg q]
      have hk : k ≠ N := fun z => q (z ▸ g)
      obtain ⟨j, h1, h2, h3⟩ := nwF_c I a N ⟨k, by omega, g⟩
      exact ⟨j, by omega, h2, h3⟩
theorem nxF_c (I : vI) (a : Int) (p : Int32) (hp : a < p.toInt) : ∀ N : Nat, a < (nxF I a p N).toInt ∧ (nxF I a p N).toInt ≤ p.toInt ∧ ((nxF I a p N).toInt = p.toInt ∨ ∃ k, k < N ∧ (I 45 k).toInt = (nxF I a p N).toInt)
  | 0 => ⟨hp, Int.le_refl _, Or.inl rfl⟩
  | N + 1 => by
    obtain ⟨h1, h2, h3⟩ := nxF_c I a p hp N
    unfold nxF
    by_cases q : a < (I 45 N).toInt ∧ (I 45 N).toInt < (nxF I a p N).toInt
    · rw [if_pos q]; exact ⟨q.1, by omega, Or.inr ⟨N, by omega, rfl⟩⟩
    · rw [if_neg q]
      refine ⟨h1, h2, h3.elim Or.inl fun ⟨k, g1, g2⟩ => Or.inr ⟨k, by omega, g2⟩⟩
theorem cntG_le (I : vI) {a b : Int} (h : a ≤ b) : ∀ N : Nat, cntG I b N ≤ cntG I a N
  | 0 => Nat.le_refl _
  | N + 1 => by
    have := cntG_le I h N
    unfold cntG
    (repeat' split) <;> omega
theorem cntG_N (I : vI) (a : Int) : ∀ N : Nat, cntG I a N ≤ N
  | 0 => Nat.le_refl _
  | N + 1 => by
    have := cntG_N I a N
    unfold cntG
    split <;> omega
theorem cntG_lt (I : vI) {a b : Int} (h : a < b) : ∀ N : Nat, (∃ k, k < N ∧ (I 45 k).toInt = b) → cntG I b N < cntG I a N
  | 0, ⟨k, q, _⟩ => absurd q (Nat.not_lt_zero k)
  | N + 1, ⟨k, q, g⟩ => by
    have h1 := cntG_le I (Int.le_of_lt h) N
    unfold cntG
    by_cases hk : k = N
    · subst hk
      rw [if_neg (by omega), if_pos (by omega)]; omega
    · have h2 := cntG_lt I h N ⟨k, by omega, g⟩
      (repeat' split) <;> omega
theorem ldivT {x y z : Int64} {a b : Int} (e : z = x / y) (hx : x.toInt = a) (hy : y.toInt = b) (h0 : 0 ≤ a) (hb : 0 < b) : z.toInt = a / b := by
  subst e hx hy
  have h2 := fb_rngL x
  rw [Int64.toInt_div, Int.tdiv_eq_ediv_of_nonneg h0]
  have h3 : 0 ≤ x.toInt / y.toInt := Int.ediv_nonneg h0 (Int.le_of_lt hb)
  have h4 : x.toInt / y.toInt ≤ x.toInt := Int.ediv_le_self _ h0
  exact fb_bmodL (by omega) (by omega)
/-- a quotient cut toward 0, whose number above is no larger than M -/
theorem tdivT {x y z : Int64} {a b : Int} (e : z = x / y) (hx : x.toInt = a) (hy : y.toInt = b) (M : Int) (h1 : -M ≤ a) (h2 : a ≤ M) (hM : M < 9223372036854775808) (hb : 0 < b) : z.toInt = a.tdiv b ∧ -M ≤ a.tdiv b ∧ a.tdiv b ≤ M := by
  subst e hx hy
  have key : -M ≤ x.toInt.tdiv y.toInt ∧ x.toInt.tdiv y.toInt ≤ M := by
    have h3 : (x.toInt.tdiv y.toInt).natAbs ≤ x.toInt.natAbs := by
      rw [Int.natAbs_tdiv]
      exact Nat.div_le_self _ _
    omega
  refine ⟨?_, key⟩
  rw [Int64.toInt_div]
  exact fb_bmodL (by omega) (by omega)
