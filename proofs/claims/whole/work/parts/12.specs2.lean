/-- 'h' says whether p holds of one below m -/
def ac (h : Int32) (p : Nat → Prop) (m : Nat) : Prop := (h.toInt = 1 ∧ ∃ k, k < m ∧ p k) ∨ (h.toInt = 0 ∧ ∀ k, k < m → ¬ p k)
theorem ac_0 {p : Nat → Prop} : ac 0 p 0 := Or.inr ⟨rfl, fun k h => absurd h (Nat.not_lt_zero k)⟩
theorem ac_t {a : Int32} {p : Nat → Prop} {m : Nat} (h : ac a p m) (c : a.toInt ≠ 0) : ac 1 p (m + 1) := by
  rcases h with ⟨-, k, h1, h2⟩ | ⟨h1, -⟩
  · exact Or.inl ⟨rfl, k, by omega, h2⟩
  · exact absurd h1 c
theorem ac_y {p : Nat → Prop} {m : Nat} (h : p m) : ac 1 p (m + 1) := Or.inl ⟨rfl, m, by omega, h⟩
theorem ac_n {a : Int32} {p : Nat → Prop} {m : Nat} (h : ac a p m) (c : a.toInt = 0) (hp : ¬ p m) : ac 0 p (m + 1) := by
  rcases h with ⟨h1, -⟩ | ⟨-, h2⟩
  · omega
  · exact Or.inr ⟨rfl, fun k hk => by
      rcases (show k < m ∨ k = m by omega) with h | rfl
      · exact h2 k h
      · exact hp⟩
theorem ac_b {a : Int32} {p : Nat → Prop} {m : Nat} (h : ac a p m) : a.toInt = 0 ∨ a.toInt = 1 := by
  rcases h with ⟨h1, -⟩ | ⟨h1, -⟩
  · exact Or.inr h1
  · exact Or.inl h1
theorem ac_e {a : Int32} {p : Nat → Prop} {m : Nat} (h : ac a p m) : rb (some (.int a)) (∃ k, k < m ∧ p k) := by
  rcases h with ⟨h1, h2⟩ | ⟨h1, h2⟩
  · exact Or.inl ⟨h2, by rw [show a = 1 from ti_eq.mpr h1]⟩
  · exact Or.inr ⟨fun ⟨k, q1, q2⟩ => h2 k q1 q2, by rw [show a = 0 from ti_eq.mpr h1]⟩
theorem rb_of {r : Option Value} {P Q : Prop} (h : rb r P) (e : P ↔ Q) : rb r Q := by
  rcases h with ⟨h1, h2⟩ | ⟨h1, h2⟩
  · exact Or.inl ⟨e.mp h1, h2⟩
  · exact Or.inr ⟨fun q => h1 (e.mpr q), h2⟩
def inP (I : vI) (r : Int) (k : Nat) : Prop := (I 40 k).toInt = r
def due0P (I : vI) (k : Nat) : Prop := (I 45 k).toInt = 0
def hasDueP (I : vI) : Prop := (∃ k, k < (I 27 27).toInt.toNat ∧ due0P I k) ∧ 0 < (I 27 24).toInt
def aheadP (I : vI) (q x : Int) (k : Nat) : Prop := (I 36 (q + (k : Int)).toNat).toInt = (I 36 (q + x).toNat).toInt
def oooP (I : vI) (car c : Int32) (k : Nat) : Prop := (I 47 c.toInt.toNat).toInt < (I 47 k).toInt ∧ (I 48 k).toInt = 0 ∧ 0 < (I 53 ((8 * car.toInt) + (k : Int)).toNat).toInt ∧ (I 53 ((8 * car.toInt) + (k : Int)).toNat).toInt < (I 53 ((8 * car.toInt) + c.toInt).toNat).toInt
def ooo (I : vI) (car c : Int32) : Prop := ∃ k, k < (I 27 30).toInt.toNat ∧ oooP I car c k
def carF (I : vI) (car c : Int32) : Nat → Int
  | 0 => 0
  | k + 1 => carF I car c k + (if (I 47 k).toInt ≤ (I 47 c.toInt.toNat).toInt then (if (I 55 ((8 * car.toInt) + (k : Int)).toNat).toInt < 600 then (I 55 ((8 * car.toInt) + (k : Int)).toNat).toInt else 600) else 0)
theorem carF_b (I : vI) (car c : Int32) : ∀ k : Nat, -2147483648 * (k : Int) ≤ carF I car c k ∧ carF I car c k ≤ 600 * (k : Int)
  | 0 => by simp [carF]
  | k + 1 => by
    have h := carF_b I car c k
    have h2 := fb_rng (I 55 ((8 * car.toInt) + (k : Int)).toNat)
    unfold carF
    (repeat' split) <;> omega
