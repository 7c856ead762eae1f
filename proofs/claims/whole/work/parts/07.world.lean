/-- the fixed part of the world: the class's own objects (0 .. 26), the reference's (27 .. 55) -/
def shF : Nat → Nat × Nat
  | 0 => (11, 0)
  | 1 => (15, 16)
  | 2 => (0, 0)
  | 3 => (13, 8)
  | 4 => (8, 0)
  | 5 => (13, 10)
  | 6 => (13, 160)
  | 7 => (13, 160)
  | 8 => (13, 160)
  | 9 => (13, 10)
  | 10 => (13, 10)
  | 11 => (10, 0)
  | 12 => (13, 10)
  | 13 => (13, 10)
  | 14 => (13, 8)
  | 15 => (13, 8)
  | 16 => (16, 8)
  | 17 => (17, 8)
  | 18 => (18, 4)
  | 19 => (9, 0)
  | 20 => (13, 32)
  | 21 => (9, 0)
  | 22 => (13, 32)
  | 23 => (9, 0)
  | 24 => (13, 32)
  | 25 => (9, 0)
  | 26 => (13, 32)
  | 27 => (12, 0)
  | 28 => (13, 16)
  | 29 => (13, 16)
  | 30 => (13, 16)
  | 31 => (13, 16)
  | 32 => (14, 16)
  | 33 => (14, 16)
  | 34 => (13, 4)
  | 35 => (13, 4)
  | 36 => (13, 128)
  | 37 => (13, 32)
  | 38 => (13, 8)
  | 39 => (13, 10)
  | 40 => (13, 11)
  | 41 => (13, 11)
  | 42 => (13, 11)
  | 43 => (13, 11)
  | 44 => (13, 10)
  | 45 => (13, 8)
  | 46 => (13, 8)
  | 47 => (13, 8)
  | 48 => (14, 8)
  | 49 => (14, 8)
  | 50 => (13, 32)
  | 51 => (13, 8)
  | 52 => (13, 8)
  | 53 => (13, 64)
  | 54 => (13, 64)
  | 55 => (13, 64)
  | _ => (0, 0)
def rF : Nat → Nat → Option Nat
  | 0, 0 => some 1
  | 0, 2 => some 2
  | 0, 3 => some 4
  | 0, 4 => some 11
  | 0, 5 => some 16
  | 0, 7 => some 17
  | 0, 9 => some 18
  | 2, 0 => some 3
  | 4, 0 => some 5
  | 4, 1 => some 6
  | 4, 2 => some 7
  | 4, 3 => some 8
  | 4, 5 => some 9
  | 4, 9 => some 10
  | 11, 0 => some 12
  | 11, 1 => some 13
  | 11, 4 => some 14
  | 11, 5 => some 15
  | 18, 0 => some 19
  | 18, 1 => some 21
  | 18, 2 => some 23
  | 18, 3 => some 25
  | 19, 0 => some 20
  | 21, 0 => some 22
  | 23, 0 => some 24
  | 25, 0 => some 26
  | 27, 2 => some 28
  | 27, 3 => some 29
  | 27, 4 => some 30
  | 27, 5 => some 31
  | 27, 6 => some 32
  | 27, 7 => some 33
  | 27, 8 => some 34
  | 27, 9 => some 35
  | 27, 10 => some 36
  | 27, 11 => some 37
  | 27, 13 => some 38
  | 27, 17 => some 39
  | 27, 20 => some 40
  | 27, 21 => some 41
  | 27, 22 => some 42
  | 27, 23 => some 43
  | 27, 26 => some 44
  | 27, 28 => some 45
  | 27, 29 => some 46
  | 27, 31 => some 47
  | 27, 32 => some 48
  | 27, 33 => some 49
  | 27, 34 => some 50
  | 27, 36 => some 51
  | 27, 37 => some 52
  | 27, 39 => some 53
  | 27, 40 => some 54
  | 27, 41 => some 55
  | _, _ => none
def WF (n : Nat) (sh : vS) (R : vR) : Prop := 56 ≤ n ∧ (∀ i, i < 56 → sh i = shF i) ∧ ∀ i k j, rF i k = some j → R i k = some j
theorem wN {n : Nat} {sh : vS} {R : vR} (hw : WF n sh R) {i : Nat} (h : i < 56) : i < n := Nat.lt_of_lt_of_le h hw.1
theorem wS {n : Nat} {sh : vS} {R : vR} (hw : WF n sh R) {i : Nat} (h : i < 56) {c : Nat × Nat} (e : shF i = c) : sh i = c := (hw.2.1 i h).trans e
theorem wS1 {n : Nat} {sh : vS} {R : vR} (hw : WF n sh R) {i : Nat} (h : i < 56) {c : Nat} (e : (shF i).1 = c) : (sh i).1 = c := by rw [hw.2.1 i h]; exact e
theorem wR {n : Nat} {sh : vS} {R : vR} (hw : WF n sh R) {i k j : Nat} (e : rF i k = some j) : R i k = some j := hw.2.2 i k j e
/-- an end where numbers of 32 bits alone may have changed -/
def PI (n : Nat) (sh : vS) (L : vL) (R : vR) (Q : vI → Option Value → Prop) : PT := fun r n' sh' I' L' R' => n = n' ∧ sh = sh' ∧ L = L' ∧ R = R' ∧ Q I' r
/-- an answer that is true or false -/
def rb (r : Option Value) (P : Prop) : Prop := (P ∧ r = some (.int 1)) ∨ (¬ P ∧ r = some (.int 0))
section VQ
variable {G : vG} {own : String} {cc : ByteArray} {ret : Option FieldType} {ini : Bool} {d MC MS nL : Nat} {post : PT} {pc : Nat} {lo : List (Nat × Value)} {st st0 : List Value} {ce sl n : Nat} {sh : vS} {I : vI} {L : vL} {R : vR} {idx : Nat}
theorem V_gI {c k i idx : Nat} {v : Int32} (hv : I i k = v) (hf : FK own idx c k 0) (hd : decode cc pc = .ok (.getfield idx, 3)) (hi : i < n) (hs : (sh i).1 = c) (kk : V G own cc ret ini d MC MS nL post (pc + 3) lo (.int v :: st) ce sl n sh I L R) : V G own cc ret ini d MC MS nL post pc lo (.ref (ad G i) :: st) ce sl n sh I L R := by
  subst hv; exact V_getI hf hd hi hs kk
theorem V_gL {c k i idx : Nat} {v : Int64} (hv : L i k = v) (hf : FK own idx c k 1) (hd : decode cc pc = .ok (.getfield idx, 3)) (hi : i < n) (hs : (sh i).1 = c) (kk : V G own cc ret ini d MC MS nL post (pc + 3) lo (.long v :: st) ce sl n sh I L R) : V G own cc ret ini d MC MS nL post pc lo (.ref (ad G i) :: st) ce sl n sh I L R := by
  subst hv; exact V_getL hf hd hi hs kk
theorem V_ia {i N k : Nat} {x v : Int32} (hv : I i k = v) (hd : decode cc pc = .ok (.iaload, 1)) (hi : i < n) (hs : sh i = (13, N)) (hk : x.toInt = (k : Int)) (h1 : k < N) (kk : V G own cc ret ini d MC MS nL post (pc + 1) lo (.int v :: st) ce sl n sh I L R) : V G own cc ret ini d MC MS nL post pc lo (.int x :: .ref (ad G i) :: st) ce sl n sh I L R := by
  subst hv; exact V_ialk hd hi hs hk h1 kk
theorem V_za {i N k : Nat} {x v : Int32} (hv : I i k = v) (hd : decode cc pc = .ok (.baload, 1)) (hi : i < n) (hs : sh i = (14, N)) (hk : x.toInt = (k : Int)) (h1 : k < N) (kk : V G own cc ret ini d MC MS nL post (pc + 1) lo (.int v :: st) ce sl n sh I L R) : V G own cc ret ini d MC MS nL post pc lo (.int x :: .ref (ad G i) :: st) ce sl n sh I L R := by
  subst hv; exact V_zalk hd hi hs hk h1 kk
end VQ
