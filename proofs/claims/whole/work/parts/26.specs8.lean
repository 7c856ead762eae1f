theorem SB_0 (a : Int) (b : Nat → Int32) : SB (0, -1, a, 0, b) := by
  refine ⟨?_, ?_, ?_, ?_, ?_, ?_⟩
  · show (0 : Int) ≤ 0; omega
  · show (0 : Int) ≤ 60000; omega
  · show (-1 : Int) ≤ -1; omega
  · show (-1 : Int) ≤ 200000; omega
  · show (0 : Int) ≤ 0; omega
  · show (0 : Int) ≤ 0; omega
/-- the answer of 'ways', and what it leaves -/
def wyP (I I' : vI) (v : Int32) : Prop := ((I 27 12).toInt = 0 ∧ I = I' ∧ v = -3) ∨ ((I 27 12).toInt ≠ 0 ∧ SF I I' ∧ SB (sgM I') ∧ ∃ sp : Bool, srF I = (sgM I', sp) ∧ ((sp = true ∧ v = -6) ∨ (sp = false ∧ v.toInt = if (sgM I').2.1 < 0 then 0 else 1 + (sgM I').2.2.2.1)))
/-- clocked and claimed rows emptied, m places of each -/
def zzF (I : vI) : Nat → vI
  | 0 => I
  | m + 1 => up2 (up2 (zzF I m) 53 m 0) 55 m 0
theorem zzF_o {I : vI} {a b : Nat} (h1 : a ≠ 53) (h2 : a ≠ 55) : ∀ m : Nat, zzF I m a b = I a b
  | 0 => rfl
  | m + 1 => by
    show up2 (up2 (zzF I m) 53 m 0) 55 m 0 a b = _
    rw [up2_o h2, up2_o h1]
    exact zzF_o h1 h2 m
def lyF (I1 : vI) : vI := zzF (up2 (up2 (up2 (cpF (up2 (up2 I1 27 24 (I1 27 16)) 27 25 (I1 27 15)) 44 0 (I1 39) (I1 27 16).toInt.toNat) 27 27 0) 27 30 0) 27 38 0) 64
def lyP (I I' : vI) (v : Int32) : Prop := ((I 27 12).toInt = 0 ∧ I = I' ∧ v = -3) ∨ ((I 27 12).toInt ≠ 0 ∧ ∃ I1 : vI, SF I I1 ∧ SB (sgM I1) ∧ ∃ sp : Bool, srF I = (sgM I1, sp) ∧ ((sp = true ∧ I' = I1 ∧ v = -6) ∨ (sp = false ∧ (I1 27 15).toInt < 0 ∧ I' = I1 ∧ v = -9) ∨ (sp = false ∧ 0 ≤ (I1 27 15).toInt ∧ I' = lyF I1 ∧ v = I1 27 16)))
