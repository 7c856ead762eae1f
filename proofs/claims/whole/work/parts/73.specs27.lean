/-- what the reference's methods ask of its numbers -/
def XFs (X : vI) : Prop := (0 ≤ (X 27 1).toInt ∧ (X 27 1).toInt ≤ 16) ∧ (∀ k, k < 4 → -1 ≤ (X 34 k).toInt ∧ (X 34 k).toInt ≤ 32) ∧ (0 ≤ (X 27 24).toInt ∧ (X 27 24).toInt ≤ 10) ∧ (0 ≤ (X 27 27).toInt ∧ (X 27 27).toInt ≤ 8) ∧ (0 ≤ (X 27 30).toInt ∧ (X 27 30).toInt ≤ 8) ∧ (0 ≤ (X 27 35).toInt ∧ (X 27 35).toInt ≤ 8) ∧ (∀ c : Int, 0 ≤ c → c < (X 27 30).toInt → ckOK X c) ∧ (0 ≤ (X 27 25).toInt ∧ (X 27 25).toInt ≤ 200000) ∧ (∀ k, k < (X 27 27).toInt.toNat → 1 ≤ (X 46 k).toInt ∧ (X 46 k).toInt ≤ 3000) ∧ (hasDueP X → PV X) ∧ (∀ i, 0 ≤ (X 53 i).toInt) ∧ (∀ k, k < (X 27 24).toInt.toNat → (0 ≤ (X 44 k).toInt ∧ (X 44 k).toInt < 16) ∧ 0 ≤ (X 30 (X 44 k).toInt.toNat).toInt ∧ (X 30 (X 44 k).toInt.toNat).toInt ≤ 20000) ∧ (0 ≤ (X 27 12).toInt ∧ (X 27 12).toInt ≤ 8) ∧ (∀ r, r < 16 → 0 ≤ (X 30 r).toInt ∧ (X 30 r).toInt ≤ 20000) ∧ ((X 27 12).toInt ≠ 0 → SE X) ∧ ((X 27 12).toInt ≠ 0 → 0 ≤ (X 38 0).toInt ∧ (X 38 0).toInt ≤ 9)
theorem XF {t : Int} {n : Nat} {sh : vS} {I : vI} {L : vL} {R : vR} {X : vI} (h : JZ t n sh I L R X) : XFs X := by
  obtain ⟨⟨hw, hR, hC, hK, hS, hT, hB, hQ, hY, hV⟩, hx⟩ := h
  obtain ⟨y1, y2, y3, y4, y5, y6, y7, y8, y9, y10, y11, y12, y13⟩ := hY
  have hck : ∀ c : Int, 0 ≤ c → c < (X 27 30).toInt → ckOK X c := fun c h0 h1 => by
    have z := (hC.2.2.1 c.toNat (by omega)).2.2.2.2.2.2.2.1
    rw [show ((c.toNat : Nat) : Int) = c by omega] at z
    exact z
  have hpl : ∀ c : Nat, c < (X 27 30).toInt.toNat → 0 ≤ (X 47 c).toInt ∧ (X 47 c).toInt ≤ 200000 := fun c hc => by
    have z := (hC.2.2.1 c (by omega)).2.2.2.2.2.2.2.2.1
    omega
  have hv : ∀ k, k < (X 27 27).toInt.toNat → 1 ≤ (X 46 k).toInt ∧ (X 46 k).toInt ≤ 3000 := fun k hk => y11 k (by omega)
  have hlen : ∀ r, r < 16 → 0 ≤ (X 30 r).toInt ∧ (X 30 r).toInt ≤ 20000 := fun r hr => (hV.2.2.2.1 r hr).2.2
  have hR2 := hR.2.1
  refine ⟨hR.2.1, fun k hk => ?_, y8, y9, hC.2.1, hK.2.1, hck, y10, hv, fun hd => ⟨hC.2.1, y9, hd.1, hv, hpl, hck, hV.1, hV.2.1, hV.2.2.1⟩, hV.2.2.1, fun k hk => ?_, hB.2.2.1, hlen, fun h0 => SE_J hR hB hV h0, fun h0 => (hB.2.2.2 h0).2 0 (by have := (hB.2.2.2 h0).1; omega)⟩
  · have z := JSb (hS k hk)
    omega
  · have z := y12 k (by omega)
    exact ⟨⟨z.1, by omega⟩, hlen _ (by omega)⟩
theorem XB {I : vI} (h1 : 0 ≤ (I 27 1).toInt ∧ (I 27 1).toInt ≤ 16) : ∀ I1, SF I I1 → srF I = (sgM I1, false) → 0 ≤ (I1 27 15).toInt → 0 ≤ (I1 27 16).toInt ∧ (I1 27 16).toInt ≤ 10 := fun I1 _ e h0 => by
  have z := BV_sr h1
  rw [e] at z
  have z2 := (z h0).1
  have z3 : 1 ≤ (I1 27 16).toInt ∧ (I1 27 16).toInt ≤ 10 := z2
  omega
theorem VS_saldk {G : vG} {sb Ln : Nat} {xs : Nat → Int32} {pc : Nat} {lo : List (Nat × Value)} {st : List Value} {ce sl n : Nat} {sh : vS} {I : vI} {L : vL} {R : vR} {x : Int32} {j : Nat} (hd : decode code pc = .ok (.iaload, 1)) (h0 : x.toInt = (j : Int)) (h1 : j < Ln) (k : VS G sb Ln xs (pc + 1) lo (.int (xs j) :: st) ce sl n sh I L R) : VS G sb Ln xs pc lo (.int x :: .ref sb :: st) ce sl n sh I L R :=
  VS_sald hd (by omega) (by omega) (by rw [h0, Int.toNat_natCast]; exact k)
/-- where a call of the class, and then the reference's, has been walked -/
theorem two {t : Int} {n : Nat} {sh : vS} {J : vI} {L : vL} {R : vR} {X X2 : vI} {P : vI → Option Value → Prop} {w : Value} {r2 : Option Value} (hA : ∀ X' r', P X' r' → some w = r' ∧ JZ (t + 1) n sh (mx J X) L R X') (hp : P X2 r2) : some w = r2 ∧ JZ (t + 1) n sh (mx J X2) L R X2 := ⟨(hA X2 r2 hp).1, JZ_m (hA X2 r2 hp).2⟩
