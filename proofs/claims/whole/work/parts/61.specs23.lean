/-- an end: whatever the reference's call answers and leaves, the answer is the same, and the two sides stand for one rally again -/
def ZP (t : Int) (I : vI) (P : vI → Option Value → Prop) : PT := fun r n' sh' I' L' R' => (∀ X' r', P X' r' → r = r' ∧ JZ (t + 1) n' sh' I' L' R' X') ∧ (∀ a, 27 ≤ a → a ≤ 55 → I' a = I a) ∧ WF n' sh' R' ∧ ∃ w : Value, r = some w
def iN (X : vI) (z : Int) : vI → Option Value → Prop := fun X' r' => X = X' ∧ ∃ v : Int32, r' = some (.int v) ∧ v.toInt = z
def zL (X : vI) (z : Int) : vI → Option Value → Prop := fun X' r' => X = X' ∧ ∃ v : Int64, r' = some (.long v) ∧ v.toInt = z
def eN (X : vI) (v : Int32) : vI → Option Value → Prop := fun X' r' => X = X' ∧ r' = some (.int v)
theorem ie {a b : Int32} (h : a.toInt = b.toInt) : some (Value.int a) = some (Value.int b) := by rw [ti_eq.mpr h]
theorem le' {a b : Int64} (h : a.toInt = b.toInt) : some (Value.long a) = some (Value.long b) := by rw [tl_eq.mpr h]
theorem RDt {n : Nat} {sh : vS} {I : vI} {R : vR} {X : vI} {r j : Nat} (h : RD n sh I R X r j) : (I j 0).toInt = (X 28 r).toInt ∧ (I j 1).toInt = (X 29 r).toInt ∧ (I j 2).toInt = (X 30 r).toInt ∧ (I j 3).toInt = (X 31 r).toInt ∧ (I j 4).toInt = (X 32 r).toInt ∧ ((X 31 r).toInt = 2 → (I j 5).toInt = (X 33 r).toInt) ∧ ((X 31 r).toInt ≠ 2 → (X 33 r).toInt = 0) ∧ (0 ≤ (X 31 r).toInt ∧ (X 31 r).toInt ≤ 2) ∧ ((X 32 r).toInt = 0 ∨ (X 32 r).toInt = 1) ∧ ((X 33 r).toInt = 0 ∨ (X 33 r).toInt = 1) ∧ (1 ≤ (X 30 r).toInt ∧ (X 30 r).toInt ≤ 20000) := by
  obtain ⟨-, -, -, -, ⟨b0, b1, b2, b3, b4⟩, a6, a7, c1, c2, c3, c4, c5, c6, c7⟩ := h
  exact ⟨by rw [b0], by rw [b1], by rw [b2], by rw [b3], by rw [b4], fun z => by rw [a6 z], a7, c5, c6, c7, c4⟩
theorem rdK {n : Nat} {sh : vS} {I : vI} {R : vR} {X : vI} {r j : Nat} (h : RD n sh I R X r j) : ((sh j).1 = 7 ∧ (X 31 r).toInt = 0) ∨ ((sh j).1 = 6 ∧ (X 31 r).toInt = 1) ∨ ((sh j).1 = 3 ∧ (X 31 r).toInt = 2) := by
  obtain ⟨-, -, -, h3, -, -, -, -, -, -, -, h4, -⟩ := h
  have h5 : (sh j).1 = rdC (X 31 r).toInt := by rw [h3]
  unfold rdC at h5
  rcases (show (X 31 r).toInt = 0 ∨ (X 31 r).toInt = 1 ∨ (X 31 r).toInt = 2 by omega) with h | h | h <;> rw [h] at h5 <;> simp at h5 <;> omega
theorem JSb {I X : vI} {q : Nat} (h : JSq I X q) : ((I (19 + 2 * q) 1).toInt = 1 ∧ 0 ≤ (X 34 q).toInt ∧ (X 34 q).toInt ≤ 32 ∧ (I (19 + 2 * q) 2).toInt = (X 35 q).toInt ∧ (I (19 + 2 * q) 3).toInt = (X 34 q).toInt) ∨ ((I (19 + 2 * q) 1).toInt = 0 ∧ (X 34 q).toInt = -1) := by
  rcases h with ⟨z1, z2, z3, z4, z5, -⟩ | z
  · exact Or.inl ⟨z1, z2, z3, by rw [z4], by rw [z5]⟩
  · exact Or.inr z
theorem flt_no {I X : vI} {k i : Int32} {q : Nat} (h : JSq I X q) (hk : k.toInt = (q : Int)) : faultF X k (I (19 + 2 * q) 2) i 1 = noCellF X k i := by
  have hq : k.toInt.toNat = q := by omega
  have h1 : (1 : Int32).toInt = 1 := rfl
  have h2 := JSb h
  unfold faultF noCellF
  rw [hq, h1]
  (repeat' split) <;> first | rfl | (exfalso; omega)
theorem flt_nc (X : vI) (k l i : Int32) : faultF X k l i 1 = if 0 ≤ (X 34 k.toInt.toNat).toInt ∧ (X 35 k.toInt.toNat).toInt ≠ l.toInt then 2 else noCellF X k i := by
  have h1 : (1 : Int32).toInt = 1 := rfl
  unfold faultF noCellF
  rw [h1]
  (repeat' split) <;> first | rfl | (exfalso; omega)
theorem sCell_f (X : vI) (k i l : Int32) : sCell X k i l = if ¬ isSheet k ∨ ¬ isLane l then (up2 X 27 0 0, LOST64) else if (faultF X k l i 1).toInt ≠ 0 then (up2 (up2 X 27 0 0) 27 0 (faultF X k l i 1), LOST64) else (up2 X 27 0 0, (X 36 ((32 * k.toInt) + i.toInt).toNat).toInt64) := by
  rw [flt_nc]
  unfold sCell
  by_cases a : ¬ isSheet k ∨ ¬ isLane l
  · rw [if_pos a, if_pos a]
  · rw [if_neg a, if_neg a]
    by_cases b : 0 ≤ (X 34 k.toInt.toNat).toInt ∧ (X 35 k.toInt.toNat).toInt ≠ l.toInt
    · rw [if_pos b, if_pos b, if_pos (by decide)]
    · rw [if_neg b, if_neg b]
      rcases noCell_3 X k i with ⟨h, -⟩ | ⟨h, -⟩ | ⟨h, -⟩
      · rw [if_neg (by omega), if_neg (by omega)]
      · rw [if_pos (by omega), if_pos (by omega)]
      · rw [if_pos (by omega), if_pos (by omega)]
theorem sBook_f {X : vI} {k l i m : Int32} : sBook X k l i m = if ¬ isSheet k then (up2 X 27 0 0, -1) else if ¬ isLane l then (up2 X 27 0 0, -2) else if 0 < (faultF X k l i m).toInt then (up2 X 27 0 (faultF X k l i m), -10 - faultF X k l i m) else bIf (bookP X ((32 * k.toInt) + i.toInt) m.toInt) (up2 (cpF (up2 X 27 12 m) 38 0 (fun x => X 36 (((32 * k.toInt) + i.toInt) + (x : Int)).toNat) m.toInt.toNat) 27 0 0, m) (up2 X 27 0 0, -2) := rfl
theorem JW_d {I X : vI} (h : JW I X) : (I 11 2).toInt = (X 27 24).toInt ∧ (I 11 3).toInt = (X 27 25).toInt ∧ (I 11 6).toInt = (X 27 27).toInt ∧ (0 ≤ (X 27 24).toInt ∧ (X 27 24).toInt ≤ 10) ∧ (0 ≤ (X 27 27).toInt ∧ (X 27 27).toInt ≤ 8) ∧ (0 ≤ (X 27 25).toInt ∧ (X 27 25).toInt ≤ 200000) ∧ ((X 27 27).toInt ≠ 0 → (X 27 24).toInt ≠ 0) := by
  obtain ⟨y1, y2, y3, y4, y5, y6, y7, y8, y9, y10, y11, y12, y13⟩ := h
  exact ⟨by rw [y1], by rw [y2], by rw [y3], y8, y9, y10, y13⟩
theorem hasD {I X : vI} (h : JW I X) : hasDueP X ↔ ∃ k, k < (X 27 27).toInt.toNat ∧ due0P X k := by
  have hd := JW_d h
  constructor
  · exact fun z => z.1
  · intro z
    obtain ⟨k, hk, -⟩ := id z
    have := hd.2.2.2.2.2.2 (by omega)
    exact ⟨z, by omega⟩
theorem fbool {x : Int32} (h : x.toInt = 0 ∨ x.toInt = 1) : fits .boolean (.int x) = true := by
  rcases b01 h with rfl | rfl <;> rfl
theorem up2_id {α : Type} {f : Nat → Nat → α} {i k : Nat} {v : α} (h : f i k = v) : up2 f i k v = f := by
  funext a b
  unfold up2
  by_cases q : a = i ∧ b = k
  · rw [if_pos q, q.1, q.2, h]
  · rw [if_neg q]
theorem JScl {I X : vI} {q fn : Nat} {m : Int} (h : JSq I X q) (h0 : 0 ≤ (X 34 q).toInt) (hm : (fn : Int) + m ≤ (X 34 q).toInt) : ∀ y : Nat, (y : Int) < m → I (20 + 2 * q) (fn + y) = X 36 (32 * q + fn + y) := by
  rcases h with ⟨-, -, -, -, -, h6⟩ | ⟨-, h2⟩
  · intro y hy
    rw [h6 (fn + y) (by omega), Nat.add_assoc]
  · omega
theorem trF_2 {X : vI} {a b : Int32} : trF (trF X a) b = up2 (up2 X 27 42 (31 * X 27 42 + a)) 27 42 (31 * (31 * X 27 42 + a) + b) := by
  unfold trF; rw [up2_e]
section VG3
variable {G : vG} {own : String} {cc : ByteArray} {ret : Option FieldType} {ini : Bool} {d MC MS nL : Nat} {post : PT} {pc : Nat} {lo : List (Nat × Value)} {st st0 : List Value} {ce sl n : Nat} {sh : vS} {I : vI} {L : vL} {R : vR} {idx : Nat}
/-- car.isClockedAt(c) of any car of the table -/
theorem V_clk {X : vI} {a j cn : Nat} {c : Int32} (hw : WF n sh R) (hK : KD n sh I R X a j) (hcn : c.toInt = (cn : Int)) (h8 : cn < 8) (o1 : OV own idx RX1 yX1_isClockedAt yX1_isClockedAt 1) (o5 : OV own idx RX5 yX1_isClockedAt yX1_isClockedAt 1) (o4 : OV own idx RX4 yX1_isClockedAt yX1_isClockedAt 1) (hd : decode cc pc = .ok (.invokevirtual idx, 3)) (hdd : 1 ≤ d) (hce : ce ≤ MC) (hsl : sl ≤ MS) (hW : (st.map fun v => v.category).sum ≤ 8)
    (k1 : 0 < (X 53 (8 * a + cn)).toInt → V G own cc ret ini d MC MS nL post (pc + 3) lo (.int 1 :: st) ce sl n sh I L R) (k0 : (X 53 (8 * a + cn)).toInt = 0 → V G own cc ret ini d MC MS nL post (pc + 3) lo (.int 0 :: st) ce sl n sh I L R) : V G own cc ret ini d MC MS nL post pc lo (.int c :: .ref (ad G j) :: st) ce sl n sh I L R := by
  have z := kdS hK
  have f := kdF hK cn h8
  have ec : c.toInt.toNat = cn := by omega
  have key : ∀ (r1 : Option Value) (n1 : Nat) (sh1 : vS) (I1 : vI) (L1 : vL) (R1 : vR), (PI n sh L R (fun I' r => I = I' ∧ rb r (0 < (I (j + 2) c.toInt.toNat).toInt))) r1 n1 sh1 I1 L1 R1 → V G own cc ret ini d MC MS nL post (pc + 3) lo (r1.toList ++ st) (ce + 0) (sl + 0) n1 sh1 I1 L1 R1 := fun r1 n1 sh1 I1 L1 R1 hq => by
    obtain ⟨rfl, rfl, rfl, rfl, rfl, hq⟩ := hq
    rw [ec] at hq
    rcases hq with ⟨hq, rfl⟩ | ⟨hq, rfl⟩
    · exact k1 (by omega)
    · exact k0 (by omega)
  rcases z.1.2 with h | h | h
  · exact V_callO (As := [.int c]) (st := st) (c_X1_isClockedAt G j c hw z.1.1 z.1.2 z.2.1 z.2.2.1 z.2.2.2 (by omega)) mf_X1_isClockedAt o1 z.1.1 h (by decide) rfl hd rfl rfl (by omega) (by omega) (by omega) hW key
  · exact V_callO (As := [.int c]) (st := st) (c_X1_isClockedAt G j c hw z.1.1 z.1.2 z.2.1 z.2.2.1 z.2.2.2 (by omega)) mf_X1_isClockedAt o5 z.1.1 h (by decide) rfl hd rfl rfl (by omega) (by omega) (by omega) hW key
  · exact V_callO (As := [.int c]) (st := st) (c_X1_isClockedAt G j c hw z.1.1 z.1.2 z.2.1 z.2.2.1 z.2.2.2 (by omega)) mf_X1_isClockedAt o4 z.1.1 h (by decide) rfl hd rfl rfl (by omega) (by omega) (by omega) hW key
theorem V_arr {X : vI} {a j : Nat} {c t0 : Int32} (hw : WF n sh R) (hK : KD n sh I R X a j) (h8 : 0 ≤ c.toInt ∧ c.toInt < 8) (o1 : OV own idx RX1 yX1_arrive yX1_arrive 2) (o5 : OV own idx RX5 yX1_arrive yX1_arrive 2) (o4 : OV own idx RX4 yX1_arrive yX1_arrive 2) (hd : decode cc pc = .ok (.invokevirtual idx, 3)) (hdd : 1 ≤ d) (hce : ce ≤ MC) (hsl : sl ≤ MS) (hW : (st.map fun v => v.category).sum ≤ 8)
    (kk : V G own cc ret ini d MC MS nL post (pc + 3) lo st ce sl n sh (up2 (up2 (up2 I j 4 (I j 4 + 1)) (j + 2) c.toInt.toNat (I j 4 + 1)) (j + 1) c.toInt.toNat t0) L R) : V G own cc ret ini d MC MS nL post pc lo (.int t0 :: .int c :: .ref (ad G j) :: st) ce sl n sh I L R := by
  have z := kdS hK
  have key : ∀ (r1 : Option Value) (n1 : Nat) (sh1 : vS) (I1 : vI) (L1 : vL) (R1 : vR), (PI n sh L R (fun I' r => up2 (up2 (up2 I j 4 (I j 4 + 1)) (j + 2) c.toInt.toNat (I j 4 + 1)) (j + 1) c.toInt.toNat t0 = I' ∧ r = none)) r1 n1 sh1 I1 L1 R1 → V G own cc ret ini d MC MS nL post (pc + 3) lo (r1.toList ++ st) (ce + 0) (sl + 0) n1 sh1 I1 L1 R1 := fun r1 n1 sh1 I1 L1 R1 hq => by
    obtain ⟨rfl, rfl, rfl, rfl, rfl, rfl⟩ := hq
    exact kk
  rcases z.1.2 with h | h | h
  · exact V_callO (As := [.int c, .int t0]) (st := st) (c_X1_arrive G j c t0 hw z.1.1 z.1.2 z.2.1 z.2.2.1 z.2.2.2 h8) mf_X1_arrive o1 z.1.1 h (by decide) rfl hd rfl rfl (by omega) (by omega) (by omega) hW key
  · exact V_callO (As := [.int c, .int t0]) (st := st) (c_X1_arrive G j c t0 hw z.1.1 z.1.2 z.2.1 z.2.2.1 z.2.2.2 h8) mf_X1_arrive o5 z.1.1 h (by decide) rfl hd rfl rfl (by omega) (by omega) (by omega) hW key
  · exact V_callO (As := [.int c, .int t0]) (st := st) (c_X1_arrive G j c t0 hw z.1.1 z.1.2 z.2.1 z.2.2.1 z.2.2.2 h8) mf_X1_arrive o4 z.1.1 h (by decide) rfl hd rfl rfl (by omega) (by omega) (by omega) hW key
/-- road.isOpen() of any road of the table -/
theorem V_isO {X : vI} {r j : Nat} (hw : WF n sh R) (h : RD n sh I R X r j) (o7 : OV own idx RX7 yX7_isOpen yX7_isOpen 0) (o6 : OV own idx RX6 yX7_isOpen yX7_isOpen 0) (o3 : OV own idx RX3 yX7_isOpen yX3_isOpen 0) (hd : decode cc pc = .ok (.invokevirtual idx, 3)) (hdd : 3 ≤ d) (hce : ce ≤ MC) (hsl : sl ≤ MS) (hW : (st.map fun v => v.category).sum ≤ 8)
    (k1 : ¬ ((X 32 r).toInt ≠ 0 ∨ (X 33 r).toInt ≠ 0) → V G own cc ret ini d MC MS nL post (pc + 3) lo (.int 1 :: st) ce sl n sh I L R) (k0 : ((X 32 r).toInt ≠ 0 ∨ (X 33 r).toInt ≠ 0) → V G own cc ret ini d MC MS nL post (pc + 3) lo (.int 0 :: st) ce sl n sh I L R) : V G own cc ret ini d MC MS nL post pc lo (.ref (ad G j) :: st) ce sl n sh I L R := by
  have hj := h.2.2.1
  have h56 := h.2.1
  have hdt := RDt h
  rcases rdK h with ⟨hs, hk⟩ | ⟨hs, hk⟩ | ⟨hs, hk⟩
  · refine V_callO (As := []) (st := st) (c_X7_isOpen G j hw hj (Or.inl hs) h56) mf_X7_isOpen o7 hj hs (by decide) rfl hd rfl rfl (by omega) (by omega) (by omega) hW (fun r1 n1 sh1 I1 L1 R1 hq => ?_)
    obtain ⟨rfl, rfl, rfl, rfl, rfl, hq⟩ := hq
    rcases hq with ⟨hq, rfl⟩ | ⟨hq, rfl⟩
    · exact k1 (by omega)
    · exact k0 (by omega)
  · refine V_callO (As := []) (st := st) (c_X7_isOpen G j hw hj (Or.inr (Or.inl hs)) h56) mf_X7_isOpen o6 hj hs (by decide) rfl hd rfl rfl (by omega) (by omega) (by omega) hW (fun r1 n1 sh1 I1 L1 R1 hq => ?_)
    obtain ⟨rfl, rfl, rfl, rfl, rfl, hq⟩ := hq
    rcases hq with ⟨hq, rfl⟩ | ⟨hq, rfl⟩
    · exact k1 (by omega)
    · exact k0 (by omega)
  · refine V_callO (As := []) (st := st) (c_X3_isOpen G j hw hj hs h56) mf_X3_isOpen o3 hj hs (by decide) rfl hd rfl rfl (by omega) (by omega) (by omega) hW (fun r1 n1 sh1 I1 L1 R1 hq => ?_)
    obtain ⟨rfl, rfl, rfl, rfl, rfl, hq⟩ := hq
    rcases hq with ⟨hq, rfl⟩ | ⟨hq, rfl⟩
    · exact k1 (by omega)
    · exact k0 (by omega)
end VG3
