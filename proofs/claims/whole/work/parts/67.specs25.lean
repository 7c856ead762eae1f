theorem WF_new {n : Nat} {sh : vS} {R : vR} {c : Nat × Nat} (hw : WF n sh R) : WF (n + 1) (uph sh n c) (uph R n (fun _ => none)) := by
  have h1 := hw.1
  exact FWf hw (by omega) (fun i hi => uph_o (by omega)) (fun i k j e => by rw [uph_o (by have := rF_56 e; omega)])
theorem WF_u {n : Nat} {sh : vS} {R : vR} {b c : Nat} {w : Option Nat} (hw : WF n sh R) (h : b = 1 ∨ b = 16 ∨ b = 17) : WF n sh (up2 R b c w) :=
  FWf hw (Nat.le_refl _) (fun _ _ => rfl) (fun i k j e => WFo (v := 0) e (by omega))
section VNR
variable {G : vG} {own : String} {cc : ByteArray} {ret : Option FieldType} {ini : Bool} {d MC MS nL : Nat} {post : PT} {pc : Nat} {lo : List (Nat × Value)} {st st0 : List Value} {ce sl n : Nat} {sh : vS} {I : vI} {L : vL} {R : vR} {idx : Nat}
theorem V_aastR {i N t j k : Nat} {kd : Int} {x : Int32} (hd : decode cc pc = .ok (.aastore, 1)) (hi : i < n) (hs : sh i = (13 + t, N)) (ht : 2 ≤ t) (hty : (vty G)[t]? = some (G.2.2.2.2 t, .object RX7)) (hjs : j < n ∧ sh j = (rdC kd, 0)) (hk : x.toInt = (k : Int)) (h1 : k < N) (kk : V G own cc ret ini d MC MS nL post (pc + 1) lo st ce sl n sh I L (up2 R i k (some j))) : V G own cc ret ini d MC MS nL post pc lo (.ref (ad G j) :: .int x :: .ref (ad G i) :: st) ce sl n sh I L R := by
  obtain ⟨hj, hsj⟩ := hjs
  rcases rdC_3 kd with h | h | h
  · exact V_aastK hd hi hs ht hty hj (by rw [hsj, h]) (by decide : 7 < 13) rfl (Or.inl rfl) hk h1 kk
  · exact V_aastK hd hi hs ht hty hj (by rw [hsj, h]) (by decide : 6 < 13) rfl (Or.inr (List.mem_of_getElem? (i := 3) rfl)) hk h1 kk
  · exact V_aastK hd hi hs ht hty hj (by rw [hsj, h]) (by decide : 3 < 13) rfl (Or.inr (List.mem_of_getElem? (i := 4) rfl)) hk h1 kk
theorem V_aastP {i N t j k : Nat} {kd : Int} {x : Int32} (hd : decode cc pc = .ok (.aastore, 1)) (hi : i < n) (hs : sh i = (13 + t, N)) (ht : 2 ≤ t) (hty : (vty G)[t]? = some (G.2.2.2.2 t, .object RX1)) (hjs : j < n ∧ sh j = (crC kd, 0)) (hk : x.toInt = (k : Int)) (h1 : k < N) (kk : V G own cc ret ini d MC MS nL post (pc + 1) lo st ce sl n sh I L (up2 R i k (some j))) : V G own cc ret ini d MC MS nL post pc lo (.ref (ad G j) :: .int x :: .ref (ad G i) :: st) ce sl n sh I L R := by
  obtain ⟨hj, hsj⟩ := hjs
  rcases crC_3 kd with h | h | h
  · exact V_aastK hd hi hs ht hty hj (by rw [hsj, h]) (by decide : 1 < 13) rfl (Or.inl rfl) hk h1 kk
  · exact V_aastK hd hi hs ht hty hj (by rw [hsj, h]) (by decide : 5 < 13) rfl (Or.inr (List.mem_of_getElem? (i := 2) rfl)) hk h1 kk
  · exact V_aastK hd hi hs ht hty hj (by rw [hsj, h]) (by decide : 4 < 13) rfl (Or.inr (List.mem_of_getElem? (i := 1) rfl)) hk h1 kk
theorem V_aastO {i N t j q k : Nat} {r : vw_C} {x : Int32} (hd : decode cc pc = .ok (.aastore, 1)) (hi : i < n) (hs : sh i = (13 + t, N)) (ht : 2 ≤ t) (hty : (vty G)[t]? = some (G.2.2.2.2 t, .object r.1)) (hjs : (j < n ∧ (sh j).1 = q) ∧ q < 13 ∧ vwCl[q]? = some r) (hk : x.toInt = (k : Int)) (h1 : k < N) (kk : V G own cc ret ini d MC MS nL post (pc + 1) lo st ce sl n sh I L (up2 R i k (some j))) : V G own cc ret ini d MC MS nL post pc lo (.ref (ad G j) :: .int x :: .ref (ad G i) :: st) ce sl n sh I L R :=
  V_aastK hd hi hs ht hty hjs.1.1 hjs.1.2 hjs.2.1 hjs.2.2 (Or.inl rfl) hk h1 kk
end VNR
/-- a new car's cells -/
def CarP (n : Nat) (sh : vS) (I : vI) (L : vL) (R : vR) (j : Nat) (num s : Int32) : PT := fun r n' sh' I' L' R' => r = none ∧ n' = n + 3 ∧ (∀ i, i < n → sh' i = sh i) ∧ sh' n = (13, 8) ∧ sh' (n + 1) = (13, 8) ∧ sh' (n + 2) = (13, 8) ∧ (∀ i, i < n → i ≠ j → I' i = I i) ∧ I' j 0 = num ∧ I' j 1 = s ∧ (∀ b, b ≠ 0 → b ≠ 1 → I' j b = I j b) ∧ (∀ c, I' (n + 1) c = 0) ∧ (∀ c, I' (n + 2) c = 0) ∧ (∀ i, i < n → L' i = L i) ∧ (∀ i, i < n → i ≠ j → R' i = R i) ∧ R' j 2 = some n ∧ R' j 3 = some (n + 1) ∧ R' j 5 = some (n + 2)
