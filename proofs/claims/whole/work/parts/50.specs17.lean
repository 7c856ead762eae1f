theorem lvR_f2 {X : vI} {D d c r0 : Nat} {w : Nat → Int32} {s fo su : Int} {g : Sg} {F : Sg × Bool} (h : stR X (fun w' s' fo' su' g' => goR X D (d + 1) w' s' fo' su' g') d w s fo su r0 g = F) (hb : F.2 = false) : lvR X D d w s fo su (c + 1) r0 g = lvR X D d w s fo su c (r0 + 1) F.1 := by
  obtain ⟨F1, F2⟩ := F
  subst hb; exact lvR_f h
theorem lvR_t2 {X : vI} {D d c r0 : Nat} {w : Nat → Int32} {s fo su : Int} {g : Sg} {F : Sg × Bool} (h : stR X (fun w' s' fo' su' g' => goR X D (d + 1) w' s' fo' su' g') d w s fo su r0 g = F) (hb : F.2 = true) : lvR X D d w s fo su (c + 1) r0 g = (F.1, true) := by
  obtain ⟨F1, F2⟩ := F
  subst hb; exact lvR_t h
theorem ite_b {x : Int} {b : Bool} (h : x = if b = true then 1 else 0) : (x ≠ 0 → b = true) ∧ (x = 0 → b = false) := by
  cases b
  · exact ⟨fun z => absurd h z, fun _ => rfl⟩
  · exact ⟨fun _ => rfl, fun z => by rw [z] at h; simp at h⟩
