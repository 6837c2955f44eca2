/-! ===== the world cut into its blocks ===== -/
theorem eW (cs : Nat → ClassId) (b : Nat) : wE cs b = classE cs b ++ ((.inr (7, fX7 b 87) : va_E) :: bX7 cs b 87) := rfl
theorem eC (cs : Nat → ClassId) (b : Nat) : classE cs b = (.inr (6, fX6 b 0) : va_E) :: bX6 cs b 0 := List.nil_append _
theorem eB (cs : Nat → ClassId) (b : Nat) : bX6 cs b 0 = b6X cs b 0 ++ [dLow cs, dHigh cs, (.inl (cs 0, 4, .inl (fun _ => 0)) : va_E)] := rfl
set_option maxHeartbeats 400000 in
theorem cv_wa {D : va_G} {cs : Nat → ClassId} {b : Nat} {H : Heap} (hP : va_P D fs_cl (zi b (wE cs b)) H) : va_P D fs_cl (zi b (classE cs b)) H ∧ va_P D fs_cl (zi (b + 87) ((.inr (7, fX7 b 87) : va_E) :: bX7 cs b 87)) H := by
  rw [eW] at hP
  have h := gP_l hP
  rw [classE_len] at h
  exact h
set_option maxHeartbeats 400000 in
theorem cv_wb {D : va_G} {cs : Nat → ClassId} {b : Nat} {H : Heap} (hP : va_P D fs_cl (zi b (classE cs b)) H) : va_at D fs_cl (b, .inr (6, fX6 b 0)) H ∧ va_P D fs_cl (zi (b + 1) (bX6 cs b 0)) H := by
  rw [eC] at hP
  exact gP_c hP
set_option maxHeartbeats 400000 in
theorem cv_wc {D : va_G} {cs : Nat → ClassId} {b : Nat} {H : Heap} (hP : va_P D fs_cl (zi (b + 1) (bX6 cs b 0)) H) : va_P D fs_cl (zi (b + 1) (b6X cs b 0)) H ∧ va_P D fs_cl (zi (b + 84) [dLow cs, dHigh cs, (.inl (cs 0, 4, .inl (fun _ => 0)) : va_E)]) H := by
  rw [eB] at hP
  exact gP_r (n := 84) hP (by rw [b6X_len])
theorem cv_w1 {D : va_G} {cs : Nat → ClassId} {b : Nat} {H : Heap} (hP : va_P D fs_cl (zi b (wE cs b)) H) : va_at D fs_cl (b, .inr (6, fX6 b 0)) H ∧ va_P D fs_cl (zi (b + 1) (b6X cs b 0)) H ∧ va_P D fs_cl (zi (b + 84) [dLow cs, dHigh cs, (.inl (cs 0, 4, .inl (fun _ => 0)) : va_E)]) H ∧ va_P D fs_cl (zi (b + 87) ((.inr (7, fX7 b 87) : va_E) :: bX7 cs b 87)) H := by
  obtain ⟨h1, h7⟩ := cv_wa hP
  obtain ⟨h6, h2⟩ := cv_wb h1
  obtain ⟨h8, hd⟩ := cv_wc h2
  exact ⟨h6, h8, hd, h7⟩
