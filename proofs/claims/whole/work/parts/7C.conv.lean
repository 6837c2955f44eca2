/-! ===== all cells converted ===== -/
theorem lb3 (cs : Nat → ClassId) (b j : Nat) : (bX3 cs b j).length = 14 := rfl
theorem lb2 (cs : Nat → ClassId) (b j : Nat) : (bX2 cs b j).length = 5 := rfl
theorem lb4 (cs : Nat → ClassId) (b j : Nat) : (bX4 cs b j).length = 13 := rfl
theorem lb5 (cs : Nat → ClassId) (b j : Nat) : (bX5 cs b j).length = 11 := rfl
theorem lb0 (cs : Nat → ClassId) (b j : Nat) : (bX0 cs b j).length = 2 := rfl
theorem lb1 (cs : Nat → ClassId) (b j : Nat) : (bX1 cs b j).length = 15 := rfl
theorem lb7 (cs : Nat → ClassId) (b j : Nat) : (bX7 cs b j).length = 25 := rfl
def cvW (D : va_G) (cs : Nat → ClassId) (b : Nat) (H : Heap) : Prop := va_P D fs_cl (zi (b + 1) (.inr (3, fX3 b (0 + 1)) :: bX3 cs b (0 + 1))) H ∧ va_P D fs_cl (zi (b + 16) (.inr (2, fX2 b (0 + 16) (0 + 1)) :: bX2 cs b (0 + 16))) H ∧ va_P D fs_cl (zi (b + 22) (.inr (4, fX4 b (0 + 22) (0 + 1) (0 + 16)) :: bX4 cs b (0 + 22))) H ∧ va_P D fs_cl (zi (b + 36) (.inr (5, fX5 b (0 + 36) (0 + 1)) :: bX5 cs b (0 + 36))) H ∧ va_P D fs_cl (zi (b + 48) (.inr (0, fX0 b (0 + 48) (0 + 16)) :: bX0 cs b (0 + 48))) H ∧ va_P D fs_cl (zi (b + 51) [.inl (cs 3, 2, .inr (.inr (.inr (.inr (va_up (va_up (fun _ => none) 0 (some (b + (0 + 52)))) 1 (some (b + (0 + 68))))))))]) H ∧ va_P D fs_cl (zi (b + 52) (.inr (1, fX1 b (0 + 52)) :: bX1 cs b (0 + 52))) H ∧ va_P D fs_cl (zi (b + 68) (.inr (1, fX1 b (0 + 68)) :: bX1 cs b (0 + 68))) H
set_option maxRecDepth 100000 in
set_option maxHeartbeats 3000000 in
theorem cv_w2 {D : va_G} {cs : Nat → ClassId} {b : Nat} {H : Heap} (h8 : va_P D fs_cl (zi (b + 1) (b6X cs b 0)) H) : cvW D cs b H := by
  obtain ⟨h8, h1bx⟩ := gP_r (n := 68) (A := ([] ++ (.inr (3, fX3 b (0 + 1)) :: bX3 cs b (0 + 1)) ++ (.inr (2, fX2 b (0 + 16) (0 + 1)) :: bX2 cs b (0 + 16)) ++ (.inr (4, fX4 b (0 + 22) (0 + 1) (0 + 16)) :: bX4 cs b (0 + 22)) ++ (.inr (5, fX5 b (0 + 36) (0 + 1)) :: bX5 cs b (0 + 36)) ++ (.inr (0, fX0 b (0 + 48) (0 + 16)) :: bX0 cs b (0 + 48)) ++ [.inl (cs 3, 2, .inr (.inr (.inr (.inr (va_up (va_up (fun _ => none) 0 (some (b + (0 + 52)))) 1 (some (b + (0 + 68))))))))] ++ (.inr (1, fX1 b (0 + 52)) :: bX1 cs b (0 + 52)))) (B := (.inr (1, fX1 b (0 + 68)) :: bX1 cs b (0 + 68))) h8 (by simp [lb3, lb2, lb4, lb5, lb0, lb1])
  obtain ⟨h8, h1x⟩ := gP_r (n := 52) (A := ([] ++ (.inr (3, fX3 b (0 + 1)) :: bX3 cs b (0 + 1)) ++ (.inr (2, fX2 b (0 + 16) (0 + 1)) :: bX2 cs b (0 + 16)) ++ (.inr (4, fX4 b (0 + 22) (0 + 1) (0 + 16)) :: bX4 cs b (0 + 22)) ++ (.inr (5, fX5 b (0 + 36) (0 + 1)) :: bX5 cs b (0 + 36)) ++ (.inr (0, fX0 b (0 + 48) (0 + 16)) :: bX0 cs b (0 + 48)) ++ [.inl (cs 3, 2, .inr (.inr (.inr (.inr (va_up (va_up (fun _ => none) 0 (some (b + (0 + 52)))) 1 (some (b + (0 + 68))))))))])) (B := (.inr (1, fX1 b (0 + 52)) :: bX1 cs b (0 + 52))) h8 (by simp [lb3, lb2, lb4, lb5, lb0, lb1])
  obtain ⟨h8, hix⟩ := gP_r (n := 51) (A := ([] ++ (.inr (3, fX3 b (0 + 1)) :: bX3 cs b (0 + 1)) ++ (.inr (2, fX2 b (0 + 16) (0 + 1)) :: bX2 cs b (0 + 16)) ++ (.inr (4, fX4 b (0 + 22) (0 + 1) (0 + 16)) :: bX4 cs b (0 + 22)) ++ (.inr (5, fX5 b (0 + 36) (0 + 1)) :: bX5 cs b (0 + 36)) ++ (.inr (0, fX0 b (0 + 48) (0 + 16)) :: bX0 cs b (0 + 48)))) (B := [.inl (cs 3, 2, .inr (.inr (.inr (.inr (va_up (va_up (fun _ => none) 0 (some (b + (0 + 52)))) 1 (some (b + (0 + 68))))))))]) h8 (by simp [lb3, lb2, lb4, lb5, lb0, lb1])
  obtain ⟨h8, h0x⟩ := gP_r (n := 48) (A := ([] ++ (.inr (3, fX3 b (0 + 1)) :: bX3 cs b (0 + 1)) ++ (.inr (2, fX2 b (0 + 16) (0 + 1)) :: bX2 cs b (0 + 16)) ++ (.inr (4, fX4 b (0 + 22) (0 + 1) (0 + 16)) :: bX4 cs b (0 + 22)) ++ (.inr (5, fX5 b (0 + 36) (0 + 1)) :: bX5 cs b (0 + 36)))) (B := (.inr (0, fX0 b (0 + 48) (0 + 16)) :: bX0 cs b (0 + 48))) h8 (by simp [lb3, lb2, lb4, lb5, lb0, lb1])
  obtain ⟨h8, h5x⟩ := gP_r (n := 36) (A := ([] ++ (.inr (3, fX3 b (0 + 1)) :: bX3 cs b (0 + 1)) ++ (.inr (2, fX2 b (0 + 16) (0 + 1)) :: bX2 cs b (0 + 16)) ++ (.inr (4, fX4 b (0 + 22) (0 + 1) (0 + 16)) :: bX4 cs b (0 + 22)))) (B := (.inr (5, fX5 b (0 + 36) (0 + 1)) :: bX5 cs b (0 + 36))) h8 (by simp [lb3, lb2, lb4, lb5, lb0, lb1])
  obtain ⟨h8, h4x⟩ := gP_r (n := 22) (A := ([] ++ (.inr (3, fX3 b (0 + 1)) :: bX3 cs b (0 + 1)) ++ (.inr (2, fX2 b (0 + 16) (0 + 1)) :: bX2 cs b (0 + 16)))) (B := (.inr (4, fX4 b (0 + 22) (0 + 1) (0 + 16)) :: bX4 cs b (0 + 22))) h8 (by simp [lb3, lb2, lb4, lb5, lb0, lb1])
  obtain ⟨h8, h2x⟩ := gP_r (n := 16) (A := ([] ++ (.inr (3, fX3 b (0 + 1)) :: bX3 cs b (0 + 1)))) (B := (.inr (2, fX2 b (0 + 16) (0 + 1)) :: bX2 cs b (0 + 16))) h8 (by simp [lb3, lb2, lb4, lb5, lb0, lb1])
  obtain ⟨h8, h3x⟩ := gP_r (n := 1) (A := ([])) (B := (.inr (3, fX3 b (0 + 1)) :: bX3 cs b (0 + 1))) h8 (by simp [lb3, lb2, lb4, lb5, lb0, lb1])
  exact ⟨h3x, h2x, h4x, h5x, h0x, hix, h1x, h1bx⟩
theorem b6X_len (cs : Nat → ClassId) (b : Nat) : (b6X cs b 0).length = 83 := by
  unfold b6X
  simp [lb3, lb2, lb4, lb5, lb0, lb1]
set_option maxRecDepth 100000 in
set_option maxHeartbeats 3000000 in
theorem cv_w1 {D : va_G} {cs : Nat → ClassId} {b : Nat} {H : Heap} (hP : va_P D fs_cl (zi b (wE cs b)) H) : va_at D fs_cl (b, .inr (6, fX6 b 0)) H ∧ va_P D fs_cl (zi (b + 1) (b6X cs b 0)) H ∧ va_P D fs_cl (zi (b + 84) [dLow cs, dHigh cs, .inl (cs 0, 4, .inl fun _ => 0)]) H ∧ va_P D fs_cl (zi (b + 87) (.inr (7, fX7 b 87) :: bX7 cs b 87)) H := by
  obtain ⟨hC, h7⟩ := gP_l hP
  rw [classE_len] at h7
  have hC : va_P D fs_cl (zi b (.inr (6, fX6 b 0) :: bX6 cs b 0)) H := hC
  obtain ⟨h6, hB⟩ := gP_c hC
  obtain ⟨h8, hd⟩ := gP_r (n := 84) (A := b6X cs b 0) hB (by rw [b6X_len])
  exact ⟨h6, h8, hd, h7⟩
