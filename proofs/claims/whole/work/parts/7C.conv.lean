/-! ===== the world cut into its blocks ===== -/
theorem lb3 (cs : Nat → ClassId) (b j : Nat) : (bX3 cs b j).length = 14 := rfl
theorem lb2 (cs : Nat → ClassId) (b j : Nat) : (bX2 cs b j).length = 5 := rfl
theorem lb4 (cs : Nat → ClassId) (b j : Nat) : (bX4 cs b j).length = 13 := rfl
theorem lb5 (cs : Nat → ClassId) (b j : Nat) : (bX5 cs b j).length = 11 := rfl
theorem lb0 (cs : Nat → ClassId) (b j : Nat) : (bX0 cs b j).length = 2 := rfl
theorem lb1 (cs : Nat → ClassId) (b j : Nat) : (bX1 cs b j).length = 15 := rfl
theorem lb7 (cs : Nat → ClassId) (b j : Nat) : (bX7 cs b j).length = 25 := rfl
theorem el0 (cs : Nat → ClassId) (b : Nat) : 1 + (([] ++ (.inr (3, fX3 b (0 + 1)) :: bX3 cs b (0 + 1)) ++ (.inr (2, fX2 b (0 + 16) (0 + 1)) :: bX2 cs b (0 + 16)) ++ (.inr (4, fX4 b (0 + 22) (0 + 1) (0 + 16)) :: bX4 cs b (0 + 22)) ++ (.inr (5, fX5 b (0 + 36) (0 + 1)) :: bX5 cs b (0 + 36)) ++ (.inr (0, fX0 b (0 + 48) (0 + 16)) :: bX0 cs b (0 + 48)) ++ [.inl (cs 3, 2, .inr (.inr (.inr (.inr (va_up (va_up (fun _ => none) 0 (some (b + (0 + 52)))) 1 (some (b + (0 + 68))))))))] ++ (.inr (1, fX1 b (0 + 52)) :: bX1 cs b (0 + 52))) : List va_E).length = 68 := by
  simp [lb3, lb2, lb4, lb5, lb0, lb1]
theorem el1 (cs : Nat → ClassId) (b : Nat) : 1 + (([] ++ (.inr (3, fX3 b (0 + 1)) :: bX3 cs b (0 + 1)) ++ (.inr (2, fX2 b (0 + 16) (0 + 1)) :: bX2 cs b (0 + 16)) ++ (.inr (4, fX4 b (0 + 22) (0 + 1) (0 + 16)) :: bX4 cs b (0 + 22)) ++ (.inr (5, fX5 b (0 + 36) (0 + 1)) :: bX5 cs b (0 + 36)) ++ (.inr (0, fX0 b (0 + 48) (0 + 16)) :: bX0 cs b (0 + 48)) ++ [.inl (cs 3, 2, .inr (.inr (.inr (.inr (va_up (va_up (fun _ => none) 0 (some (b + (0 + 52)))) 1 (some (b + (0 + 68))))))))]) : List va_E).length = 52 := by
  simp [lb3, lb2, lb4, lb5, lb0, lb1]
theorem el2 (cs : Nat → ClassId) (b : Nat) : 1 + (([] ++ (.inr (3, fX3 b (0 + 1)) :: bX3 cs b (0 + 1)) ++ (.inr (2, fX2 b (0 + 16) (0 + 1)) :: bX2 cs b (0 + 16)) ++ (.inr (4, fX4 b (0 + 22) (0 + 1) (0 + 16)) :: bX4 cs b (0 + 22)) ++ (.inr (5, fX5 b (0 + 36) (0 + 1)) :: bX5 cs b (0 + 36)) ++ (.inr (0, fX0 b (0 + 48) (0 + 16)) :: bX0 cs b (0 + 48))) : List va_E).length = 51 := by
  simp [lb3, lb2, lb4, lb5, lb0, lb1]
theorem el3 (cs : Nat → ClassId) (b : Nat) : 1 + (([] ++ (.inr (3, fX3 b (0 + 1)) :: bX3 cs b (0 + 1)) ++ (.inr (2, fX2 b (0 + 16) (0 + 1)) :: bX2 cs b (0 + 16)) ++ (.inr (4, fX4 b (0 + 22) (0 + 1) (0 + 16)) :: bX4 cs b (0 + 22)) ++ (.inr (5, fX5 b (0 + 36) (0 + 1)) :: bX5 cs b (0 + 36))) : List va_E).length = 48 := by
  simp [lb3, lb2, lb4, lb5, lb0, lb1]
theorem el4 (cs : Nat → ClassId) (b : Nat) : 1 + (([] ++ (.inr (3, fX3 b (0 + 1)) :: bX3 cs b (0 + 1)) ++ (.inr (2, fX2 b (0 + 16) (0 + 1)) :: bX2 cs b (0 + 16)) ++ (.inr (4, fX4 b (0 + 22) (0 + 1) (0 + 16)) :: bX4 cs b (0 + 22))) : List va_E).length = 36 := by
  simp [lb3, lb2, lb4, lb5, lb0, lb1]
theorem el5 (cs : Nat → ClassId) (b : Nat) : 1 + (([] ++ (.inr (3, fX3 b (0 + 1)) :: bX3 cs b (0 + 1)) ++ (.inr (2, fX2 b (0 + 16) (0 + 1)) :: bX2 cs b (0 + 16))) : List va_E).length = 22 := by
  simp [lb3, lb2, lb4, lb5, lb0, lb1]
theorem el6 (cs : Nat → ClassId) (b : Nat) : 1 + (([] ++ (.inr (3, fX3 b (0 + 1)) :: bX3 cs b (0 + 1))) : List va_E).length = 16 := by
  simp [lb3, lb2, lb4, lb5, lb0, lb1]
theorem el7 (cs : Nat → ClassId) (b : Nat) : 1 + (([]) : List va_E).length = 1 := by
  simp [lb3, lb2, lb4, lb5, lb0, lb1]
theorem e6 (cs : Nat → ClassId) (b : Nat) : b6X cs b 0 = (([] ++ (.inr (3, fX3 b (0 + 1)) :: bX3 cs b (0 + 1)) ++ (.inr (2, fX2 b (0 + 16) (0 + 1)) :: bX2 cs b (0 + 16)) ++ (.inr (4, fX4 b (0 + 22) (0 + 1) (0 + 16)) :: bX4 cs b (0 + 22)) ++ (.inr (5, fX5 b (0 + 36) (0 + 1)) :: bX5 cs b (0 + 36)) ++ (.inr (0, fX0 b (0 + 48) (0 + 16)) :: bX0 cs b (0 + 48)) ++ [.inl (cs 3, 2, .inr (.inr (.inr (.inr (va_up (va_up (fun _ => none) 0 (some (b + (0 + 52)))) 1 (some (b + (0 + 68))))))))] ++ (.inr (1, fX1 b (0 + 52)) :: bX1 cs b (0 + 52))) : List va_E) ++ (.inr (1, fX1 b (0 + 68)) :: bX1 cs b (0 + 68)) := rfl
set_option maxHeartbeats 300000 in
theorem cw0 {D : va_G} {cs : Nat → ClassId} {b : Nat} {H : Heap} (h : va_P D fs_cl (zi (b + 1) (b6X cs b 0)) H) : va_P D fs_cl (zi (b + 1) (([] ++ (.inr (3, fX3 b (0 + 1)) :: bX3 cs b (0 + 1)) ++ (.inr (2, fX2 b (0 + 16) (0 + 1)) :: bX2 cs b (0 + 16)) ++ (.inr (4, fX4 b (0 + 22) (0 + 1) (0 + 16)) :: bX4 cs b (0 + 22)) ++ (.inr (5, fX5 b (0 + 36) (0 + 1)) :: bX5 cs b (0 + 36)) ++ (.inr (0, fX0 b (0 + 48) (0 + 16)) :: bX0 cs b (0 + 48)) ++ [.inl (cs 3, 2, .inr (.inr (.inr (.inr (va_up (va_up (fun _ => none) 0 (some (b + (0 + 52)))) 1 (some (b + (0 + 68))))))))] ++ (.inr (1, fX1 b (0 + 52)) :: bX1 cs b (0 + 52))) : List va_E)) H ∧ va_P D fs_cl (zi (b + 68) ((.inr (1, fX1 b (0 + 68)) :: bX1 cs b (0 + 68)) : List va_E)) H := by
  rw [e6] at h
  exact gP_r h (el0 cs b)
set_option maxHeartbeats 300000 in
theorem cw1 {D : va_G} {cs : Nat → ClassId} {b : Nat} {H : Heap} (h : va_P D fs_cl (zi (b + 1) (([] ++ (.inr (3, fX3 b (0 + 1)) :: bX3 cs b (0 + 1)) ++ (.inr (2, fX2 b (0 + 16) (0 + 1)) :: bX2 cs b (0 + 16)) ++ (.inr (4, fX4 b (0 + 22) (0 + 1) (0 + 16)) :: bX4 cs b (0 + 22)) ++ (.inr (5, fX5 b (0 + 36) (0 + 1)) :: bX5 cs b (0 + 36)) ++ (.inr (0, fX0 b (0 + 48) (0 + 16)) :: bX0 cs b (0 + 48)) ++ [.inl (cs 3, 2, .inr (.inr (.inr (.inr (va_up (va_up (fun _ => none) 0 (some (b + (0 + 52)))) 1 (some (b + (0 + 68))))))))] ++ (.inr (1, fX1 b (0 + 52)) :: bX1 cs b (0 + 52))) : List va_E)) H) : va_P D fs_cl (zi (b + 1) (([] ++ (.inr (3, fX3 b (0 + 1)) :: bX3 cs b (0 + 1)) ++ (.inr (2, fX2 b (0 + 16) (0 + 1)) :: bX2 cs b (0 + 16)) ++ (.inr (4, fX4 b (0 + 22) (0 + 1) (0 + 16)) :: bX4 cs b (0 + 22)) ++ (.inr (5, fX5 b (0 + 36) (0 + 1)) :: bX5 cs b (0 + 36)) ++ (.inr (0, fX0 b (0 + 48) (0 + 16)) :: bX0 cs b (0 + 48)) ++ [.inl (cs 3, 2, .inr (.inr (.inr (.inr (va_up (va_up (fun _ => none) 0 (some (b + (0 + 52)))) 1 (some (b + (0 + 68))))))))]) : List va_E)) H ∧ va_P D fs_cl (zi (b + 52) ((.inr (1, fX1 b (0 + 52)) :: bX1 cs b (0 + 52)) : List va_E)) H := by
  exact gP_r h (el1 cs b)
set_option maxHeartbeats 300000 in
theorem cw2 {D : va_G} {cs : Nat → ClassId} {b : Nat} {H : Heap} (h : va_P D fs_cl (zi (b + 1) (([] ++ (.inr (3, fX3 b (0 + 1)) :: bX3 cs b (0 + 1)) ++ (.inr (2, fX2 b (0 + 16) (0 + 1)) :: bX2 cs b (0 + 16)) ++ (.inr (4, fX4 b (0 + 22) (0 + 1) (0 + 16)) :: bX4 cs b (0 + 22)) ++ (.inr (5, fX5 b (0 + 36) (0 + 1)) :: bX5 cs b (0 + 36)) ++ (.inr (0, fX0 b (0 + 48) (0 + 16)) :: bX0 cs b (0 + 48)) ++ [.inl (cs 3, 2, .inr (.inr (.inr (.inr (va_up (va_up (fun _ => none) 0 (some (b + (0 + 52)))) 1 (some (b + (0 + 68))))))))]) : List va_E)) H) : va_P D fs_cl (zi (b + 1) (([] ++ (.inr (3, fX3 b (0 + 1)) :: bX3 cs b (0 + 1)) ++ (.inr (2, fX2 b (0 + 16) (0 + 1)) :: bX2 cs b (0 + 16)) ++ (.inr (4, fX4 b (0 + 22) (0 + 1) (0 + 16)) :: bX4 cs b (0 + 22)) ++ (.inr (5, fX5 b (0 + 36) (0 + 1)) :: bX5 cs b (0 + 36)) ++ (.inr (0, fX0 b (0 + 48) (0 + 16)) :: bX0 cs b (0 + 48))) : List va_E)) H ∧ va_P D fs_cl (zi (b + 51) ([.inl (cs 3, 2, .inr (.inr (.inr (.inr (va_up (va_up (fun _ => none) 0 (some (b + (0 + 52)))) 1 (some (b + (0 + 68))))))))] : List va_E)) H := by
  exact gP_r h (el2 cs b)
set_option maxHeartbeats 300000 in
theorem cw3 {D : va_G} {cs : Nat → ClassId} {b : Nat} {H : Heap} (h : va_P D fs_cl (zi (b + 1) (([] ++ (.inr (3, fX3 b (0 + 1)) :: bX3 cs b (0 + 1)) ++ (.inr (2, fX2 b (0 + 16) (0 + 1)) :: bX2 cs b (0 + 16)) ++ (.inr (4, fX4 b (0 + 22) (0 + 1) (0 + 16)) :: bX4 cs b (0 + 22)) ++ (.inr (5, fX5 b (0 + 36) (0 + 1)) :: bX5 cs b (0 + 36)) ++ (.inr (0, fX0 b (0 + 48) (0 + 16)) :: bX0 cs b (0 + 48))) : List va_E)) H) : va_P D fs_cl (zi (b + 1) (([] ++ (.inr (3, fX3 b (0 + 1)) :: bX3 cs b (0 + 1)) ++ (.inr (2, fX2 b (0 + 16) (0 + 1)) :: bX2 cs b (0 + 16)) ++ (.inr (4, fX4 b (0 + 22) (0 + 1) (0 + 16)) :: bX4 cs b (0 + 22)) ++ (.inr (5, fX5 b (0 + 36) (0 + 1)) :: bX5 cs b (0 + 36))) : List va_E)) H ∧ va_P D fs_cl (zi (b + 48) ((.inr (0, fX0 b (0 + 48) (0 + 16)) :: bX0 cs b (0 + 48)) : List va_E)) H := by
  exact gP_r h (el3 cs b)
set_option maxHeartbeats 300000 in
theorem cw4 {D : va_G} {cs : Nat → ClassId} {b : Nat} {H : Heap} (h : va_P D fs_cl (zi (b + 1) (([] ++ (.inr (3, fX3 b (0 + 1)) :: bX3 cs b (0 + 1)) ++ (.inr (2, fX2 b (0 + 16) (0 + 1)) :: bX2 cs b (0 + 16)) ++ (.inr (4, fX4 b (0 + 22) (0 + 1) (0 + 16)) :: bX4 cs b (0 + 22)) ++ (.inr (5, fX5 b (0 + 36) (0 + 1)) :: bX5 cs b (0 + 36))) : List va_E)) H) : va_P D fs_cl (zi (b + 1) (([] ++ (.inr (3, fX3 b (0 + 1)) :: bX3 cs b (0 + 1)) ++ (.inr (2, fX2 b (0 + 16) (0 + 1)) :: bX2 cs b (0 + 16)) ++ (.inr (4, fX4 b (0 + 22) (0 + 1) (0 + 16)) :: bX4 cs b (0 + 22))) : List va_E)) H ∧ va_P D fs_cl (zi (b + 36) ((.inr (5, fX5 b (0 + 36) (0 + 1)) :: bX5 cs b (0 + 36)) : List va_E)) H := by
  exact gP_r h (el4 cs b)
set_option maxHeartbeats 300000 in
theorem cw5 {D : va_G} {cs : Nat → ClassId} {b : Nat} {H : Heap} (h : va_P D fs_cl (zi (b + 1) (([] ++ (.inr (3, fX3 b (0 + 1)) :: bX3 cs b (0 + 1)) ++ (.inr (2, fX2 b (0 + 16) (0 + 1)) :: bX2 cs b (0 + 16)) ++ (.inr (4, fX4 b (0 + 22) (0 + 1) (0 + 16)) :: bX4 cs b (0 + 22))) : List va_E)) H) : va_P D fs_cl (zi (b + 1) (([] ++ (.inr (3, fX3 b (0 + 1)) :: bX3 cs b (0 + 1)) ++ (.inr (2, fX2 b (0 + 16) (0 + 1)) :: bX2 cs b (0 + 16))) : List va_E)) H ∧ va_P D fs_cl (zi (b + 22) ((.inr (4, fX4 b (0 + 22) (0 + 1) (0 + 16)) :: bX4 cs b (0 + 22)) : List va_E)) H := by
  exact gP_r h (el5 cs b)
set_option maxHeartbeats 300000 in
theorem cw6 {D : va_G} {cs : Nat → ClassId} {b : Nat} {H : Heap} (h : va_P D fs_cl (zi (b + 1) (([] ++ (.inr (3, fX3 b (0 + 1)) :: bX3 cs b (0 + 1)) ++ (.inr (2, fX2 b (0 + 16) (0 + 1)) :: bX2 cs b (0 + 16))) : List va_E)) H) : va_P D fs_cl (zi (b + 1) (([] ++ (.inr (3, fX3 b (0 + 1)) :: bX3 cs b (0 + 1))) : List va_E)) H ∧ va_P D fs_cl (zi (b + 16) ((.inr (2, fX2 b (0 + 16) (0 + 1)) :: bX2 cs b (0 + 16)) : List va_E)) H := by
  exact gP_r h (el6 cs b)
set_option maxHeartbeats 300000 in
theorem cw7 {D : va_G} {cs : Nat → ClassId} {b : Nat} {H : Heap} (h : va_P D fs_cl (zi (b + 1) (([] ++ (.inr (3, fX3 b (0 + 1)) :: bX3 cs b (0 + 1))) : List va_E)) H) : va_P D fs_cl (zi (b + 1) (([]) : List va_E)) H ∧ va_P D fs_cl (zi (b + 1) ((.inr (3, fX3 b (0 + 1)) :: bX3 cs b (0 + 1)) : List va_E)) H := by
  exact gP_r h (el7 cs b)
theorem b6X_len (cs : Nat → ClassId) (b : Nat) : (b6X cs b 0).length = 83 := by
  unfold b6X
  simp [lb3, lb2, lb4, lb5, lb0, lb1]
