/-! ===== cells of the class and of the model, converted ===== -/
set_option maxRecDepth 100000 in
set_option maxHeartbeats 3000000 in
theorem cvb_3 {D : va_G} {cs : Nat → ClassId} {b : Nat} {sa : Int → Nat} {H : Heap} (hP : va_P D fs_cl (zi (b + 1) (.inr (3, fX3 b (0 + 1)) :: bX3 cs b (0 + 1))) H) : cvC D cs b sa H 27 1 ∧ cvC D cs b sa H 28 2 ∧ cvC D cs b sa H 34 3 ∧ cvC D cs b sa H 35 4 ∧ cvC D cs b sa H 36 5 ∧ cvC D cs b sa H 37 6 ∧ cvC D cs b sa H 29 7 ∧ cvC D cs b sa H 38 8 ∧ cvC D cs b sa H 39 9 ∧ cvC D cs b sa H 40 10 ∧ cvC D cs b sa H 41 11 ∧ cvC D cs b sa H 30 12 ∧ cvC D cs b sa H 31 13 ∧ cvC D cs b sa H 32 14 ∧ cvC D cs b sa H 33 15 := by
  refine ⟨?_, ?_, ?_, ?_, ?_, ?_, ?_, ?_, ?_, ?_, ?_, ?_, ?_, ?_, ?_⟩
  · exact (gP_i (i := 0) (p := 1) hP rfl rfl)
  · exact cv_r (g := fun i => some (adF b sa (34 + (i : Int)))) (gP_i (i := 1) (p := 2) hP rfl rfl) (fun j hj => by match j, hj with | 0, _ => rfl | 1, _ => rfl | 2, _ => rfl | 3, _ => rfl)
  · exact cv_i (g := σ0 34) (gP_i (i := 2) (p := 3) hP rfl rfl) (σ0_z (by decide) (by decide) (by decide) (by decide) (by decide))
  · exact cv_i (g := σ0 35) (gP_i (i := 3) (p := 4) hP rfl rfl) (σ0_z (by decide) (by decide) (by decide) (by decide) (by decide))
  · exact cv_i (g := σ0 36) (gP_i (i := 4) (p := 5) hP rfl rfl) (σ0_z (by decide) (by decide) (by decide) (by decide) (by decide))
  · exact cv_i (g := σ0 37) (gP_i (i := 5) (p := 6) hP rfl rfl) (σ0_z (by decide) (by decide) (by decide) (by decide) (by decide))
  · exact cv_r (g := fun i => some (adF b sa (38 + (i : Int)))) (gP_i (i := 6) (p := 7) hP rfl rfl) (fun j hj => by match j, hj with | 0, _ => rfl | 1, _ => rfl | 2, _ => rfl | 3, _ => rfl)
  · exact cv_i (g := σ0 38) (gP_i (i := 7) (p := 8) hP rfl rfl) (σ0_z (by decide) (by decide) (by decide) (by decide) (by decide))
  · exact cv_i (g := σ0 39) (gP_i (i := 8) (p := 9) hP rfl rfl) (σ0_z (by decide) (by decide) (by decide) (by decide) (by decide))
  · exact cv_i (g := σ0 40) (gP_i (i := 9) (p := 10) hP rfl rfl) (σ0_z (by decide) (by decide) (by decide) (by decide) (by decide))
  · exact cv_i (g := σ0 41) (gP_i (i := 10) (p := 11) hP rfl rfl) (σ0_z (by decide) (by decide) (by decide) (by decide) (by decide))
  · exact cv_i (g := σ0 30) (gP_i (i := 11) (p := 12) hP rfl rfl) (σ0_z (by decide) (by decide) (by decide) (by decide) (by decide))
  · exact cv_i (g := σ0 31) (gP_i (i := 12) (p := 13) hP rfl rfl) (σ0_z (by decide) (by decide) (by decide) (by decide) (by decide))
  · exact cv_i (g := σ0 32) (gP_i (i := 13) (p := 14) hP rfl rfl) (σ0_z (by decide) (by decide) (by decide) (by decide) (by decide))
  · exact cv_i (g := σ0 33) (gP_i (i := 14) (p := 15) hP rfl rfl) (σ0_z (by decide) (by decide) (by decide) (by decide) (by decide))
set_option maxRecDepth 100000 in
set_option maxHeartbeats 3000000 in
theorem cvb_2 {D : va_G} {cs : Nat → ClassId} {b : Nat} {sa : Int → Nat} {H : Heap} (hP : va_P D fs_cl (zi (b + 16) (.inr (2, fX2 b (0 + 16) (0 + 1)) :: bX2 cs b (0 + 16))) H) : cvC D cs b sa H 42 16 ∧ cvC D cs b sa H 43 17 ∧ cvC D cs b sa H 44 18 ∧ cvC D cs b sa H 45 19 ∧ cvC D cs b sa H 46 20 ∧ cvC D cs b sa H 47 21 := by
  refine ⟨?_, ?_, ?_, ?_, ?_, ?_⟩
  · exact (gP_i (i := 0) (p := 16) hP rfl rfl)
  · exact cv_r (g := fun i => some (adF b sa (44 + (i : Int)))) (gP_i (i := 1) (p := 17) hP rfl rfl) (fun j hj => by match j, hj with | 0, _ => rfl | 1, _ => rfl | 2, _ => rfl | 3, _ => rfl)
  · exact cv_i (g := σ0 44) (gP_i (i := 2) (p := 18) hP rfl rfl) (σ0_z (by decide) (by decide) (by decide) (by decide) (by decide))
  · exact cv_i (g := σ0 45) (gP_i (i := 3) (p := 19) hP rfl rfl) (σ0_z (by decide) (by decide) (by decide) (by decide) (by decide))
  · exact cv_i (g := σ0 46) (gP_i (i := 4) (p := 20) hP rfl rfl) (σ0_z (by decide) (by decide) (by decide) (by decide) (by decide))
  · exact cv_i (g := σ0 47) (gP_i (i := 5) (p := 21) hP rfl rfl) (σ0_z (by decide) (by decide) (by decide) (by decide) (by decide))
set_option maxRecDepth 100000 in
set_option maxHeartbeats 3000000 in
theorem cvb_0 {D : va_G} {cs : Nat → ClassId} {b : Nat} {sa : Int → Nat} {H : Heap} (hP : va_P D fs_cl (zi (b + 48) (.inr (0, fX0 b (0 + 48) (0 + 16)) :: bX0 cs b (0 + 48))) H) : cvC D cs b sa H 74 48 ∧ cvC D cs b sa H 75 49 ∧ cvC D cs b sa H 76 50 := by
  refine ⟨?_, ?_, ?_⟩
  · exact (gP_i (i := 0) (p := 48) hP rfl rfl)
  · exact cv_i (g := σ0 75) (gP_i (i := 1) (p := 49) hP rfl rfl) (σ0_z (by decide) (by decide) (by decide) (by decide) (by decide))
  · exact cv_i (g := σ0 76) (gP_i (i := 2) (p := 50) hP rfl rfl) (σ0_z (by decide) (by decide) (by decide) (by decide) (by decide))
set_option maxRecDepth 100000 in
set_option maxHeartbeats 3000000 in
theorem cvb_i {D : va_G} {cs : Nat → ClassId} {b : Nat} {sa : Int → Nat} {H : Heap} (hP : va_P D fs_cl (zi (b + 51) [.inl (cs 3, 2, .inr (.inr (.inr (.inr (va_up (va_up (fun _ => none) 0 (some (b + (0 + 52)))) 1 (some (b + (0 + 68))))))))]) H) : cvC D cs b sa H 77 51 := by
  exact cv_r (g := fun i => some (adF b sa (78 + (i : Int)))) (gP_i (i := 0) (p := 51) hP rfl rfl) (fun j hj => by match j, hj with | 0, _ => rfl | 1, _ => rfl)
