/-! ===== cells of the class and of the model, converted ===== -/
set_option maxRecDepth 100000 in
set_option maxHeartbeats 3000000 in
theorem cvb_1b {D : va_G} {cs : Nat → ClassId} {b : Nat} {sa : Int → Nat} {H : Heap} (hP : va_P D fs_cl (zi (b + 68) (.inr (1, fX1 b (0 + 68)) :: bX1 cs b (0 + 68))) H) : cvC D cs b sa H 79 68 ∧ cvC D cs b sa H 98 69 ∧ cvC D cs b sa H 99 70 ∧ cvC D cs b sa H 105 71 ∧ cvC D cs b sa H 106 72 ∧ cvC D cs b sa H 107 73 ∧ cvC D cs b sa H 108 74 ∧ cvC D cs b sa H 100 75 ∧ cvC D cs b sa H 109 76 ∧ cvC D cs b sa H 110 77 ∧ cvC D cs b sa H 111 78 ∧ cvC D cs b sa H 112 79 ∧ cvC D cs b sa H 101 80 ∧ cvC D cs b sa H 102 81 ∧ cvC D cs b sa H 103 82 ∧ cvC D cs b sa H 104 83 := by
  refine ⟨?_, ?_, ?_, ?_, ?_, ?_, ?_, ?_, ?_, ?_, ?_, ?_, ?_, ?_, ?_, ?_⟩
  · exact (gP_i (i := 0) (p := 68) hP rfl rfl)
  · exact (gP_i (i := 1) (p := 69) hP rfl rfl)
  · exact cv_r (g := fun i => some (adF b sa (105 + (i : Int)))) (gP_i (i := 2) (p := 70) hP rfl rfl) (fun j hj => by match j, hj with | 0, _ => rfl | 1, _ => rfl | 2, _ => rfl | 3, _ => rfl)
  · exact cv_i (g := σ0 105) (gP_i (i := 3) (p := 71) hP rfl rfl) (σ0_z (by decide) (by decide) (by decide) (by decide) (by decide))
  · exact cv_i (g := σ0 106) (gP_i (i := 4) (p := 72) hP rfl rfl) (σ0_z (by decide) (by decide) (by decide) (by decide) (by decide))
  · exact cv_i (g := σ0 107) (gP_i (i := 5) (p := 73) hP rfl rfl) (σ0_z (by decide) (by decide) (by decide) (by decide) (by decide))
  · exact cv_i (g := σ0 108) (gP_i (i := 6) (p := 74) hP rfl rfl) (σ0_z (by decide) (by decide) (by decide) (by decide) (by decide))
  · exact cv_r (g := fun i => some (adF b sa (109 + (i : Int)))) (gP_i (i := 7) (p := 75) hP rfl rfl) (fun j hj => by match j, hj with | 0, _ => rfl | 1, _ => rfl | 2, _ => rfl | 3, _ => rfl)
  · exact cv_i (g := σ0 109) (gP_i (i := 8) (p := 76) hP rfl rfl) (σ0_z (by decide) (by decide) (by decide) (by decide) (by decide))
  · exact cv_i (g := σ0 110) (gP_i (i := 9) (p := 77) hP rfl rfl) (σ0_z (by decide) (by decide) (by decide) (by decide) (by decide))
  · exact cv_i (g := σ0 111) (gP_i (i := 10) (p := 78) hP rfl rfl) (σ0_z (by decide) (by decide) (by decide) (by decide) (by decide))
  · exact cv_i (g := σ0 112) (gP_i (i := 11) (p := 79) hP rfl rfl) (σ0_z (by decide) (by decide) (by decide) (by decide) (by decide))
  · exact cv_i (g := σ0 101) (gP_i (i := 12) (p := 80) hP rfl rfl) (σ0_z (by decide) (by decide) (by decide) (by decide) (by decide))
  · exact cv_i (g := σ0 102) (gP_i (i := 13) (p := 81) hP rfl rfl) (σ0_z (by decide) (by decide) (by decide) (by decide) (by decide))
  · exact cv_i (g := σ0 103) (gP_i (i := 14) (p := 82) hP rfl rfl) (σ0_z (by decide) (by decide) (by decide) (by decide) (by decide))
  · exact cv_i (g := σ0 104) (gP_i (i := 15) (p := 83) hP rfl rfl) (σ0_z (by decide) (by decide) (by decide) (by decide) (by decide))
set_option maxRecDepth 100000 in
set_option maxHeartbeats 3000000 in
theorem cvb_7 {D : va_G} {cs : Nat → ClassId} {b : Nat} {sa : Int → Nat} {H : Heap} (hP : va_P D fs_cl (zi (b + 87) (.inr (7, fX7 b 87) :: bX7 cs b 87)) H) : cvC D cs b sa H 0 87 ∧ cvC D cs b sa H 1 88 ∧ cvC D cs b sa H 2 89 ∧ cvC D cs b sa H 3 90 ∧ cvC D cs b sa H 4 91 ∧ cvC D cs b sa H 5 92 ∧ cvC D cs b sa H 6 93 ∧ cvC D cs b sa H 7 94 ∧ cvC D cs b sa H 8 95 ∧ cvC D cs b sa H 9 96 ∧ cvC D cs b sa H 10 97 ∧ cvC D cs b sa H 11 98 ∧ cvC D cs b sa H 12 99 ∧ cvC D cs b sa H 13 100 ∧ cvC D cs b sa H 14 101 ∧ cvC D cs b sa H 15 102 ∧ cvC D cs b sa H 16 103 ∧ cvC D cs b sa H 17 104 ∧ cvC D cs b sa H 18 105 ∧ cvC D cs b sa H 19 106 ∧ cvC D cs b sa H 20 107 ∧ cvC D cs b sa H 21 108 ∧ cvC D cs b sa H 22 109 ∧ cvC D cs b sa H 23 110 ∧ cvC D cs b sa H 24 111 ∧ cvC D cs b sa H 25 112 := by
  refine ⟨?_, ?_, ?_, ?_, ?_, ?_, ?_, ?_, ?_, ?_, ?_, ?_, ?_, ?_, ?_, ?_, ?_, ?_, ?_, ?_, ?_, ?_, ?_, ?_, ?_, ?_⟩
  · exact cv_o7 (gP_i (i := 0) (p := 87) hP rfl rfl)
  · exact cv_i (g := σ0 1) (gP_i (i := 1) (p := 88) hP rfl rfl) (σ0_z (by decide) (by decide) (by decide) (by decide) (by decide))
  · exact cv_i (g := σ0 2) (gP_i (i := 2) (p := 89) hP rfl rfl) (σ0_z (by decide) (by decide) (by decide) (by decide) (by decide))
  · exact cv_i (g := σ0 3) (gP_i (i := 3) (p := 90) hP rfl rfl) (σ0_z (by decide) (by decide) (by decide) (by decide) (by decide))
  · exact cv_i (g := σ0 4) (gP_i (i := 4) (p := 91) hP rfl rfl) (σ0_z (by decide) (by decide) (by decide) (by decide) (by decide))
  · exact cv_i (g := σ0 5) (gP_i (i := 5) (p := 92) hP rfl rfl) (σ0_z (by decide) (by decide) (by decide) (by decide) (by decide))
  · exact cv_i (g := σ0 6) (gP_i (i := 6) (p := 93) hP rfl rfl) (σ0_z (by decide) (by decide) (by decide) (by decide) (by decide))
  · exact cv_i (g := σ0 7) (gP_i (i := 7) (p := 94) hP rfl rfl) (σ0_z (by decide) (by decide) (by decide) (by decide) (by decide))
  · exact cv_i (g := σ0 8) (gP_i (i := 8) (p := 95) hP rfl rfl) (σ0_z (by decide) (by decide) (by decide) (by decide) (by decide))
  · exact cv_i (g := σ0 9) (gP_i (i := 9) (p := 96) hP rfl rfl) (σ0_z (by decide) (by decide) (by decide) (by decide) (by decide))
  · exact cv_i (g := σ0 10) (gP_i (i := 10) (p := 97) hP rfl rfl) (σ0_z (by decide) (by decide) (by decide) (by decide) (by decide))
  · exact cv_i (g := σ0 11) (gP_i (i := 11) (p := 98) hP rfl rfl) (σ0_z (by decide) (by decide) (by decide) (by decide) (by decide))
  · exact cv_i (g := σ0 12) (gP_i (i := 12) (p := 99) hP rfl rfl) (σ0_z (by decide) (by decide) (by decide) (by decide) (by decide))
  · exact cv_i (g := σ0 13) (gP_i (i := 13) (p := 100) hP rfl rfl) (σ0_z (by decide) (by decide) (by decide) (by decide) (by decide))
  · exact cv_i (g := σ0 14) (gP_i (i := 14) (p := 101) hP rfl rfl) (σ0_z (by decide) (by decide) (by decide) (by decide) (by decide))
  · exact cv_i (g := σ0 15) (gP_i (i := 15) (p := 102) hP rfl rfl) (σ0_z (by decide) (by decide) (by decide) (by decide) (by decide))
  · exact cv_i (g := σ0 16) (gP_i (i := 16) (p := 103) hP rfl rfl) (σ0_z (by decide) (by decide) (by decide) (by decide) (by decide))
  · exact cv_i (g := σ0 17) (gP_i (i := 17) (p := 104) hP rfl rfl) (σ0_z (by decide) (by decide) (by decide) (by decide) (by decide))
  · exact cv_i (g := σ0 18) (gP_i (i := 18) (p := 105) hP rfl rfl) (σ0_z (by decide) (by decide) (by decide) (by decide) (by decide))
  · exact cv_i (g := σ0 19) (gP_i (i := 19) (p := 106) hP rfl rfl) (σ0_z (by decide) (by decide) (by decide) (by decide) (by decide))
  · exact cv_i (g := σ0 20) (gP_i (i := 20) (p := 107) hP rfl rfl) (σ0_z (by decide) (by decide) (by decide) (by decide) (by decide))
  · exact cv_i (g := σ0 21) (gP_i (i := 21) (p := 108) hP rfl rfl) (σ0_z (by decide) (by decide) (by decide) (by decide) (by decide))
  · exact cv_i (g := σ0 22) (gP_i (i := 22) (p := 109) hP rfl rfl) (σ0_z (by decide) (by decide) (by decide) (by decide) (by decide))
  · exact cv_i (g := σ0 23) (gP_i (i := 23) (p := 110) hP rfl rfl) (σ0_z (by decide) (by decide) (by decide) (by decide) (by decide))
  · exact cv_i (g := σ0 24) (gP_i (i := 24) (p := 111) hP rfl rfl) (σ0_z (by decide) (by decide) (by decide) (by decide) (by decide))
  · exact cv_i (g := σ0 25) (gP_i (i := 25) (p := 112) hP rfl rfl) (σ0_z (by decide) (by decide) (by decide) (by decide) (by decide))
theorem cvb_6 {D : va_G} {cs : Nat → ClassId} {b : Nat} {sa : Int → Nat} {H : Heap} (hP : va_at D fs_cl (b, .inr (6, fX6 b 0)) H) : cvC D cs b sa H 26 0 := hP
