/-! ===== cells of the class and of the model, converted ===== -/
set_option maxRecDepth 100000 in
set_option maxHeartbeats 3000000 in
theorem cvb_4 {D : va_G} {cs : Nat → ClassId} {b : Nat} {sa : Int → Nat} {H : Heap} (hP : va_P D fs_cl (zi (b + 22) (.inr (4, fX4 b (0 + 22) (0 + 1) (0 + 16)) :: bX4 cs b (0 + 22))) H) : cvC D cs b sa H 48 22 ∧ cvC D cs b sa H 49 23 ∧ cvC D cs b sa H 50 24 ∧ cvC D cs b sa H 51 25 ∧ cvC D cs b sa H 52 26 ∧ cvC D cs b sa H 54 27 ∧ cvC D cs b sa H 55 28 ∧ cvC D cs b sa H 56 29 ∧ cvC D cs b sa H 57 30 ∧ cvC D cs b sa H 53 31 ∧ cvC D cs b sa H 58 32 ∧ cvC D cs b sa H 59 33 ∧ cvC D cs b sa H 60 34 ∧ cvC D cs b sa H 61 35 := by
  refine ⟨?_, ?_, ?_, ?_, ?_, ?_, ?_, ?_, ?_, ?_, ?_, ?_, ?_, ?_⟩
  · exact (gP_i (i := 0) (p := 22) hP rfl rfl)
  · exact cv_i (g := σ0 49) (gP_i (i := 1) (p := 23) hP rfl rfl) (σ0_z (by decide) (by decide) (by decide) (by decide) (by decide))
  · exact cv_i (g := σ0 50) (gP_i (i := 2) (p := 24) hP rfl rfl) (σ0_z (by decide) (by decide) (by decide) (by decide) (by decide))
  · exact cv_i (g := σ0 51) (gP_i (i := 3) (p := 25) hP rfl rfl) (σ0_z (by decide) (by decide) (by decide) (by decide) (by decide))
  · exact cv_r (g := fun i => some (adF b sa (54 + (i : Int)))) (gP_i (i := 4) (p := 26) hP rfl rfl) (fun j hj => by match j, hj with | 0, _ => rfl | 1, _ => rfl | 2, _ => rfl | 3, _ => rfl)
  · exact cv_i (g := σ0 54) (gP_i (i := 5) (p := 27) hP rfl rfl) (σ0_z (by decide) (by decide) (by decide) (by decide) (by decide))
  · exact cv_i (g := σ0 55) (gP_i (i := 6) (p := 28) hP rfl rfl) (σ0_z (by decide) (by decide) (by decide) (by decide) (by decide))
  · exact cv_i (g := σ0 56) (gP_i (i := 7) (p := 29) hP rfl rfl) (σ0_z (by decide) (by decide) (by decide) (by decide) (by decide))
  · exact cv_i (g := σ0 57) (gP_i (i := 8) (p := 30) hP rfl rfl) (σ0_z (by decide) (by decide) (by decide) (by decide) (by decide))
  · exact cv_r (g := fun i => some (adF b sa (58 + (i : Int)))) (gP_i (i := 9) (p := 31) hP rfl rfl) (fun j hj => by match j, hj with | 0, _ => rfl | 1, _ => rfl | 2, _ => rfl | 3, _ => rfl)
  · exact cv_i (g := σ0 58) (gP_i (i := 10) (p := 32) hP rfl rfl) (σ0_z (by decide) (by decide) (by decide) (by decide) (by decide))
  · exact cv_i (g := σ0 59) (gP_i (i := 11) (p := 33) hP rfl rfl) (σ0_z (by decide) (by decide) (by decide) (by decide) (by decide))
  · exact cv_i (g := σ0 60) (gP_i (i := 12) (p := 34) hP rfl rfl) (σ0_z (by decide) (by decide) (by decide) (by decide) (by decide))
  · exact cv_i (g := σ0 61) (gP_i (i := 13) (p := 35) hP rfl rfl) (σ0_z (by decide) (by decide) (by decide) (by decide) (by decide))
set_option maxRecDepth 100000 in
set_option maxHeartbeats 3000000 in
theorem cvb_5 {D : va_G} {cs : Nat → ClassId} {b : Nat} {sa : Int → Nat} {H : Heap} (hP : va_P D fs_cl (zi (b + 36) (.inr (5, fX5 b (0 + 36) (0 + 1)) :: bX5 cs b (0 + 36))) H) : cvC D cs b sa H 62 36 ∧ cvC D cs b sa H 63 37 ∧ cvC D cs b sa H 64 38 ∧ cvC D cs b sa H 65 39 ∧ cvC D cs b sa H 66 40 ∧ cvC D cs b sa H 67 41 ∧ cvC D cs b sa H 68 42 ∧ cvC D cs b sa H 70 43 ∧ cvC D cs b sa H 71 44 ∧ cvC D cs b sa H 72 45 ∧ cvC D cs b sa H 73 46 ∧ cvC D cs b sa H 69 47 := by
  refine ⟨?_, ?_, ?_, ?_, ?_, ?_, ?_, ?_, ?_, ?_, ?_, ?_⟩
  · exact (gP_i (i := 0) (p := 36) hP rfl rfl)
  · exact cv_i (g := σ0 63) (gP_i (i := 1) (p := 37) hP rfl rfl) (σ0_z (by decide) (by decide) (by decide) (by decide) (by decide))
  · exact cv_i (g := σ0 64) (gP_i (i := 2) (p := 38) hP rfl rfl) (σ0_z (by decide) (by decide) (by decide) (by decide) (by decide))
  · exact cv_i (g := σ0 65) (gP_i (i := 3) (p := 39) hP rfl rfl) (σ0_z (by decide) (by decide) (by decide) (by decide) (by decide))
  · exact cv_i (g := σ0 66) (gP_i (i := 4) (p := 40) hP rfl rfl) (σ0_z (by decide) (by decide) (by decide) (by decide) (by decide))
  · exact cv_i (g := σ0 67) (gP_i (i := 5) (p := 41) hP rfl rfl) (σ0_z (by decide) (by decide) (by decide) (by decide) (by decide))
  · exact cv_r (g := fun i => some (adF b sa (70 + (i : Int)))) (gP_i (i := 6) (p := 42) hP rfl rfl) (fun j hj => by match j, hj with | 0, _ => rfl | 1, _ => rfl | 2, _ => rfl | 3, _ => rfl)
  · exact cv_i (g := σ0 70) (gP_i (i := 7) (p := 43) hP rfl rfl) (σ0_z (by decide) (by decide) (by decide) (by decide) (by decide))
  · exact cv_i (g := σ0 71) (gP_i (i := 8) (p := 44) hP rfl rfl) (σ0_z (by decide) (by decide) (by decide) (by decide) (by decide))
  · exact cv_i (g := σ0 72) (gP_i (i := 9) (p := 45) hP rfl rfl) (σ0_z (by decide) (by decide) (by decide) (by decide) (by decide))
  · exact cv_i (g := σ0 73) (gP_i (i := 10) (p := 46) hP rfl rfl) (σ0_z (by decide) (by decide) (by decide) (by decide) (by decide))
  · exact cv_i (g := σ0 69) (gP_i (i := 11) (p := 47) hP rfl rfl) (σ0_z (by decide) (by decide) (by decide) (by decide) (by decide))
set_option maxRecDepth 100000 in
set_option maxHeartbeats 3000000 in
theorem cvb_1 {D : va_G} {cs : Nat → ClassId} {b : Nat} {sa : Int → Nat} {H : Heap} (hP : va_P D fs_cl (zi (b + 52) (.inr (1, fX1 b (0 + 52)) :: bX1 cs b (0 + 52))) H) : cvC D cs b sa H 78 52 ∧ cvC D cs b sa H 83 53 ∧ cvC D cs b sa H 84 54 ∧ cvC D cs b sa H 90 55 ∧ cvC D cs b sa H 91 56 ∧ cvC D cs b sa H 92 57 ∧ cvC D cs b sa H 93 58 ∧ cvC D cs b sa H 85 59 ∧ cvC D cs b sa H 94 60 ∧ cvC D cs b sa H 95 61 ∧ cvC D cs b sa H 96 62 ∧ cvC D cs b sa H 97 63 ∧ cvC D cs b sa H 86 64 ∧ cvC D cs b sa H 87 65 ∧ cvC D cs b sa H 88 66 ∧ cvC D cs b sa H 89 67 := by
  refine ⟨?_, ?_, ?_, ?_, ?_, ?_, ?_, ?_, ?_, ?_, ?_, ?_, ?_, ?_, ?_, ?_⟩
  · exact (gP_i (i := 0) (p := 52) hP rfl rfl)
  · exact (gP_i (i := 1) (p := 53) hP rfl rfl)
  · exact cv_r (g := fun i => some (adF b sa (90 + (i : Int)))) (gP_i (i := 2) (p := 54) hP rfl rfl) (fun j hj => by match j, hj with | 0, _ => rfl | 1, _ => rfl | 2, _ => rfl | 3, _ => rfl)
  · exact cv_i (g := σ0 90) (gP_i (i := 3) (p := 55) hP rfl rfl) (σ0_z (by decide) (by decide) (by decide) (by decide) (by decide))
  · exact cv_i (g := σ0 91) (gP_i (i := 4) (p := 56) hP rfl rfl) (σ0_z (by decide) (by decide) (by decide) (by decide) (by decide))
  · exact cv_i (g := σ0 92) (gP_i (i := 5) (p := 57) hP rfl rfl) (σ0_z (by decide) (by decide) (by decide) (by decide) (by decide))
  · exact cv_i (g := σ0 93) (gP_i (i := 6) (p := 58) hP rfl rfl) (σ0_z (by decide) (by decide) (by decide) (by decide) (by decide))
  · exact cv_r (g := fun i => some (adF b sa (94 + (i : Int)))) (gP_i (i := 7) (p := 59) hP rfl rfl) (fun j hj => by match j, hj with | 0, _ => rfl | 1, _ => rfl | 2, _ => rfl | 3, _ => rfl)
  · exact cv_i (g := σ0 94) (gP_i (i := 8) (p := 60) hP rfl rfl) (σ0_z (by decide) (by decide) (by decide) (by decide) (by decide))
  · exact cv_i (g := σ0 95) (gP_i (i := 9) (p := 61) hP rfl rfl) (σ0_z (by decide) (by decide) (by decide) (by decide) (by decide))
  · exact cv_i (g := σ0 96) (gP_i (i := 10) (p := 62) hP rfl rfl) (σ0_z (by decide) (by decide) (by decide) (by decide) (by decide))
  · exact cv_i (g := σ0 97) (gP_i (i := 11) (p := 63) hP rfl rfl) (σ0_z (by decide) (by decide) (by decide) (by decide) (by decide))
  · exact cv_i (g := σ0 86) (gP_i (i := 12) (p := 64) hP rfl rfl) (σ0_z (by decide) (by decide) (by decide) (by decide) (by decide))
  · exact cv_i (g := σ0 87) (gP_i (i := 13) (p := 65) hP rfl rfl) (σ0_z (by decide) (by decide) (by decide) (by decide) (by decide))
  · exact cv_i (g := σ0 88) (gP_i (i := 14) (p := 66) hP rfl rfl) (σ0_z (by decide) (by decide) (by decide) (by decide) (by decide))
  · exact cv_i (g := σ0 89) (gP_i (i := 15) (p := 67) hP rfl rfl) (σ0_z (by decide) (by decide) (by decide) (by decide) (by decide))
set_option maxRecDepth 100000 in
set_option maxHeartbeats 3000000 in
theorem cvb_d {D : va_G} {cs : Nat → ClassId} {b : Nat} {sa : Int → Nat} {H : Heap} (hP : va_P D fs_cl (zi (b + 84) [dLow cs, dHigh cs, .inl (cs 0, 4, .inl fun _ => 0)]) H) : cvC D cs b sa H 80 84 ∧ cvC D cs b sa H 81 85 ∧ cvC D cs b sa H 82 86 := by
  refine ⟨?_, ?_, ?_⟩
  · exact cv_u (g := σ0 80) (gP_i (i := 0) (p := 84) hP rfl rfl) (fun j hj => by match j, hj with | 0, _ => rfl | 1, _ => rfl | 2, _ => rfl | 3, _ => rfl)
  · exact cv_u (g := σ0 81) (gP_i (i := 1) (p := 85) hP rfl rfl) (fun j hj => by match j, hj with | 0, _ => rfl | 1, _ => rfl | 2, _ => rfl | 3, _ => rfl)
  · exact cv_i (g := σ0 82) (gP_i (i := 2) (p := 86) hP rfl rfl) (σ0_z (by decide) (by decide) (by decide) (by decide) (by decide))
