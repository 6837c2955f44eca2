/-! ===== a constructor of the class (written by gen/gw.py) ===== -/
section CTOR
variable {D : va_G} {cs : Nat → ClassId} {b : Nat} {ad : Int → Nat} {pre : List va_E} {j : Nat}
theorem g_three {R : List va_E} {x y z : va_E} : ((R ++ [x]) ++ [y]) ++ [z] = R ++ [x, y, z] := by simp
set_option maxRecDepth 100000 in
set_option maxHeartbeats 3000000 in
theorem gK_X6_init (hA : gad b ad) (hj : pre.length = j) (hj2 : j < 100) : gC D cs b ad mX6_init rmX6 [.inr (j : Int)] (pre ++ [.inr (6, [.null, .null, .null, .null, .null, .null, .null, .null, .null])]) (pre ++ .inr (6, fX6 b j) :: bX6 cs b j) := by
  subst hj
  have hrm := gΓ_rm (D := D) (b := b) (rm := rmX6) (es1 := pre ++ .inr (6, fX6 b pre.length) :: bX6 cs b pre.length)
  refine gC.intro [some (.inr (pre.length : Int)), none] fs_oX6_init (Nat.le_of_ble_eq_true rfl) rfl ?_
  refine gK_X6_s0 hA hj2 hrm ?_
  refine gK_X6_s1 hA hj2 hrm ?_
  refine gK_X6_s2 hA hj2 hrm ?_
  refine gK_X6_s3 hA hj2 hrm ?_
  refine gK_X6_s4 hA hj2 hrm ?_
  refine gK_X6_s5 hA hj2 hrm ?_
  refine gK_X6_s6 hA hj2 hrm ?_
  refine gK_X6_s7 hA hj2 hrm ?_
  refine gK_X6_s8 hA hj2 hrm ?_
  refine gK_X6_s9 hA hj2 hrm ?_
  have hl : (b6X cs b pre.length).length = 83 := rfl
  have hcd := gK_clearDraft (D := D) (cs := cs) (ad := ad) (pre := pre) (R := b6X cs b pre.length) (fs := fX6 b pre.length) hA (by rw [hl]; omega) (by rw [hl, show pre.length + 1 + 83 = pre.length + 84 by omega]; rfl) (by rw [hl, show pre.length + 1 + (83 + 1) = pre.length + 85 by omega]; rfl)
  change zW D cs b ad _ mX6_init pre (6, fX6 b pre.length) (((b6X cs b pre.length ++ [.inl (cs 0, 4, .inl fun _ => 0)]) ++ [.inl (cs 0, 4, .inl fun _ => 0)]) ++ [.inl (cs 0, 4, .inl fun _ => 0)]) 134 _ _ _ _
  rw [g_three]
  refine gr_aload_n 135 dX6_init_134 rfl rfl ?_
  refine gr_callV 138 (M2 := mX6_clearDraft) (rm := fs_rm 0) (o2 := (6, fX6 b pre.length)) (rest2 := bX6 cs b pre.length) hA hrm dX6_init_135 rfl fs_mX6_67 fs_oX6_clearDraft fs_iX6_clearDraft rfl (by omega) rfl (Nat.le_of_ble_eq_true rfl) (Nat.le_of_ble_eq_true rfl) (Nat.le_of_ble_eq_true rfl) (Nat.le_of_ble_eq_true rfl) (Nat.le_of_ble_eq_true rfl) hcd (by unfold bX6; rw [List.length_append, List.length_append]; rfl) ?_
  exact gr_vret dX6_init_138 rfl rfl rfl
end CTOR
