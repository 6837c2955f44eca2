/-! ===== a constructor of the class (written by gen/gw.py) ===== -/
section CTOR
variable {D : va_G} {cs : Nat → ClassId} {b : Nat} {ad : Int → Nat} {pre : List va_E} {j : Nat}
def rmX5 : Room := { frames := 1, cells := 11, slots := 6212, locals := 60 }
def fX5 (b j r1 : Nat) : List Value := [.int (Int32.ofInt 1), .int (Int32.ofInt 0), .ref (b + (j + 1)), .ref (b + (j + 2)), .ref (b + (j + 3)), .ref (b + (j + 4)), .ref (b + (j + 5)), .ref (b + (j + 6)), .int (Int32.ofInt (-1)), .int (Int32.ofInt 0), .ref (b + (j + 11)), .ref (b + r1)]
def bX5 (cs : Nat → ClassId) (b j : Nat) : List va_E := [] ++ [.inl (cs 0, 1029, .inl fun _ => 0)] ++ [.inl (cs 0, 1029, .inl fun _ => 0)] ++ [.inl (cs 0, 1029, .inl fun _ => 0)] ++ [.inl (cs 0, 1029, .inl fun _ => 0)] ++ [.inl (cs 0, 2048, .inl fun _ => 0)] ++ mnE cs 4 7 (b + (j + 6)) ++ [.inl (cs 0, 16, .inl fun _ => 0)]
set_option maxRecDepth 100000 in
set_option maxHeartbeats 3000000 in
theorem gK_X5_init {r1 : Nat} (hA : gad b ad) (hj : pre.length = j) (hj2 : j < 300) (h1 : r1 < 900) : gC D cs b ad mX5_init rmX5 [.inr (j : Int), .inr (r1 : Int)] (pre ++ [.inr (5, [.int 0, .int 0, .null, .null, .null, .null, .null, .null, .int 0, .int 0, .null, .null])]) (pre ++ .inr (5, fX5 b j r1) :: bX5 cs b j) := by
  subst hj
  have hrm := gΓ_rm (D := D) (b := b) (rm := rmX5) (es1 := pre ++ .inr (5, fX5 b pre.length r1) :: bX5 cs b pre.length)
  refine gC.intro [some (.inr (pre.length : Int)), some (.inr (r1 : Int))] fs_oX5_init (Nat.le_of_ble_eq_true rfl) rfl ?_
  refine gr_aload_n 1 dX5_init_0 rfl rfl ?_
  refine gr_oinit 4 hrm (Nat.le_of_ble_eq_true rfl) (Nat.le_of_ble_eq_true rfl) (Nat.le_of_ble_eq_true rfl) dX5_init_1 rfl (fs_tm 184 (by decide +kernel) rfl) (fs_tm 75 (by decide +kernel) rfl) (fs_tm 76 (by decide +kernel) rfl) ?_
  refine gr_aload_n 5 dX5_init_4 rfl rfl ?_
  refine gr_iconst 6 dX5_init_5 rfl ?_
  refine gr_putn 9 hA dX5_init_6 rfl fs_kX5_9 fs_pX5_0 rfl rfl (by omega) rfl (Nat.le_of_ble_eq_true rfl) ?_
  refine gr_aload_n 10 dX5_init_9 rfl rfl ?_
  refine gr_iconst 11 dX5_init_10 rfl ?_
  refine gr_putn 14 hA dX5_init_11 rfl fs_kX5_15 fs_pX5_1 rfl rfl (by omega) rfl (Nat.le_of_ble_eq_true rfl) ?_
  refine gr_aload_n 15 dX5_init_14 rfl rfl ?_
  refine gr_sipush 18 dX5_init_15 rfl (by decide) ?_
  refine gr_newi 20 (pre.length + 1) (N := 1029) hA hrm (Nat.le_of_ble_eq_true rfl) (Nat.le_of_ble_eq_true rfl) (Nat.le_of_ble_eq_true rfl) dX5_init_18 rfl (fs_tm 123 (by decide +kernel) rfl) rfl (by omega) ?_
  refine gr_putF 23 (i := (pre.length + 1)) hA dX5_init_20 rfl fs_kX5_19 fs_qX5_2 rfl rfl (by omega) (by omega) rfl (Nat.le_of_ble_eq_true rfl) ?_
  refine gr_aload_n 24 dX5_init_23 rfl rfl ?_
  refine gr_sipush 27 dX5_init_24 rfl (by decide) ?_
  refine gr_newi 29 (pre.length + 2) (N := 1029) hA hrm (Nat.le_of_ble_eq_true rfl) (Nat.le_of_ble_eq_true rfl) (Nat.le_of_ble_eq_true rfl) dX5_init_27 rfl (fs_tm 123 (by decide +kernel) rfl) rfl (by omega) ?_
  refine gr_putF 32 (i := (pre.length + 2)) hA dX5_init_29 rfl fs_kX5_23 fs_qX5_3 rfl rfl (by omega) (by omega) rfl (Nat.le_of_ble_eq_true rfl) ?_
  refine gr_aload_n 33 dX5_init_32 rfl rfl ?_
  refine gr_sipush 36 dX5_init_33 rfl (by decide) ?_
  refine gr_newi 38 (pre.length + 3) (N := 1029) hA hrm (Nat.le_of_ble_eq_true rfl) (Nat.le_of_ble_eq_true rfl) (Nat.le_of_ble_eq_true rfl) dX5_init_36 rfl (fs_tm 123 (by decide +kernel) rfl) rfl (by omega) ?_
  refine gr_putF 41 (i := (pre.length + 3)) hA dX5_init_38 rfl fs_kX5_26 fs_qX5_4 rfl rfl (by omega) (by omega) rfl (Nat.le_of_ble_eq_true rfl) ?_
  refine gr_aload_n 42 dX5_init_41 rfl rfl ?_
  refine gr_sipush 45 dX5_init_42 rfl (by decide) ?_
  refine gr_newi 47 (pre.length + 4) (N := 1029) hA hrm (Nat.le_of_ble_eq_true rfl) (Nat.le_of_ble_eq_true rfl) (Nat.le_of_ble_eq_true rfl) dX5_init_45 rfl (fs_tm 123 (by decide +kernel) rfl) rfl (by omega) ?_
  refine gr_putF 50 (i := (pre.length + 4)) hA dX5_init_47 rfl fs_kX5_29 fs_qX5_5 rfl rfl (by omega) (by omega) rfl (Nat.le_of_ble_eq_true rfl) ?_
  refine gr_aload_n 51 dX5_init_50 rfl rfl ?_
  refine gr_sipush 54 dX5_init_51 rfl (by decide) ?_
  refine gr_newi 56 (pre.length + 5) (N := 2048) hA hrm (Nat.le_of_ble_eq_true rfl) (Nat.le_of_ble_eq_true rfl) (Nat.le_of_ble_eq_true rfl) dX5_init_54 rfl (fs_tm 123 (by decide +kernel) rfl) rfl (by omega) ?_
  refine gr_putF 59 (i := (pre.length + 5)) hA dX5_init_56 rfl fs_kX5_32 fs_qX5_6 rfl rfl (by omega) (by omega) rfl (Nat.le_of_ble_eq_true rfl) ?_
  refine gr_aload_n 60 dX5_init_59 rfl rfl ?_
  refine gr_iconst 61 dX5_init_60 rfl ?_
  refine gr_bipush 63 dX5_init_61 rfl (by decide) ?_
  refine gr_mna 67 (pre.length + 6) (N := 4) (K := 7) hA hrm (Nat.le_of_ble_eq_true rfl) (Nat.le_of_ble_eq_true rfl) (Nat.le_of_ble_eq_true rfl) (Nat.le_of_ble_eq_true rfl) dX5_init_63 rfl (fs_tm 185 (by decide +kernel) rfl) (fs_tm 123 (by decide +kernel) rfl) rfl (by omega) ?_
  refine gr_putF 70 (i := (pre.length + 6)) hA dX5_init_67 rfl fs_kX5_37 fs_qX5_7 rfl rfl (by omega) (by omega) rfl (Nat.le_of_ble_eq_true rfl) ?_
  refine gr_aload_n 71 dX5_init_70 rfl rfl ?_
  refine gr_iconst 72 dX5_init_71 rfl ?_
  refine gr_putn 75 hA dX5_init_72 rfl fs_kX5_40 fs_pX5_8 rfl rfl (by omega) rfl (Nat.le_of_ble_eq_true rfl) ?_
  refine gr_aload_n 76 dX5_init_75 rfl rfl ?_
  refine gr_iconst 77 dX5_init_76 rfl ?_
  refine gr_putn 80 hA dX5_init_77 rfl fs_kX5_43 fs_pX5_9 rfl rfl (by omega) rfl (Nat.le_of_ble_eq_true rfl) ?_
  refine gr_aload_n 81 dX5_init_80 rfl rfl ?_
  refine gr_bipush 83 dX5_init_81 rfl (by decide) ?_
  refine gr_newi 85 (pre.length + 11) (N := 16) hA hrm (Nat.le_of_ble_eq_true rfl) (Nat.le_of_ble_eq_true rfl) (Nat.le_of_ble_eq_true rfl) dX5_init_83 rfl (fs_tm 123 (by decide +kernel) rfl) rfl (by omega) ?_
  refine gr_putF 88 (i := (pre.length + 11)) hA dX5_init_85 rfl fs_kX5_46 fs_qX5_10 rfl rfl (by omega) (by omega) rfl (Nat.le_of_ble_eq_true rfl) ?_
  refine gr_aload_n 89 dX5_init_88 rfl rfl ?_
  refine gr_aload_n 90 dX5_init_89 rfl rfl ?_
  refine gr_putF 93 (i := r1) hA dX5_init_90 rfl fs_kX5_49 fs_qX5_11 rfl rfl (by omega) (by omega) rfl (Nat.le_of_ble_eq_true rfl) ?_
  exact gr_vret dX5_init_93 rfl rfl rfl
end CTOR
