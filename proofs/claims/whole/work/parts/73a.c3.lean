/-! ===== a constructor of the class (written by gen/gw.py) ===== -/
section CTOR
variable {D : va_G} {cs : Nat → ClassId} {b : Nat} {ad : Int → Nat} {pre : List va_E} {j : Nat}
def rmX3 : Room := { frames := 1, cells := 14, slots := 200, locals := 60 }
def fX3 (b j : Nat) : List Value := [.int (Int32.ofInt 0), .ref (b + (j + 1)), .ref (b + (j + 6)), .ref (b + (j + 11)), .ref (b + (j + 12)), .ref (b + (j + 13)), .ref (b + (j + 14))]
def bX3 (cs : Nat → ClassId) (b j : Nat) : List va_E := [] ++ mnE cs 4 16 (b + (j + 1)) ++ mnE cs 4 16 (b + (j + 6)) ++ [.inl (cs 0, 16, .inl fun _ => 0)] ++ [.inl (cs 0, 16, .inl fun _ => 0)] ++ [.inl (cs 0, 16, .inl fun _ => 0)] ++ [.inl (cs 0, 16, .inl fun _ => 0)]
set_option maxRecDepth 100000 in
set_option maxHeartbeats 3000000 in
theorem gK_X3_init (hA : gad b ad) (hj : pre.length = j) (hj2 : j < 300) : gC D cs b ad mX3_init rmX3 [.inr (j : Int)] (pre ++ [.inr (3, [.int 0, .null, .null, .null, .null, .null, .null])]) (pre ++ .inr (3, fX3 b j) :: bX3 cs b j) := by
  subst hj
  have hrm := gΓ_rm (D := D) (b := b) (rm := rmX3) (es1 := pre ++ .inr (3, fX3 b pre.length) :: bX3 cs b pre.length)
  refine gC.intro [some (.inr (pre.length : Int))] fs_oX3_init (Nat.le_of_ble_eq_true rfl) rfl ?_
  refine gr_aload_n 1 dX3_init_0 rfl rfl ?_
  refine gr_oinit 4 hrm (Nat.le_of_ble_eq_true rfl) (Nat.le_of_ble_eq_true rfl) (Nat.le_of_ble_eq_true rfl) dX3_init_1 rfl (fs_tm 82 (by decide +kernel) rfl) (fs_tm 75 (by decide +kernel) rfl) (fs_tm 76 (by decide +kernel) rfl) ?_
  refine gr_aload_n 5 dX3_init_4 rfl rfl ?_
  refine gr_iconst 6 dX3_init_5 rfl ?_
  refine gr_putn 9 hA dX3_init_6 rfl fs_kX3_9 fs_pX3_0 rfl rfl (by omega) rfl (Nat.le_of_ble_eq_true rfl) ?_
  refine gr_aload_n 10 dX3_init_9 rfl rfl ?_
  refine gr_iconst 11 dX3_init_10 rfl ?_
  refine gr_bipush 13 dX3_init_11 rfl (by decide) ?_
  refine gr_mna 17 (pre.length + 1) (N := 4) (K := 16) hA hrm (Nat.le_of_ble_eq_true rfl) (Nat.le_of_ble_eq_true rfl) (Nat.le_of_ble_eq_true rfl) (Nat.le_of_ble_eq_true rfl) dX3_init_13 rfl (fs_tm 83 (by decide +kernel) rfl) (fs_tm 123 (by decide +kernel) rfl) rfl (by omega) ?_
  refine gr_putF 20 (i := (pre.length + 1)) hA dX3_init_17 rfl fs_kX3_17 fs_qX3_1 rfl rfl (by omega) (by omega) rfl (Nat.le_of_ble_eq_true rfl) ?_
  refine gr_aload_n 21 dX3_init_20 rfl rfl ?_
  refine gr_iconst 22 dX3_init_21 rfl ?_
  refine gr_bipush 24 dX3_init_22 rfl (by decide) ?_
  refine gr_mna 28 (pre.length + 6) (N := 4) (K := 16) hA hrm (Nat.le_of_ble_eq_true rfl) (Nat.le_of_ble_eq_true rfl) (Nat.le_of_ble_eq_true rfl) (Nat.le_of_ble_eq_true rfl) dX3_init_24 rfl (fs_tm 83 (by decide +kernel) rfl) (fs_tm 123 (by decide +kernel) rfl) rfl (by omega) ?_
  refine gr_putF 31 (i := (pre.length + 6)) hA dX3_init_28 rfl fs_kX3_20 fs_qX3_2 rfl rfl (by omega) (by omega) rfl (Nat.le_of_ble_eq_true rfl) ?_
  refine gr_aload_n 32 dX3_init_31 rfl rfl ?_
  refine gr_bipush 34 dX3_init_32 rfl (by decide) ?_
  refine gr_newi 36 (pre.length + 11) (N := 16) hA hrm (Nat.le_of_ble_eq_true rfl) (Nat.le_of_ble_eq_true rfl) (Nat.le_of_ble_eq_true rfl) dX3_init_34 rfl (fs_tm 123 (by decide +kernel) rfl) rfl (by omega) ?_
  refine gr_putF 39 (i := (pre.length + 11)) hA dX3_init_36 rfl fs_kX3_23 fs_qX3_3 rfl rfl (by omega) (by omega) rfl (Nat.le_of_ble_eq_true rfl) ?_
  refine gr_aload_n 40 dX3_init_39 rfl rfl ?_
  refine gr_bipush 42 dX3_init_40 rfl (by decide) ?_
  refine gr_newi 44 (pre.length + 12) (N := 16) hA hrm (Nat.le_of_ble_eq_true rfl) (Nat.le_of_ble_eq_true rfl) (Nat.le_of_ble_eq_true rfl) dX3_init_42 rfl (fs_tm 123 (by decide +kernel) rfl) rfl (by omega) ?_
  refine gr_putF 47 (i := (pre.length + 12)) hA dX3_init_44 rfl fs_kX3_27 fs_qX3_4 rfl rfl (by omega) (by omega) rfl (Nat.le_of_ble_eq_true rfl) ?_
  refine gr_aload_n 48 dX3_init_47 rfl rfl ?_
  refine gr_bipush 50 dX3_init_48 rfl (by decide) ?_
  refine gr_newi 52 (pre.length + 13) (N := 16) hA hrm (Nat.le_of_ble_eq_true rfl) (Nat.le_of_ble_eq_true rfl) (Nat.le_of_ble_eq_true rfl) dX3_init_50 rfl (fs_tm 123 (by decide +kernel) rfl) rfl (by omega) ?_
  refine gr_putF 55 (i := (pre.length + 13)) hA dX3_init_52 rfl fs_kX3_30 fs_qX3_5 rfl rfl (by omega) (by omega) rfl (Nat.le_of_ble_eq_true rfl) ?_
  refine gr_aload_n 56 dX3_init_55 rfl rfl ?_
  refine gr_bipush 58 dX3_init_56 rfl (by decide) ?_
  refine gr_newi 60 (pre.length + 14) (N := 16) hA hrm (Nat.le_of_ble_eq_true rfl) (Nat.le_of_ble_eq_true rfl) (Nat.le_of_ble_eq_true rfl) dX3_init_58 rfl (fs_tm 123 (by decide +kernel) rfl) rfl (by omega) ?_
  refine gr_putF 63 (i := (pre.length + 14)) hA dX3_init_60 rfl fs_kX3_33 fs_qX3_6 rfl rfl (by omega) (by omega) rfl (Nat.le_of_ble_eq_true rfl) ?_
  exact gr_vret dX3_init_63 rfl rfl rfl
end CTOR
