/-! ===== a constructor of the class (written by gen/gw.py) ===== -/
section CTOR
variable {D : va_G} {cs : Nat → ClassId} {b : Nat} {ad : Int → Nat} {pre : List va_E} {j : Nat}
def rmX0 : Room := { frames := 1, cells := 2, slots := 8, locals := 60 }
def fX0 (b j r1 : Nat) : List Value := [.int (Int32.ofInt 2), .int (Int32.ofInt 6), .int (Int32.ofInt 0), .int (Int32.ofInt 0), .int (Int32.ofInt 0), .int (Int32.ofInt 0), .int (Int32.ofInt 0), .int (Int32.ofInt 0), .int (Int32.ofInt 0), .ref (b + (j + 1)), .ref (b + r1), .ref (b + (j + 2))]
def bX0 (cs : Nat → ClassId) (b j : Nat) : List va_E := [] ++ [.inl (cs 0, 4, .inl fun _ => 0)] ++ [.inl (cs 0, 4, .inl fun _ => 0)]
set_option maxRecDepth 100000 in
set_option maxHeartbeats 3000000 in
theorem gK_X0_init {r1 : Nat} (hA : gad b ad) (hj : pre.length = j) (hj2 : j < 300) (h1 : r1 < 900) : gC D cs b ad mX0_init rmX0 [.inr (j : Int), .inr (r1 : Int)] (pre ++ [.inr (0, [.int 0, .int 0, .int 0, .int 0, .int 0, .int 0, .int 0, .int 0, .int 0, .null, .null, .null])]) (pre ++ .inr (0, fX0 b j r1) :: bX0 cs b j) := by
  subst hj
  have hrm := gΓ_rm (D := D) (b := b) (rm := rmX0) (es1 := pre ++ .inr (0, fX0 b pre.length r1) :: bX0 cs b pre.length)
  refine gC.intro [some (.inr (pre.length : Int)), some (.inr (r1 : Int))] fs_oX0_init (Nat.le_of_ble_eq_true rfl) rfl ?_
  refine gr_aload_n 1 dX0_init_0 rfl rfl ?_
  refine gr_oinit 4 hrm (Nat.le_of_ble_eq_true rfl) (Nat.le_of_ble_eq_true rfl) (Nat.le_of_ble_eq_true rfl) dX0_init_1 rfl (fs_tm 235 (by decide +kernel) rfl) (fs_tm 75 (by decide +kernel) rfl) (fs_tm 76 (by decide +kernel) rfl) ?_
  refine gr_aload_n 5 dX0_init_4 rfl rfl ?_
  refine gr_iconst 6 dX0_init_5 rfl ?_
  refine gr_putn 9 hA dX0_init_6 rfl fs_kX0_9 fs_pX0_0 rfl rfl (by omega) rfl (Nat.le_of_ble_eq_true rfl) ?_
  refine gr_aload_n 10 dX0_init_9 rfl rfl ?_
  refine gr_bipush 12 dX0_init_10 rfl (by decide) ?_
  refine gr_putn 15 hA dX0_init_12 rfl fs_kX0_15 fs_pX0_1 rfl rfl (by omega) rfl (Nat.le_of_ble_eq_true rfl) ?_
  refine gr_aload_n 16 dX0_init_15 rfl rfl ?_
  refine gr_iconst 17 dX0_init_16 rfl ?_
  refine gr_putn 20 hA dX0_init_17 rfl fs_kX0_18 fs_pX0_2 rfl rfl (by omega) rfl (Nat.le_of_ble_eq_true rfl) ?_
  refine gr_aload_n 21 dX0_init_20 rfl rfl ?_
  refine gr_iconst 22 dX0_init_21 rfl ?_
  refine gr_putn 25 hA dX0_init_22 rfl fs_kX0_21 fs_pX0_3 rfl rfl (by omega) rfl (Nat.le_of_ble_eq_true rfl) ?_
  refine gr_aload_n 26 dX0_init_25 rfl rfl ?_
  refine gr_iconst 27 dX0_init_26 rfl ?_
  refine gr_putn 30 hA dX0_init_27 rfl fs_kX0_24 fs_pX0_4 rfl rfl (by omega) rfl (Nat.le_of_ble_eq_true rfl) ?_
  refine gr_aload_n 31 dX0_init_30 rfl rfl ?_
  refine gr_iconst 32 dX0_init_31 rfl ?_
  refine gr_putn 35 hA dX0_init_32 rfl fs_kX0_27 fs_pX0_5 rfl rfl (by omega) rfl (Nat.le_of_ble_eq_true rfl) ?_
  refine gr_aload_n 36 dX0_init_35 rfl rfl ?_
  refine gr_iconst 37 dX0_init_36 rfl ?_
  refine gr_putn 40 hA dX0_init_37 rfl fs_kX0_30 fs_pX0_6 rfl rfl (by omega) rfl (Nat.le_of_ble_eq_true rfl) ?_
  refine gr_aload_n 41 dX0_init_40 rfl rfl ?_
  refine gr_iconst 42 dX0_init_41 rfl ?_
  refine gr_putn 45 hA dX0_init_42 rfl fs_kX0_33 fs_pX0_7 rfl rfl (by omega) rfl (Nat.le_of_ble_eq_true rfl) ?_
  refine gr_aload_n 46 dX0_init_45 rfl rfl ?_
  refine gr_iconst 47 dX0_init_46 rfl ?_
  refine gr_putn 50 hA dX0_init_47 rfl fs_kX0_36 fs_pX0_8 rfl rfl (by omega) rfl (Nat.le_of_ble_eq_true rfl) ?_
  refine gr_aload_n 51 dX0_init_50 rfl rfl ?_
  refine gr_iconst 52 dX0_init_51 rfl ?_
  refine gr_newi 54 (pre.length + 1) (N := 4) hA hrm (Nat.le_of_ble_eq_true rfl) (Nat.le_of_ble_eq_true rfl) (Nat.le_of_ble_eq_true rfl) dX0_init_52 rfl (fs_tm 123 (by decide +kernel) rfl) rfl (by omega) ?_
  refine gr_putF 57 (i := (pre.length + 1)) hA dX0_init_54 rfl fs_kX0_39 fs_qX0_9 rfl rfl (by omega) (by omega) rfl (Nat.le_of_ble_eq_true rfl) ?_
  refine gr_aload_n 58 dX0_init_57 rfl rfl ?_
  refine gr_iconst 59 dX0_init_58 rfl ?_
  refine gr_newi 61 (pre.length + 2) (N := 4) hA hrm (Nat.le_of_ble_eq_true rfl) (Nat.le_of_ble_eq_true rfl) (Nat.le_of_ble_eq_true rfl) dX0_init_59 rfl (fs_tm 123 (by decide +kernel) rfl) rfl (by omega) ?_
  refine gr_putF 64 (i := (pre.length + 2)) hA dX0_init_61 rfl fs_kX0_43 fs_qX0_11 rfl rfl (by omega) (by omega) rfl (Nat.le_of_ble_eq_true rfl) ?_
  refine gr_aload_n 65 dX0_init_64 rfl rfl ?_
  refine gr_aload_n 66 dX0_init_65 rfl rfl ?_
  refine gr_putF 69 (i := r1) hA dX0_init_66 rfl fs_kX0_46 fs_qX0_10 rfl rfl (by omega) (by omega) rfl (Nat.le_of_ble_eq_true rfl) ?_
  exact gr_vret dX0_init_69 rfl rfl rfl
end CTOR
