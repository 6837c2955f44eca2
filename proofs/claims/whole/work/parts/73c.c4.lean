/-! ===== a constructor of the class (written by gen/gw.py) ===== -/
section CTOR
variable {D : va_G} {cs : Nat → ClassId} {b : Nat} {ad : Int → Nat} {pre : List va_E} {j : Nat}
def rmX4 : Room := { frames := 1, cells := 13, slots := 556, locals := 60 }
def fX4 (b j r1 r2 : Nat) : List Value := [.int (Int32.ofInt 1), .int (Int32.ofInt 0), .ref (b + (j + 1)), .ref (b + (j + 2)), .ref (b + (j + 3)), .ref (b + (j + 4)), .ref (b + (j + 9)), .ref (b + r1), .ref (b + r2)]
def bX4 (cs : Nat → ClassId) (b j : Nat) : List va_E := [] ++ [.inl (cs 0, 16, .inl fun _ => 0)] ++ [.inl (cs 1, 16, .inl fun _ => 0)] ++ [.inl (cs 0, 4, .inl fun _ => 0)] ++ mnE cs 4 64 (b + (j + 4)) ++ mnE cs 4 64 (b + (j + 9))
set_option maxRecDepth 100000 in
set_option maxHeartbeats 3000000 in
theorem gK_X4_init {r1 : Nat} {r2 : Nat} (hA : gad b ad) (hj : pre.length = j) (hj2 : j < 300) (h1 : r1 < 900) (h2 : r2 < 900) : gC D cs b ad mX4_init rmX4 [.inr (j : Int), .inr (r1 : Int), .inr (r2 : Int)] (pre ++ [.inr (4, [.int 0, .int 0, .null, .null, .null, .null, .null, .null, .null])]) (pre ++ .inr (4, fX4 b j r1 r2) :: bX4 cs b j) := by
  subst hj
  have hrm := gΓ_rm (D := D) (b := b) (rm := rmX4) (es1 := pre ++ .inr (4, fX4 b pre.length r1 r2) :: bX4 cs b pre.length)
  refine gC.intro [some (.inr (pre.length : Int)), some (.inr (r1 : Int)), some (.inr (r2 : Int))] fs_oX4_init (Nat.le_of_ble_eq_true rfl) rfl ?_
  refine gr_aload_n 1 dX4_init_0 rfl rfl ?_
  refine gr_oinit 4 hrm (Nat.le_of_ble_eq_true rfl) (Nat.le_of_ble_eq_true rfl) (Nat.le_of_ble_eq_true rfl) dX4_init_1 rfl (fs_tm 144 (by decide +kernel) rfl) (fs_tm 75 (by decide +kernel) rfl) (fs_tm 76 (by decide +kernel) rfl) ?_
  refine gr_aload_n 5 dX4_init_4 rfl rfl ?_
  refine gr_iconst 6 dX4_init_5 rfl ?_
  refine gr_putn 9 hA dX4_init_6 rfl fs_kX4_9 fs_pX4_0 rfl rfl (by omega) rfl (Nat.le_of_ble_eq_true rfl) ?_
  refine gr_aload_n 10 dX4_init_9 rfl rfl ?_
  refine gr_iconst 11 dX4_init_10 rfl ?_
  refine gr_putn 14 hA dX4_init_11 rfl fs_kX4_15 fs_pX4_1 rfl rfl (by omega) rfl (Nat.le_of_ble_eq_true rfl) ?_
  refine gr_aload_n 15 dX4_init_14 rfl rfl ?_
  refine gr_bipush 17 dX4_init_15 rfl (by decide) ?_
  refine gr_newi 19 (pre.length + 1) (N := 16) hA hrm (Nat.le_of_ble_eq_true rfl) (Nat.le_of_ble_eq_true rfl) (Nat.le_of_ble_eq_true rfl) dX4_init_17 rfl (fs_tm 123 (by decide +kernel) rfl) rfl (by omega) ?_
  refine gr_putF 22 (i := (pre.length + 1)) hA dX4_init_19 rfl fs_kX4_19 fs_qX4_2 rfl rfl (by omega) (by omega) rfl (Nat.le_of_ble_eq_true rfl) ?_
  refine gr_aload_n 23 dX4_init_22 rfl rfl ?_
  refine gr_bipush 25 dX4_init_23 rfl (by decide) ?_
  refine gr_newz 27 (pre.length + 2) (N := 16) hA hrm (Nat.le_of_ble_eq_true rfl) (Nat.le_of_ble_eq_true rfl) (Nat.le_of_ble_eq_true rfl) dX4_init_25 rfl (fs_tm 178 (by decide +kernel) rfl) rfl (by omega) ?_
  refine gr_putF 30 (i := (pre.length + 2)) hA dX4_init_27 rfl fs_kX4_23 fs_qX4_3 rfl rfl (by omega) (by omega) rfl (Nat.le_of_ble_eq_true rfl) ?_
  refine gr_aload_n 31 dX4_init_30 rfl rfl ?_
  refine gr_iconst 32 dX4_init_31 rfl ?_
  refine gr_newi 34 (pre.length + 3) (N := 4) hA hrm (Nat.le_of_ble_eq_true rfl) (Nat.le_of_ble_eq_true rfl) (Nat.le_of_ble_eq_true rfl) dX4_init_32 rfl (fs_tm 123 (by decide +kernel) rfl) rfl (by omega) ?_
  refine gr_putF 37 (i := (pre.length + 3)) hA dX4_init_34 rfl fs_kX4_27 fs_qX4_4 rfl rfl (by omega) (by omega) rfl (Nat.le_of_ble_eq_true rfl) ?_
  refine gr_aload_n 38 dX4_init_37 rfl rfl ?_
  refine gr_iconst 39 dX4_init_38 rfl ?_
  refine gr_bipush 41 dX4_init_39 rfl (by decide) ?_
  refine gr_mna 45 (pre.length + 4) (N := 4) (K := 64) hA hrm (Nat.le_of_ble_eq_true rfl) (Nat.le_of_ble_eq_true rfl) (Nat.le_of_ble_eq_true rfl) (Nat.le_of_ble_eq_true rfl) dX4_init_41 rfl (fs_tm 145 (by decide +kernel) rfl) (fs_tm 123 (by decide +kernel) rfl) rfl (by omega) ?_
  refine gr_putF 48 (i := (pre.length + 4)) hA dX4_init_45 rfl fs_kX4_32 fs_qX4_5 rfl rfl (by omega) (by omega) rfl (Nat.le_of_ble_eq_true rfl) ?_
  refine gr_aload_n 49 dX4_init_48 rfl rfl ?_
  refine gr_iconst 50 dX4_init_49 rfl ?_
  refine gr_bipush 52 dX4_init_50 rfl (by decide) ?_
  refine gr_mna 56 (pre.length + 9) (N := 4) (K := 64) hA hrm (Nat.le_of_ble_eq_true rfl) (Nat.le_of_ble_eq_true rfl) (Nat.le_of_ble_eq_true rfl) (Nat.le_of_ble_eq_true rfl) dX4_init_52 rfl (fs_tm 145 (by decide +kernel) rfl) (fs_tm 123 (by decide +kernel) rfl) rfl (by omega) ?_
  refine gr_putF 59 (i := (pre.length + 9)) hA dX4_init_56 rfl fs_kX4_35 fs_qX4_6 rfl rfl (by omega) (by omega) rfl (Nat.le_of_ble_eq_true rfl) ?_
  refine gr_aload_n 60 dX4_init_59 rfl rfl ?_
  refine gr_aload_n 61 dX4_init_60 rfl rfl ?_
  refine gr_putF 64 (i := r1) hA dX4_init_61 rfl fs_kX4_38 fs_qX4_7 rfl rfl (by omega) (by omega) rfl (Nat.le_of_ble_eq_true rfl) ?_
  refine gr_aload_n 65 dX4_init_64 rfl rfl ?_
  refine gr_aload_n 66 dX4_init_65 rfl rfl ?_
  refine gr_putF 69 (i := r2) hA dX4_init_66 rfl fs_kX4_42 fs_qX4_8 rfl rfl (by omega) (by omega) rfl (Nat.le_of_ble_eq_true rfl) ?_
  exact gr_vret dX4_init_69 rfl rfl rfl
end CTOR
