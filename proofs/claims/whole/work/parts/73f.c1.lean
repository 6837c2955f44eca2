/-! ===== a constructor of the class (written by gen/gw.py) ===== -/
section CTOR
variable {D : va_G} {cs : Nat → ClassId} {b : Nat} {ad : Int → Nat} {pre : List va_E} {j : Nat}
def rmX1 : Room := { frames := 3, cells := 15, slots := 207, locals := 120 }
def fX1 (b j : Nat) : List Value := [.int (Int32.ofInt 0), .int (Int32.ofInt 0), .int (Int32.ofInt 0), .ref (b + (j + 1))]
def bX1 (cs : Nat → ClassId) (b j : Nat) : List va_E := [] ++ (.inr (3, fX3 b (j + 1)) :: bX3 cs b (j + 1))
set_option maxRecDepth 100000 in
set_option maxHeartbeats 3000000 in
theorem gK_X1_init (hA : gad b ad) (hj : pre.length = j) (hj2 : j < 250) : gC D cs b ad mX1_init rmX1 [.inr (j : Int)] (pre ++ [.inr (1, [.int 0, .int 0, .int 0, .null])]) (pre ++ .inr (1, fX1 b j) :: bX1 cs b j) := by
  subst hj
  have hrm := gΓ_rm (D := D) (b := b) (rm := rmX1) (es1 := pre ++ .inr (1, fX1 b pre.length) :: bX1 cs b pre.length)
  refine gC.intro [some (.inr (pre.length : Int))] fs_oX1_init (Nat.le_of_ble_eq_true rfl) rfl ?_
  refine gr_aload_n 1 dX1_init_0 rfl rfl ?_
  refine gr_oinit 4 hrm (Nat.le_of_ble_eq_true rfl) (Nat.le_of_ble_eq_true rfl) (Nat.le_of_ble_eq_true rfl) dX1_init_1 rfl (fs_tm 289 (by decide +kernel) rfl) (fs_tm 75 (by decide +kernel) rfl) (fs_tm 76 (by decide +kernel) rfl) ?_
  refine gr_aload_n 5 dX1_init_4 rfl rfl ?_
  refine gr_iconst 6 dX1_init_5 rfl ?_
  refine gr_putn 9 hA dX1_init_6 rfl fs_kX1_7 fs_pX1_0 rfl rfl (by omega) rfl (Nat.le_of_ble_eq_true rfl) ?_
  refine gr_aload_n 10 dX1_init_9 rfl rfl ?_
  refine gr_iconst 11 dX1_init_10 rfl ?_
  refine gr_putn 14 hA dX1_init_11 rfl fs_kX1_13 fs_pX1_1 rfl rfl (by omega) rfl (Nat.le_of_ble_eq_true rfl) ?_
  refine gr_aload_n 15 dX1_init_14 rfl rfl ?_
  refine gr_iconst 16 dX1_init_15 rfl ?_
  refine gr_putn 19 hA dX1_init_16 rfl fs_kX1_17 fs_pX1_2 rfl rfl (by omega) rfl (Nat.le_of_ble_eq_true rfl) ?_
  refine gr_aload_n 20 dX1_init_19 rfl rfl ?_
  refine gr_newo 23 (pre.length + 1) (ci := 3) (N := 7) [.int 0, .null, .null, .null, .null, .null, .null] hA hrm (Nat.le_of_ble_eq_true rfl) (Nat.le_of_ble_eq_true rfl) dX1_init_20 rfl rfl fs_inX3 tyX3_ok (fs_tm 290 (by decide +kernel) rfl) (fs_tm 78 (by decide +kernel) rfl) (fs_tm 59 (by decide +kernel) rfl) (fun j hj => by match j, hj with | 0, _ => rfl | 1, _ => rfl | 2, _ => rfl | 3, _ => rfl | 4, _ => rfl | 5, _ => rfl | 6, _ => rfl | n + 7, h => exact absurd h (by omega)) rfl (by omega) ?_
  refine gr_dup 24 dX1_init_23 rfl ?_
  refine gr_callN 27 (M2 := mX3_init) (rm := rmX3) (rest2 := ([] ++ (.inr (3, fX3 b (pre.length + 1)) :: bX3 cs b (pre.length + 1)))) [] hrm dX1_init_24 rfl fs_nX1_22 fs_oX3_init (fs_tm 80 (by decide +kernel) rfl) rfl rfl rfl (Nat.le_of_ble_eq_true rfl) (Nat.le_of_ble_eq_true rfl) (Nat.le_of_ble_eq_true rfl) (Nat.le_of_ble_eq_true rfl) (Nat.le_of_ble_eq_true rfl) rfl ((gK_X3_init (pre := pre ++ .inr _ :: []) (j := pre.length + 1) hA (by rw [g_len]; rfl) (by omega)).cast g_asc g_asc) rfl ?_
  refine gr_putF 30 (i := (pre.length + 1)) hA dX1_init_27 rfl fs_kX1_23 fs_qX1_3 rfl rfl (by omega) (by omega) rfl (Nat.le_of_ble_eq_true rfl) ?_
  exact gr_vret dX1_init_30 rfl rfl rfl
end CTOR
