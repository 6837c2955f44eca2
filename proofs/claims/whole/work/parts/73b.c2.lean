/-! ===== a constructor of the class (written by gen/gw.py) ===== -/
section CTOR
variable {D : va_G} {cs : Nat → ClassId} {b : Nat} {ad : Int → Nat} {pre : List va_E} {j : Nat}
def rmX2 : Room := { frames := 1, cells := 5, slots := 516, locals := 60 }
def fX2 (b j r1 : Nat) : List Value := [.ref (b + (j + 1)), .ref (b + r1)]
def bX2 (cs : Nat → ClassId) (b j : Nat) : List va_E := [] ++ mnE cs 4 128 (b + (j + 1))
set_option maxRecDepth 100000 in
set_option maxHeartbeats 3000000 in
theorem gK_X2_init {r1 : Nat} (hA : gad b ad) (hj : pre.length = j) (hj2 : j < 300) (h1 : r1 < 900) : gC D cs b ad mX2_init rmX2 [.inr (j : Int), .inr (r1 : Int)] (pre ++ [.inr (2, [.null, .null])]) (pre ++ .inr (2, fX2 b j r1) :: bX2 cs b j) := by
  subst hj
  have hrm := gΓ_rm (D := D) (b := b) (rm := rmX2) (es1 := pre ++ .inr (2, fX2 b pre.length r1) :: bX2 cs b pre.length)
  refine gC.intro [some (.inr (pre.length : Int)), some (.inr (r1 : Int))] fs_oX2_init (Nat.le_of_ble_eq_true rfl) rfl ?_
  refine gr_aload_n 1 dX2_init_0 rfl rfl ?_
  refine gr_oinit 4 hrm (Nat.le_of_ble_eq_true rfl) (Nat.le_of_ble_eq_true rfl) (Nat.le_of_ble_eq_true rfl) dX2_init_1 rfl (fs_tm 129 (by decide +kernel) rfl) (fs_tm 75 (by decide +kernel) rfl) (fs_tm 76 (by decide +kernel) rfl) ?_
  refine gr_aload_n 5 dX2_init_4 rfl rfl ?_
  refine gr_iconst 6 dX2_init_5 rfl ?_
  refine gr_sipush 9 dX2_init_6 rfl (by decide) ?_
  refine gr_mna 13 (pre.length + 1) (N := 4) (K := 128) hA hrm (Nat.le_of_ble_eq_true rfl) (Nat.le_of_ble_eq_true rfl) (Nat.le_of_ble_eq_true rfl) (Nat.le_of_ble_eq_true rfl) dX2_init_9 rfl (fs_tm 130 (by decide +kernel) rfl) (fs_tm 123 (by decide +kernel) rfl) rfl (by omega) ?_
  refine gr_putF 16 (i := (pre.length + 1)) hA dX2_init_13 rfl fs_kX2_11 fs_qX2_0 rfl rfl (by omega) (by omega) rfl (Nat.le_of_ble_eq_true rfl) ?_
  refine gr_aload_n 17 dX2_init_16 rfl rfl ?_
  refine gr_aload_n 18 dX2_init_17 rfl rfl ?_
  refine gr_putF 21 (i := r1) hA dX2_init_18 rfl fs_kX2_16 fs_qX2_1 rfl rfl (by omega) (by omega) rfl (Nat.le_of_ble_eq_true rfl) ?_
  exact gr_vret dX2_init_21 rfl rfl rfl
end CTOR
