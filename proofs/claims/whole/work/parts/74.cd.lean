/-! ===== FieldSorter.clearDraft over the stretch of cells (written by gen/gcd.py) ===== -/
def dLow (cs : Nat → ClassId) : va_E := (.inl (cs 0, 4, .inl (upd (upd (upd (upd (fun _ => 0) 0 (Int32.ofInt 0)) 1 (Int32.ofInt 0)) 2 (Int32.ofInt 0)) 3 (Int32.ofInt 0))) : va_E)
def dHigh (cs : Nat → ClassId) : va_E := (.inl (cs 0, 4, .inl (upd (upd (upd (upd (fun _ => 0) 0 (Int32.ofInt 63)) 1 (Int32.ofInt 63)) 2 (Int32.ofInt 63)) 3 (Int32.ofInt 3))) : va_E)
set_option maxRecDepth 100000 in
set_option maxHeartbeats 3000000 in
theorem gK_clearDraft {D : va_G} {cs : Nat → ClassId} {b : Nat} {ad : Int → Nat} {pre R : List va_E} {fs : List Value} (hA : gad b ad) (hj : pre.length + 1 + R.length + 1 < 1000) (hf6 : fs[6]? = some (.ref (b + (pre.length + 1 + R.length)))) (hf7 : fs[7]? = some (.ref (b + (pre.length + 1 + (R.length + 1))))) : gC D cs b ad mX6_clearDraft (fs_rm 0) [.inr (pre.length : Int)] (pre ++ .inr (6, fs) :: (R ++ [(.inl (cs 0, 4, .inl (fun _ => 0)) : va_E), (.inl (cs 0, 4, .inl (fun _ => 0)) : va_E), (.inl (cs 0, 4, .inl (fun _ => 0)) : va_E)])) (pre ++ .inr (6, fs) :: (R ++ [dLow cs, dHigh cs, (.inl (cs 0, 4, .inl (fun _ => 0)) : va_E)])) := by
  refine gC.intro [some (.inr (pre.length : Int)), none] fs_oX6_clearDraft (Nat.le_of_ble_eq_true rfl) rfl ?_
  refine gr_iconst 1 dX6_clearDraft_0 rfl ?_
  refine gr_istore_n 2 [_, _] dX6_clearDraft_1 rfl (Nat.le_of_ble_eq_true rfl) rfl ?_
  refine gr_iload_n 3 dX6_clearDraft_2 rfl rfl ?_
  refine gr_iconst 4 dX6_clearDraft_3 rfl ?_
  refine gr_icmp_ge 31 7 dX6_clearDraft_4 rfl rfl (by decide) (by decide) (fun z => absurd z (by decide)) (fun _ => ?_)
  refine gr_aload_n 8 dX6_clearDraft_7 rfl rfl ?_
  refine gr_getr 11 (pre.length + 1 + R.length) hA dX6_clearDraft_8 rfl fs_kX6_57 (by omega) (by omega) rfl hf6 ?_
  refine gr_iload_n 12 dX6_clearDraft_11 rfl rfl ?_
  refine gr_iconst 13 dX6_clearDraft_12 rfl ?_
  refine gr_iast 14 R.length 0 (pre.length + 1 + R.length) (N := 4) (f := fun _ => 0) (rest2 := (R ++ [(.inl (cs 0, 4, .inl (upd (fun _ => 0) 0 (Int32.ofInt 0))) : va_E), (.inl (cs 0, 4, .inl (fun _ => 0)) : va_E), (.inl (cs 0, 4, .inl (fun _ => 0)) : va_E)])) hA dX6_clearDraft_13 rfl (by simp) (by decide) (by decide) rfl (by omega) (by simp) ?_
  refine gr_aload_n 15 dX6_clearDraft_14 rfl rfl ?_
  refine gr_getr 18 (pre.length + 1 + (R.length + 1)) hA dX6_clearDraft_15 rfl fs_kX6_61 (by omega) (by omega) rfl hf7 ?_
  refine gr_iload_n 19 dX6_clearDraft_18 rfl rfl ?_
  refine gr_gets 22 0 dX6_clearDraft_19 rfl rfl rfl fs_kX6_263 ?_
  refine gr_iload_n 23 dX6_clearDraft_22 rfl rfl ?_
  refine gr_ialdS 24 0 dX6_clearDraft_23 rfl rfl rfl (by decide) (by decide) (v := 63) rfl ?_
  refine gr_iast 25 (R.length + 1) 0 (pre.length + 1 + (R.length + 1)) (N := 4) (f := fun _ => 0) (rest2 := (R ++ [(.inl (cs 0, 4, .inl (upd (fun _ => 0) 0 (Int32.ofInt 0))) : va_E), (.inl (cs 0, 4, .inl (upd (fun _ => 0) 0 (Int32.ofInt 63))) : va_E), (.inl (cs 0, 4, .inl (fun _ => 0)) : va_E)])) hA dX6_clearDraft_24 rfl (by simp) (by decide) (by decide) rfl (by omega) (by simp) ?_
  refine gr_iinc 28 [_, _] dX6_clearDraft_25 rfl rfl rfl ?_
  refine gr_goto 2 dX6_clearDraft_28 rfl ?_
  refine gr_iload_n 3 dX6_clearDraft_2 rfl rfl ?_
  refine gr_iconst 4 dX6_clearDraft_3 rfl ?_
  refine gr_icmp_ge 31 7 dX6_clearDraft_4 rfl rfl (by decide) (by decide) (fun z => absurd z (by decide)) (fun _ => ?_)
  refine gr_aload_n 8 dX6_clearDraft_7 rfl rfl ?_
  refine gr_getr 11 (pre.length + 1 + R.length) hA dX6_clearDraft_8 rfl fs_kX6_57 (by omega) (by omega) rfl hf6 ?_
  refine gr_iload_n 12 dX6_clearDraft_11 rfl rfl ?_
  refine gr_iconst 13 dX6_clearDraft_12 rfl ?_
  refine gr_iast 14 R.length 1 (pre.length + 1 + R.length) (N := 4) (f := upd (fun _ => 0) 0 (Int32.ofInt 0)) (rest2 := (R ++ [(.inl (cs 0, 4, .inl (upd (upd (fun _ => 0) 0 (Int32.ofInt 0)) 1 (Int32.ofInt 0))) : va_E), (.inl (cs 0, 4, .inl (upd (fun _ => 0) 0 (Int32.ofInt 63))) : va_E), (.inl (cs 0, 4, .inl (fun _ => 0)) : va_E)])) hA dX6_clearDraft_13 rfl (by simp) (by decide) (by decide) rfl (by omega) (by simp) ?_
  refine gr_aload_n 15 dX6_clearDraft_14 rfl rfl ?_
  refine gr_getr 18 (pre.length + 1 + (R.length + 1)) hA dX6_clearDraft_15 rfl fs_kX6_61 (by omega) (by omega) rfl hf7 ?_
  refine gr_iload_n 19 dX6_clearDraft_18 rfl rfl ?_
  refine gr_gets 22 0 dX6_clearDraft_19 rfl rfl rfl fs_kX6_263 ?_
  refine gr_iload_n 23 dX6_clearDraft_22 rfl rfl ?_
  refine gr_ialdS 24 0 dX6_clearDraft_23 rfl rfl rfl (by decide) (by decide) (v := 63) rfl ?_
  refine gr_iast 25 (R.length + 1) 1 (pre.length + 1 + (R.length + 1)) (N := 4) (f := upd (fun _ => 0) 0 (Int32.ofInt 63)) (rest2 := (R ++ [(.inl (cs 0, 4, .inl (upd (upd (fun _ => 0) 0 (Int32.ofInt 0)) 1 (Int32.ofInt 0))) : va_E), (.inl (cs 0, 4, .inl (upd (upd (fun _ => 0) 0 (Int32.ofInt 63)) 1 (Int32.ofInt 63))) : va_E), (.inl (cs 0, 4, .inl (fun _ => 0)) : va_E)])) hA dX6_clearDraft_24 rfl (by simp) (by decide) (by decide) rfl (by omega) (by simp) ?_
  refine gr_iinc 28 [_, _] dX6_clearDraft_25 rfl rfl rfl ?_
  refine gr_goto 2 dX6_clearDraft_28 rfl ?_
  refine gr_iload_n 3 dX6_clearDraft_2 rfl rfl ?_
  refine gr_iconst 4 dX6_clearDraft_3 rfl ?_
  refine gr_icmp_ge 31 7 dX6_clearDraft_4 rfl rfl (by decide) (by decide) (fun z => absurd z (by decide)) (fun _ => ?_)
  refine gr_aload_n 8 dX6_clearDraft_7 rfl rfl ?_
  refine gr_getr 11 (pre.length + 1 + R.length) hA dX6_clearDraft_8 rfl fs_kX6_57 (by omega) (by omega) rfl hf6 ?_
  refine gr_iload_n 12 dX6_clearDraft_11 rfl rfl ?_
  refine gr_iconst 13 dX6_clearDraft_12 rfl ?_
  refine gr_iast 14 R.length 2 (pre.length + 1 + R.length) (N := 4) (f := upd (upd (fun _ => 0) 0 (Int32.ofInt 0)) 1 (Int32.ofInt 0)) (rest2 := (R ++ [(.inl (cs 0, 4, .inl (upd (upd (upd (fun _ => 0) 0 (Int32.ofInt 0)) 1 (Int32.ofInt 0)) 2 (Int32.ofInt 0))) : va_E), (.inl (cs 0, 4, .inl (upd (upd (fun _ => 0) 0 (Int32.ofInt 63)) 1 (Int32.ofInt 63))) : va_E), (.inl (cs 0, 4, .inl (fun _ => 0)) : va_E)])) hA dX6_clearDraft_13 rfl (by simp) (by decide) (by decide) rfl (by omega) (by simp) ?_
  refine gr_aload_n 15 dX6_clearDraft_14 rfl rfl ?_
  refine gr_getr 18 (pre.length + 1 + (R.length + 1)) hA dX6_clearDraft_15 rfl fs_kX6_61 (by omega) (by omega) rfl hf7 ?_
  refine gr_iload_n 19 dX6_clearDraft_18 rfl rfl ?_
  refine gr_gets 22 0 dX6_clearDraft_19 rfl rfl rfl fs_kX6_263 ?_
  refine gr_iload_n 23 dX6_clearDraft_22 rfl rfl ?_
  refine gr_ialdS 24 0 dX6_clearDraft_23 rfl rfl rfl (by decide) (by decide) (v := 63) rfl ?_
  refine gr_iast 25 (R.length + 1) 2 (pre.length + 1 + (R.length + 1)) (N := 4) (f := upd (upd (fun _ => 0) 0 (Int32.ofInt 63)) 1 (Int32.ofInt 63)) (rest2 := (R ++ [(.inl (cs 0, 4, .inl (upd (upd (upd (fun _ => 0) 0 (Int32.ofInt 0)) 1 (Int32.ofInt 0)) 2 (Int32.ofInt 0))) : va_E), (.inl (cs 0, 4, .inl (upd (upd (upd (fun _ => 0) 0 (Int32.ofInt 63)) 1 (Int32.ofInt 63)) 2 (Int32.ofInt 63))) : va_E), (.inl (cs 0, 4, .inl (fun _ => 0)) : va_E)])) hA dX6_clearDraft_24 rfl (by simp) (by decide) (by decide) rfl (by omega) (by simp) ?_
  refine gr_iinc 28 [_, _] dX6_clearDraft_25 rfl rfl rfl ?_
  refine gr_goto 2 dX6_clearDraft_28 rfl ?_
  refine gr_iload_n 3 dX6_clearDraft_2 rfl rfl ?_
  refine gr_iconst 4 dX6_clearDraft_3 rfl ?_
  refine gr_icmp_ge 31 7 dX6_clearDraft_4 rfl rfl (by decide) (by decide) (fun z => absurd z (by decide)) (fun _ => ?_)
  refine gr_aload_n 8 dX6_clearDraft_7 rfl rfl ?_
  refine gr_getr 11 (pre.length + 1 + R.length) hA dX6_clearDraft_8 rfl fs_kX6_57 (by omega) (by omega) rfl hf6 ?_
  refine gr_iload_n 12 dX6_clearDraft_11 rfl rfl ?_
  refine gr_iconst 13 dX6_clearDraft_12 rfl ?_
  refine gr_iast 14 R.length 3 (pre.length + 1 + R.length) (N := 4) (f := upd (upd (upd (fun _ => 0) 0 (Int32.ofInt 0)) 1 (Int32.ofInt 0)) 2 (Int32.ofInt 0)) (rest2 := (R ++ [(.inl (cs 0, 4, .inl (upd (upd (upd (upd (fun _ => 0) 0 (Int32.ofInt 0)) 1 (Int32.ofInt 0)) 2 (Int32.ofInt 0)) 3 (Int32.ofInt 0))) : va_E), (.inl (cs 0, 4, .inl (upd (upd (upd (fun _ => 0) 0 (Int32.ofInt 63)) 1 (Int32.ofInt 63)) 2 (Int32.ofInt 63))) : va_E), (.inl (cs 0, 4, .inl (fun _ => 0)) : va_E)])) hA dX6_clearDraft_13 rfl (by simp) (by decide) (by decide) rfl (by omega) (by simp) ?_
  refine gr_aload_n 15 dX6_clearDraft_14 rfl rfl ?_
  refine gr_getr 18 (pre.length + 1 + (R.length + 1)) hA dX6_clearDraft_15 rfl fs_kX6_61 (by omega) (by omega) rfl hf7 ?_
  refine gr_iload_n 19 dX6_clearDraft_18 rfl rfl ?_
  refine gr_gets 22 0 dX6_clearDraft_19 rfl rfl rfl fs_kX6_263 ?_
  refine gr_iload_n 23 dX6_clearDraft_22 rfl rfl ?_
  refine gr_ialdS 24 0 dX6_clearDraft_23 rfl rfl rfl (by decide) (by decide) (v := 3) rfl ?_
  refine gr_iast 25 (R.length + 1) 3 (pre.length + 1 + (R.length + 1)) (N := 4) (f := upd (upd (upd (fun _ => 0) 0 (Int32.ofInt 63)) 1 (Int32.ofInt 63)) 2 (Int32.ofInt 63)) (rest2 := (R ++ [(.inl (cs 0, 4, .inl (upd (upd (upd (upd (fun _ => 0) 0 (Int32.ofInt 0)) 1 (Int32.ofInt 0)) 2 (Int32.ofInt 0)) 3 (Int32.ofInt 0))) : va_E), (.inl (cs 0, 4, .inl (upd (upd (upd (upd (fun _ => 0) 0 (Int32.ofInt 63)) 1 (Int32.ofInt 63)) 2 (Int32.ofInt 63)) 3 (Int32.ofInt 3))) : va_E), (.inl (cs 0, 4, .inl (fun _ => 0)) : va_E)])) hA dX6_clearDraft_24 rfl (by simp) (by decide) (by decide) rfl (by omega) (by simp) ?_
  refine gr_iinc 28 [_, _] dX6_clearDraft_25 rfl rfl rfl ?_
  refine gr_goto 2 dX6_clearDraft_28 rfl ?_
  refine gr_iload_n 3 dX6_clearDraft_2 rfl rfl ?_
  refine gr_iconst 4 dX6_clearDraft_3 rfl ?_
  refine gr_icmp_ge 31 7 dX6_clearDraft_4 rfl rfl (by decide) (by decide) (fun _ => ?_) (fun z => absurd z (by decide))
  exact gr_vret dX6_clearDraft_31 rfl rfl rfl
