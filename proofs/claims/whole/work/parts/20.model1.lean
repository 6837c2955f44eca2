set_option maxRecDepth 100000 in
set_option maxHeartbeats 4000000 in
theorem cM_takersOf {σ : fs_S} {t : rt} {f a b : Int} (hw : twf t) (hR : RM σ t) (hO : ∀ p, 0 ≤ p → p < tn t → σ 5 p = tod t p) (hf : 0 ≤ f ∧ f < 4) (ha : -2147483648 ≤ a ∧ a < 2147483648) (hb : -2147483648 ≤ b ∧ b < 2147483648) : fs_C mX7_takersOf 0 [.inr 0, .inl f, .inl a, .inl b] σ (fun r τ => r = some ((tkm t f a b : Nat) : Int) ∧ τ = σ) := by
  refine fs_C.intro [some (.inr 0), some (.inl f), some (.inl a), some (.inl b), none, none, none] fs_oX7_takersOf (Nat.le_of_ble_eq_true rfl) rfl ?_
  have hn := hw.1
  have hm := hR.1
  have key : ∀ (m : Nat) (k : Int) (x6 : Option fs_V), 0 ≤ k → k ≤ tn t → tn t - k < m → fs_W (fs_Γ 0 (fun r τ => r = some ((tkm t f a b : Nat) : Int) ∧ τ = σ)) mX7_takersOf 6 [some (.inr 0), some (.inl f), some (.inl a), some (.inl b), some (.inl ((bm (tkP t f a b) k.toNat : Nat) : Int)), some (.inl k), x6] [] σ := by
    intro m
    induction m with
    | zero => intro k x6 h0 h1 h2; omega
    | succ m ih =>
      intro k x6 h0 h1 h2
      refine fr_iload 8 dX7_takersOf_6 rfl rfl ?_
      refine fr_aload_n 9 dX7_takersOf_8 rfl rfl ?_
      refine fr_geti 12 0 dX7_takersOf_9 rfl fs_kX7_104 rfl fs_l0 rfl ?_
      refine fr_icmp_ge 69 15 dX7_takersOf_12 rfl rfl (by omega) (by omega) (fun h12 => ?_) (fun h12 => ?_)
      · refine fr_iload 71 dX7_takersOf_69 rfl rfl ?_
        refine fr_iret dX7_takersOf_71 rfl ?_
        exact ⟨by rw [show k = tn t by omega]; rfl, rfl⟩
      · have hod := tod_r (t := t) h0 (by omega)
        have hlo := hw.2.1 (tod t k) f hod.1 hod.2.1 hf.1 hf.2
        have hg := gr_r f
        refine fr_iconst 16 dX7_takersOf_15 rfl ?_
        refine fr_aload_n 17 dX7_takersOf_16 rfl rfl ?_
        refine fr_getr 20 5 dX7_takersOf_17 rfl fs_kX7_29 fs_l0 rfl ?_
        refine fr_iload 22 dX7_takersOf_20 rfl rfl ?_
        refine fr_iald 23 dX7_takersOf_22 rfl fs_l5 (by omega) ?_
        refine fr_top (hO k h0 (by omega)) ?_
        refine fr_imul 24 dX7_takersOf_23 rfl ?_
        refine fr_iload_n 25 dX7_takersOf_24 rfl rfl ?_
        refine fr_iadd 26 dX7_takersOf_25 rfl ?_
        refine fr_istore 28 [_, _, _, _, _, _, _] dX7_takersOf_26 rfl (Nat.le_of_ble_eq_true rfl) rfl ?_
        refine fr_iload 30 dX7_takersOf_28 rfl rfl ?_
        refine fr_aload_n 31 dX7_takersOf_30 rfl rfl ?_
        refine fr_getr 34 1 dX7_takersOf_31 rfl fs_kX7_7 fs_l0 rfl ?_
        refine fr_iload 36 dX7_takersOf_34 rfl rfl ?_
        refine fr_iald 37 dX7_takersOf_36 rfl fs_l1 (by omega) ?_
        refine fr_top (hR.2.1 _ f hod.1 hod.2.1 hf.1 hf.2).1 ?_
        refine fr_iload_n 38 dX7_takersOf_37 rfl rfl ?_
        refine fr_icmp_gt 59 41 dX7_takersOf_38 rfl rfl (by omega) (by omega) (fun h38 => ?_) (fun h38 => ?_)
        · refine fr_iconst 60 dX7_takersOf_59 rfl ?_
          refine fr_ior 61 dX7_takersOf_60 rfl ?_
          refine fr_top (y := ((bm (tkP t f a b) (k + 1).toNat : Nat) : Int)) (by first | exact bmI_t h0 (by omega) (decide_eq_true (by omega)) | exact bmI_f h0 (by omega) (decide_eq_false (by omega))) ?_
          refine fr_istore 63 [_, _, _, _, _, _, _] dX7_takersOf_61 rfl (Nat.le_of_ble_eq_true rfl) rfl ?_
          refine fr_iinc 66 [_, _, _, _, _, _, _] dX7_takersOf_63 rfl rfl rfl ?_
          refine fr_goto 6 dX7_takersOf_66 rfl ?_
          exact ih (k + 1) _ (by omega) (by omega) (by omega)
        · refine fr_aload_n 42 dX7_takersOf_41 rfl rfl ?_
          refine fr_getr 45 2 dX7_takersOf_42 rfl fs_kX7_13 fs_l0 rfl ?_
          refine fr_iload 47 dX7_takersOf_45 rfl rfl ?_
          refine fr_iald 48 dX7_takersOf_47 rfl fs_l2 (by omega) ?_
          refine fr_top (hR.2.1 _ f hod.1 hod.2.1 hf.1 hf.2).2 ?_
          refine fr_iload_n 49 dX7_takersOf_48 rfl rfl ?_
          refine fr_icmp_lt 59 52 dX7_takersOf_49 rfl rfl (by omega) (by omega) (fun h49 => ?_) (fun h49 => ?_)
          · refine fr_iconst 60 dX7_takersOf_59 rfl ?_
            refine fr_ior 61 dX7_takersOf_60 rfl ?_
            refine fr_top (y := ((bm (tkP t f a b) (k + 1).toNat : Nat) : Int)) (by first | exact bmI_t h0 (by omega) (decide_eq_true (by omega)) | exact bmI_f h0 (by omega) (decide_eq_false (by omega))) ?_
            refine fr_istore 63 [_, _, _, _, _, _, _] dX7_takersOf_61 rfl (Nat.le_of_ble_eq_true rfl) rfl ?_
            refine fr_iinc 66 [_, _, _, _, _, _, _] dX7_takersOf_63 rfl rfl rfl ?_
            refine fr_goto 6 dX7_takersOf_66 rfl ?_
            exact ih (k + 1) _ (by omega) (by omega) (by omega)
          · refine fr_iconst 53 dX7_takersOf_52 rfl ?_
            refine fr_iload 55 dX7_takersOf_53 rfl rfl ?_
            refine fr_ishl 56 dX7_takersOf_55 rfl ?_
            refine fr_goto 60 dX7_takersOf_56 rfl ?_
            refine fr_ior 61 dX7_takersOf_60 rfl ?_
            refine fr_top (y := ((bm (tkP t f a b) (k + 1).toNat : Nat) : Int)) (by first | exact bmI_t h0 (by omega) (decide_eq_true (by omega)) | exact bmI_f h0 (by omega) (decide_eq_false (by omega))) ?_
            refine fr_istore 63 [_, _, _, _, _, _, _] dX7_takersOf_61 rfl (Nat.le_of_ble_eq_true rfl) rfl ?_
            refine fr_iinc 66 [_, _, _, _, _, _, _] dX7_takersOf_63 rfl rfl rfl ?_
            refine fr_goto 6 dX7_takersOf_66 rfl ?_
            exact ih (k + 1) _ (by omega) (by omega) (by omega)
  refine fr_iconst 1 dX7_takersOf_0 rfl ?_
  refine fr_istore 3 [_, _, _, _, _, _, _] dX7_takersOf_1 rfl (Nat.le_of_ble_eq_true rfl) rfl ?_
  refine fr_iconst 4 dX7_takersOf_3 rfl ?_
  refine fr_istore 6 [_, _, _, _, _, _, _] dX7_takersOf_4 rfl (Nat.le_of_ble_eq_true rfl) rfl ?_
  exact key ((tn t).toNat + 1) 0 _ (by omega) (by omega) (by omega)
