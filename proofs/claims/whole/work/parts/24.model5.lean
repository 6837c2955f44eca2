/-! ===== the model: told, overlap, covered ===== -/
set_option maxRecDepth 100000 in
set_option maxHeartbeats 1500000 in
theorem cM_told {σ : fs_S} {t : rt} {r w : Int} (hw : twf t) (hR : RM σ t) (hr : rg r) (hww : rg w) : fs_C mX7_told 2 [.inr 0, .inl r, .inl w] σ (fun x τ => x = some (aTold t r w) ∧ τ = σ) := by
  refine fs_C.intro [some (.inr 0), some (.inl r), some (.inl w), none] fs_oX7_told (Nat.le_of_ble_eq_true rfl) rfl ?_
  have hn := hw.1
  refine fr_aload_n 1 dX7_told_0 rfl rfl ?_
  refine fr_iload_n 2 dX7_told_1 rfl rfl ?_
  refine fr_callVi 5 (M2 := mX7_isRule) [_] dX7_told_2 rfl fs_mX7_134 fs_oX7_isRule fs_iX7_isRule fs_l0 rfl rfl (fs_Γ_rm (d := 1) (by decide)) (Nat.le_of_ble_eq_true rfl) rfl ?_
  refine (cM_isRule hR.1 hn hr).ci ?_
  refine fr_if_ne 10 8 dX7_told_5 rfl rfl (by omega) (fun h5 => ?_) (fun h5 => ?_)
  · refine fr_iload_n 11 dX7_told_10 rfl rfl ?_
    refine fr_bipush 13 dX7_told_11 rfl (by decide) ?_
    refine fr_bipush 15 dX7_told_13 rfl (by decide) ?_
    refine fr_callSi 18 (M2 := mX7_in) [_, _, _] dX7_told_15 rfl fs_mX7_100 fs_oX7_in fs_sX7_in rfl (fs_Γ_rm (d := 0) (by decide)) (Nat.le_of_ble_eq_true rfl) rfl ?_
    refine (cM_in hww (by decide) (by decide)).ci ?_
    refine fr_if_eq 54 21 dX7_told_18 rfl rfl (by omega) (fun h18 => ?_) (fun h18 => ?_)
    · refine fr_iload_n 55 dX7_told_54 rfl rfl ?_
      refine fr_if_ne 67 58 dX7_told_55 rfl rfl (by omega) (fun h55 => ?_) (fun h55 => ?_)
      · refine fr_iload_n 68 dX7_told_67 rfl rfl ?_
        refine fr_iconst 69 dX7_told_68 rfl ?_
        refine fr_icmp_ne 81 72 dX7_told_69 rfl rfl (by omega) (by omega) (fun h69 => ?_) (fun h69 => ?_)
        · refine fr_iload_n 82 dX7_told_81 rfl rfl ?_
          refine fr_iconst 83 dX7_told_82 rfl ?_
          refine fr_icmp_ne 94 86 dX7_told_83 rfl rfl (by omega) (by omega) (fun h83 => ?_) (fun h83 => ?_)
          · refine fr_bipush 96 dX7_told_94 rfl (by decide) ?_
            refine fr_iret dX7_told_96 rfl ?_
            have q := hR.2.2 r (by omega) (by omega)
            refine ⟨congrArg some ?_, rfl⟩
            unfold aTold
            rw [if_pos (by omega), if_neg (by omega)]
            first
            | (rw [if_pos (by omega)]; exact q.1)
            | (rw [if_neg (by omega), if_pos (by omega)]; exact q.2)
            | (rw [if_neg (by omega), if_neg (by omega), if_pos (by omega)])
            | (rw [if_neg (by omega), if_neg (by omega), if_neg (by omega)])
          · refine fr_aload_n 87 dX7_told_86 rfl rfl ?_
            refine fr_iload_n 88 dX7_told_87 rfl rfl ?_
            refine fr_callVi 91 (M2 := mX7_aheadOf) [_] dX7_told_88 rfl fs_mX7_140 fs_oX7_aheadOf fs_iX7_aheadOf fs_l0 rfl rfl (fs_Γ_rm (d := 1) (by decide)) (Nat.le_of_ble_eq_true rfl) rfl ?_
            refine (cM_aheadOf hw hR (by omega) (by omega)).ci ?_
            refine fr_goto 96 dX7_told_91 rfl ?_
            refine fr_iret dX7_told_96 rfl ?_
            have q := hR.2.2 r (by omega) (by omega)
            refine ⟨congrArg some ?_, rfl⟩
            unfold aTold
            rw [if_pos (by omega), if_neg (by omega)]
            first
            | (rw [if_pos (by omega)]; exact q.1)
            | (rw [if_neg (by omega), if_pos (by omega)]; exact q.2)
            | (rw [if_neg (by omega), if_neg (by omega), if_pos (by omega)])
            | (rw [if_neg (by omega), if_neg (by omega), if_neg (by omega)])
        · refine fr_aload_n 73 dX7_told_72 rfl rfl ?_
          refine fr_getr 76 4 dX7_told_73 rfl fs_kX7_19 fs_l0 rfl ?_
          refine fr_iload_n 77 dX7_told_76 rfl rfl ?_
          refine fr_iald 78 dX7_told_77 rfl fs_l4 (by omega) ?_
          refine fr_goto 96 dX7_told_78 rfl ?_
          refine fr_iret dX7_told_96 rfl ?_
          have q := hR.2.2 r (by omega) (by omega)
          refine ⟨congrArg some ?_, rfl⟩
          unfold aTold
          rw [if_pos (by omega), if_neg (by omega)]
          first
          | (rw [if_pos (by omega)]; exact q.1)
          | (rw [if_neg (by omega), if_pos (by omega)]; exact q.2)
          | (rw [if_neg (by omega), if_neg (by omega), if_pos (by omega)])
          | (rw [if_neg (by omega), if_neg (by omega), if_neg (by omega)])
      · refine fr_aload_n 59 dX7_told_58 rfl rfl ?_
        refine fr_getr 62 3 dX7_told_59 rfl fs_kX7_16 fs_l0 rfl ?_
        refine fr_iload_n 63 dX7_told_62 rfl rfl ?_
        refine fr_iald 64 dX7_told_63 rfl fs_l3 (by omega) ?_
        refine fr_goto 96 dX7_told_64 rfl ?_
        refine fr_iret dX7_told_96 rfl ?_
        have q := hR.2.2 r (by omega) (by omega)
        refine ⟨congrArg some ?_, rfl⟩
        unfold aTold
        rw [if_pos (by omega), if_neg (by omega)]
        first
        | (rw [if_pos (by omega)]; exact q.1)
        | (rw [if_neg (by omega), if_pos (by omega)]; exact q.2)
        | (rw [if_neg (by omega), if_neg (by omega), if_pos (by omega)])
        | (rw [if_neg (by omega), if_neg (by omega), if_neg (by omega)])
    · refine fr_iconst 22 dX7_told_21 rfl ?_
      refine fr_iload_n 23 dX7_told_22 rfl rfl ?_
      refine fr_imul 24 dX7_told_23 rfl ?_
      refine fr_iload_n 25 dX7_told_24 rfl rfl ?_
      refine fr_bipush 27 dX7_told_25 rfl (by decide) ?_
      refine fr_isub 28 dX7_told_27 rfl ?_
      refine fr_iconst 29 dX7_told_28 rfl ?_
      refine fr_idiv 30 dX7_told_29 rfl (by omega) (by omega) ?_
      refine fr_iadd 31 dX7_told_30 rfl ?_
      refine fr_istore_n 32 [_, _, _, _] dX7_told_31 rfl (Nat.le_of_ble_eq_true rfl) rfl ?_
      refine fr_iload_n 33 dX7_told_32 rfl rfl ?_
      refine fr_iconst 34 dX7_told_33 rfl ?_
      refine fr_irem 35 dX7_told_34 rfl (by omega) (by omega) ?_
      refine fr_if_ne 47 38 dX7_told_35 rfl rfl (by omega) (fun h35 => ?_) (fun h35 => ?_)
      · refine fr_aload_n 48 dX7_told_47 rfl rfl ?_
        refine fr_getr 51 2 dX7_told_48 rfl fs_kX7_13 fs_l0 rfl ?_
        refine fr_iload_n 52 dX7_told_51 rfl rfl ?_
        refine fr_iald 53 dX7_told_52 rfl fs_l2 (by omega) ?_
        refine fr_iret dX7_told_53 rfl ?_
        have q := hR.2.1 r ((w - 10) / 2) (by omega) (by omega) (by omega) (by omega)
        refine ⟨congrArg some ?_, rfl⟩
        unfold aTold
        rw [if_pos (by omega), if_pos (by omega)]
        first
        | (rw [if_pos (by omega)]; exact q.1)
        | (rw [if_neg (by omega)]; exact q.2)
      · refine fr_aload_n 39 dX7_told_38 rfl rfl ?_
        refine fr_getr 42 1 dX7_told_39 rfl fs_kX7_7 fs_l0 rfl ?_
        refine fr_iload_n 43 dX7_told_42 rfl rfl ?_
        refine fr_iald 44 dX7_told_43 rfl fs_l1 (by omega) ?_
        refine fr_goto 53 dX7_told_44 rfl ?_
        refine fr_iret dX7_told_53 rfl ?_
        have q := hR.2.1 r ((w - 10) / 2) (by omega) (by omega) (by omega) (by omega)
        refine ⟨congrArg some ?_, rfl⟩
        unfold aTold
        rw [if_pos (by omega), if_pos (by omega)]
        first
        | (rw [if_pos (by omega)]; exact q.1)
        | (rw [if_neg (by omega)]; exact q.2)
  · refine fr_iconst 9 dX7_told_8 rfl ?_
    refine fr_iret dX7_told_9 rfl ?_
    exact ⟨congrArg some (by unfold aTold; rw [if_neg (by omega)]), rfl⟩
set_option maxRecDepth 100000 in
set_option maxHeartbeats 1500000 in
theorem cM_overlap {σ : fs_S} {t : rt} {a b : Int} (hw : twf t) (hR : RM σ t) (ha : rg a) (hb : rg b) : fs_C mX7_overlap 2 [.inr 0, .inl a, .inl b] σ (fun x τ => x = some (aOverlap t a b) ∧ τ = σ) := by
  refine fs_C.intro [some (.inr 0), some (.inl a), some (.inl b), none, none, none, none] fs_oX7_overlap (Nat.le_of_ble_eq_true rfl) rfl ?_
  have hn := hw.1
  have kV : ∀ (m : Nat) (f v p : Int), (0 ≤ a ∧ a < tn t) → (0 ≤ b ∧ b < tn t) → 0 ≤ f → f < 4 → 0 ≤ v → v ≤ gr f + 1 → gr f + 1 - v < m →
      (∀ y, fs_W (fs_Γ 2 (fun x τ => x = some (aOverlap t a b) ∧ τ = σ)) mX7_overlap 121 [some (.inr 0), some (.inl a), some (.inl b), some (.inl p), some (.inl f), some (.inl (tsh t a b f)), y] [] σ) →
      fs_W (fs_Γ 2 (fun x τ => x = some (aOverlap t a b) ∧ τ = σ)) mX7_overlap 35 [some (.inr 0), some (.inl a), some (.inl b), some (.inl p), some (.inl f), some (.inl (max 0 (min (min (thi t a f) (thi t b f)) (v - 1) - max (tlo t a f) (tlo t b f) + 1))), some (.inl v)] [] σ := by
    intro m
    induction m with
    | zero => intro f v p hA hB h0 h1 h2 h3 h4; omega
    | succ m ih =>
      intro f v p hA hB h0 h1 h2 h3 h4 kk
      have hg := gr_r f
      have qa := hw.2.1 a f hA.1 hA.2 h0 h1
      have qb := hw.2.1 b f hB.1 hB.2 h0 h1
      have ea := hR.2.1 a f hA.1 hA.2 h0 h1
      have eb := hR.2.1 b f hB.1 hB.2 h0 h1
      refine fr_iload 37 dX7_overlap_35 rfl rfl ?_
      refine fr_iload 39 dX7_overlap_37 rfl rfl ?_
      refine fr_callSi 42 (M2 := mX7_most) [_] dX7_overlap_39 rfl fs_mX7_124 fs_oX7_most fs_sX7_most rfl (fs_Γ_rm (d := 1) (by decide)) (Nat.le_of_ble_eq_true rfl) rfl ?_
      refine (cM_most (by omega)).ci ?_
      refine fr_icmp_gt 121 45 dX7_overlap_42 rfl rfl (by omega) (by omega) (fun h42 => ?_) (fun h42 => ?_)
      · have e : max 0 (min (min (thi t a f) (thi t b f)) (v - 1) - max (tlo t a f) (tlo t b f) + 1) = tsh t a b f := by unfold tsh; omega
        rw [e]
        exact kk _
      · refine fr_iload 47 dX7_overlap_45 rfl rfl ?_
        refine fr_iload 49 dX7_overlap_47 rfl rfl ?_
        refine fr_aload_n 50 dX7_overlap_49 rfl rfl ?_
        refine fr_getr 53 1 dX7_overlap_50 rfl fs_kX7_7 fs_l0 rfl ?_
        refine fr_iconst 54 dX7_overlap_53 rfl ?_
        refine fr_iload_n 55 dX7_overlap_54 rfl rfl ?_
        refine fr_imul 56 dX7_overlap_55 rfl ?_
        refine fr_iload 58 dX7_overlap_56 rfl rfl ?_
        refine fr_iadd 59 dX7_overlap_58 rfl ?_
        refine fr_iald 60 dX7_overlap_59 rfl fs_l1 (by omega) ?_
        refine fr_aload_n 61 dX7_overlap_60 rfl rfl ?_
        refine fr_getr 64 2 dX7_overlap_61 rfl fs_kX7_13 fs_l0 rfl ?_
        refine fr_iconst 65 dX7_overlap_64 rfl ?_
        refine fr_iload_n 66 dX7_overlap_65 rfl rfl ?_
        refine fr_imul 67 dX7_overlap_66 rfl ?_
        refine fr_iload 69 dX7_overlap_67 rfl rfl ?_
        refine fr_iadd 70 dX7_overlap_69 rfl ?_
        refine fr_iald 71 dX7_overlap_70 rfl fs_l2 (by omega) ?_
        refine fr_callSi 74 (M2 := mX7_in) [_, _, _] dX7_overlap_71 rfl fs_mX7_100 fs_oX7_in fs_sX7_in rfl (fs_Γ_rm (d := 0) (by decide)) (Nat.le_of_ble_eq_true rfl) rfl ?_
        refine (cM_in (by omega) (by omega) (by omega)).ci ?_
        refine fr_if_eq 111 77 dX7_overlap_74 rfl rfl (by omega) (fun h74 => ?_) (fun h74 => ?_)
        · refine fr_iconst 112 dX7_overlap_111 rfl ?_
          refine fr_iadd 113 dX7_overlap_112 rfl ?_
          refine fr_top (y := max 0 (min (min (thi t a f) (thi t b f)) (v + 1 - 1) - max (tlo t a f) (tlo t b f) + 1)) (by omega) ?_
          refine fr_istore 115 [_, _, _, _, _, _, _] dX7_overlap_113 rfl (Nat.le_of_ble_eq_true rfl) rfl ?_
          refine fr_iinc 118 [_, _, _, _, _, _, _] dX7_overlap_115 rfl rfl rfl ?_
          refine fr_goto 35 dX7_overlap_118 rfl ?_
          exact ih f (v + 1) p hA hB h0 h1 (by omega) (by omega) (by omega) kk
        · refine fr_iload 79 dX7_overlap_77 rfl rfl ?_
          refine fr_aload_n 80 dX7_overlap_79 rfl rfl ?_
          refine fr_getr 83 1 dX7_overlap_80 rfl fs_kX7_7 fs_l0 rfl ?_
          refine fr_iconst 84 dX7_overlap_83 rfl ?_
          refine fr_iload_n 85 dX7_overlap_84 rfl rfl ?_
          refine fr_imul 86 dX7_overlap_85 rfl ?_
          refine fr_iload 88 dX7_overlap_86 rfl rfl ?_
          refine fr_iadd 89 dX7_overlap_88 rfl ?_
          refine fr_iald 90 dX7_overlap_89 rfl fs_l1 (by omega) ?_
          refine fr_aload_n 91 dX7_overlap_90 rfl rfl ?_
          refine fr_getr 94 2 dX7_overlap_91 rfl fs_kX7_13 fs_l0 rfl ?_
          refine fr_iconst 95 dX7_overlap_94 rfl ?_
          refine fr_iload_n 96 dX7_overlap_95 rfl rfl ?_
          refine fr_imul 97 dX7_overlap_96 rfl ?_
          refine fr_iload 99 dX7_overlap_97 rfl rfl ?_
          refine fr_iadd 100 dX7_overlap_99 rfl ?_
          refine fr_iald 101 dX7_overlap_100 rfl fs_l2 (by omega) ?_
          refine fr_callSi 104 (M2 := mX7_in) [_, _, _] dX7_overlap_101 rfl fs_mX7_100 fs_oX7_in fs_sX7_in rfl (fs_Γ_rm (d := 0) (by decide)) (Nat.le_of_ble_eq_true rfl) rfl ?_
          refine (cM_in (by omega) (by omega) (by omega)).ci ?_
          refine fr_if_eq 111 107 dX7_overlap_104 rfl rfl (by omega) (fun h104 => ?_) (fun h104 => ?_)
          · refine fr_iconst 112 dX7_overlap_111 rfl ?_
            refine fr_iadd 113 dX7_overlap_112 rfl ?_
            refine fr_top (y := max 0 (min (min (thi t a f) (thi t b f)) (v + 1 - 1) - max (tlo t a f) (tlo t b f) + 1)) (by omega) ?_
            refine fr_istore 115 [_, _, _, _, _, _, _] dX7_overlap_113 rfl (Nat.le_of_ble_eq_true rfl) rfl ?_
            refine fr_iinc 118 [_, _, _, _, _, _, _] dX7_overlap_115 rfl rfl rfl ?_
            refine fr_goto 35 dX7_overlap_118 rfl ?_
            exact ih f (v + 1) p hA hB h0 h1 (by omega) (by omega) (by omega) kk
          · refine fr_iconst 108 dX7_overlap_107 rfl ?_
            refine fr_goto 112 dX7_overlap_108 rfl ?_
            refine fr_iadd 113 dX7_overlap_112 rfl ?_
            refine fr_top (y := max 0 (min (min (thi t a f) (thi t b f)) (v + 1 - 1) - max (tlo t a f) (tlo t b f) + 1)) (by omega) ?_
            refine fr_istore 115 [_, _, _, _, _, _, _] dX7_overlap_113 rfl (Nat.le_of_ble_eq_true rfl) rfl ?_
            refine fr_iinc 118 [_, _, _, _, _, _, _] dX7_overlap_115 rfl rfl rfl ?_
            refine fr_goto 35 dX7_overlap_118 rfl ?_
            exact ih f (v + 1) p hA hB h0 h1 (by omega) (by omega) (by omega) kk
  have kF : ∀ (m : Nat) (f : Int) (y5 y6 : Option fs_V), (0 ≤ a ∧ a < tn t) → (0 ≤ b ∧ b < tn t) → 0 ≤ f → f ≤ 4 → 4 - f < m →
      fs_W (fs_Γ 2 (fun x τ => x = some (aOverlap t a b) ∧ τ = σ)) mX7_overlap 23 [some (.inr 0), some (.inl a), some (.inl b), some (.inl (prI (tsh t a b) f)), some (.inl f), y5, y6] [] σ := by
    intro m
    induction m with
    | zero => intro f y5 y6 hA hB h0 h1 h2; omega
    | succ m ih =>
      intro f y5 y6 hA hB h0 h1 h2
      have hg := gr_r f
      refine fr_iload 25 dX7_overlap_23 rfl rfl ?_
      refine fr_iconst 26 dX7_overlap_25 rfl ?_
      refine fr_icmp_ge 132 29 dX7_overlap_26 rfl rfl (by omega) (by omega) (fun h26 => ?_) (fun h26 => ?_)
      · refine fr_iload_n 133 dX7_overlap_132 rfl rfl ?_
        refine fr_iret dX7_overlap_133 rfl ?_
        exact ⟨congrArg some (by unfold aOverlap; rw [if_pos ⟨hA, hB⟩, show f = 4 by omega]), rfl⟩
      · refine fr_iconst 30 dX7_overlap_29 rfl ?_
        refine fr_istore 32 [_, _, _, _, _, _, _] dX7_overlap_30 rfl (Nat.le_of_ble_eq_true rfl) rfl ?_
        refine fr_iconst 33 dX7_overlap_32 rfl ?_
        refine fr_istore 35 [_, _, _, _, _, _, _] dX7_overlap_33 rfl (Nat.le_of_ble_eq_true rfl) rfl ?_
        have qa := hw.2.1 a f hA.1 hA.2 h0 (by omega)
        have qb := hw.2.1 b f hB.1 hB.2 h0 (by omega)
        have := kV ((gr f + 1).toNat + 1) f 0 (prI (tsh t a b) f) hA hB h0 (by omega) (by omega) (by omega) (by omega) (fun y => ?_)
        · rw [show max 0 (min (min (thi t a f) (thi t b f)) (0 - 1) - max (tlo t a f) (tlo t b f) + 1) = 0 by omega] at this
          exact this
        · show fs_W _ _ _ _ _ _
          refine fr_iload_n 122 dX7_overlap_121 rfl rfl ?_
          refine fr_iload 124 dX7_overlap_122 rfl rfl ?_
          refine fr_imul 125 dX7_overlap_124 rfl ?_
          refine fr_top (prI_s _ h0).symm ?_
          refine fr_istore_n 126 [_, _, _, _, _, _, _] dX7_overlap_125 rfl (Nat.le_of_ble_eq_true rfl) rfl ?_
          refine fr_iinc 129 [_, _, _, _, _, _, _] dX7_overlap_126 rfl rfl rfl ?_
          refine fr_goto 23 dX7_overlap_129 rfl ?_
          exact ih (f + 1) _ _ hA hB (by omega) (by omega) (by omega)
  refine fr_aload_n 1 dX7_overlap_0 rfl rfl ?_
  refine fr_iload_n 2 dX7_overlap_1 rfl rfl ?_
  refine fr_callVi 5 (M2 := mX7_isRule) [_] dX7_overlap_2 rfl fs_mX7_134 fs_oX7_isRule fs_iX7_isRule fs_l0 rfl rfl (fs_Γ_rm (d := 1) (by decide)) (Nat.le_of_ble_eq_true rfl) rfl ?_
  refine (cM_isRule hR.1 hn (by omega)).ci ?_
  refine fr_if_eq 16 8 dX7_overlap_5 rfl rfl (by omega) (fun h5 => ?_) (fun h5 => ?_)
  · refine fr_iconst 17 dX7_overlap_16 rfl ?_
    refine fr_iret dX7_overlap_17 rfl ?_
    exact ⟨congrArg some (by unfold aOverlap; rw [if_neg (by omega)]), rfl⟩
  · refine fr_aload_n 9 dX7_overlap_8 rfl rfl ?_
    refine fr_iload_n 10 dX7_overlap_9 rfl rfl ?_
    refine fr_callVi 13 (M2 := mX7_isRule) [_] dX7_overlap_10 rfl fs_mX7_134 fs_oX7_isRule fs_iX7_isRule fs_l0 rfl rfl (fs_Γ_rm (d := 1) (by decide)) (Nat.le_of_ble_eq_true rfl) rfl ?_
    refine (cM_isRule hR.1 hn (by omega)).ci ?_
    refine fr_if_ne 18 16 dX7_overlap_13 rfl rfl (by omega) (fun h13 => ?_) (fun h13 => ?_)
    · refine fr_iconst 19 dX7_overlap_18 rfl ?_
      refine fr_istore_n 20 [_, _, _, _, _, _, _] dX7_overlap_19 rfl (Nat.le_of_ble_eq_true rfl) rfl ?_
      refine fr_iconst 21 dX7_overlap_20 rfl ?_
      refine fr_istore 23 [_, _, _, _, _, _, _] dX7_overlap_21 rfl (Nat.le_of_ble_eq_true rfl) rfl ?_
      exact kF 5 0 _ _ (by omega) (by omega) (by omega) (by omega) (by omega)
    · refine fr_iconst 17 dX7_overlap_16 rfl ?_
      refine fr_iret dX7_overlap_17 rfl ?_
      exact ⟨congrArg some (by unfold aOverlap; rw [if_neg (by omega)]), rfl⟩
set_option maxRecDepth 100000 in
set_option maxHeartbeats 1500000 in
theorem cM_isWithin {σ : fs_S} {t : rt} {r o : Int} (hw : twf t) (hR : RM σ t) (hr : 0 ≤ r ∧ r < tn t) (ho : 0 ≤ o ∧ o < tn t) : fs_C mX7_isWithin 0 [.inr 0, .inl r, .inl o] σ (fun x τ => x = some (if twi t o r then 1 else 0) ∧ τ = σ) := by
  refine fs_C.intro [some (.inr 0), some (.inl r), some (.inl o), none, none] fs_oX7_isWithin (Nat.le_of_ble_eq_true rfl) rfl ?_
  have hn := hw.1
  have key : ∀ (m : Nat) (f v : Int), 0 ≤ f → f ≤ 4 → 4 - f < m → 0 ≤ tfl t o r f → v = (if tfl t o r f = 0 then 1 else 0) → fs_W (fs_Γ 0 (fun x τ => x = some (if twi t o r then 1 else 0) ∧ τ = σ)) mX7_isWithin 5 [some (.inr 0), some (.inl r), some (.inl o), some (.inl v), some (.inl f)] [] σ := by
    intro m
    induction m with
    | zero => intro f v h0 h1 h2; omega
    | succ m ih =>
      intro f v h0 h1 h2 h3 hv
      have hg := gr_r f
      refine fr_iload 7 dX7_isWithin_5 rfl rfl ?_
      refine fr_iconst 8 dX7_isWithin_7 rfl ?_
      refine fr_icmp_ge 77 11 dX7_isWithin_8 rfl rfl (by omega) (by omega) (fun h8 => ?_) (fun h8 => ?_)
      · refine fr_iload_n 78 dX7_isWithin_77 rfl rfl ?_
        refine fr_zret dX7_isWithin_78 rfl (by omega) ?_
        refine ⟨congrArg some ?_, rfl⟩
        rw [hv, show f = 4 by omega]
        unfold twi
        simp only [decide_eq_true_eq]
      · refine fr_iload_n 12 dX7_isWithin_11 rfl rfl ?_
        refine fr_if_eq 69 15 dX7_isWithin_12 rfl rfl (by omega) (fun h12 => ?_) (fun h12 => ?_)
        · refine fr_iconst 70 dX7_isWithin_69 rfl ?_
          refine fr_istore_n 71 [_, _, _, _, _] dX7_isWithin_70 rfl (Nat.le_of_ble_eq_true rfl) rfl ?_
          refine fr_iinc 74 [_, _, _, _, _] dX7_isWithin_71 rfl rfl rfl ?_
          refine fr_goto 5 dX7_isWithin_74 rfl ?_
          have es : tfl t o r (f + 1) = tfl t o r f + (if tin t o r f then 0 else 1) := smI_s _ h0
          have hrng : (if tin t o r f then (0 : Int) else 1) = 0 ∨ (if tin t o r f then (0 : Int) else 1) = 1 := by split <;> decide
          refine ih (f + 1) _ (by omega) (by omega) (by omega) (by omega) ?_
          rw [es]
          first
          | (rw [if_neg (by omega)])
          | (have h9 : tin t o r f = true := decide_eq_true (by omega)
             have h8 : (if tin t o r f then (0 : Int) else 1) = 0 := by rw [h9]; rfl
             rw [if_pos (by omega)])
          | (have h9 : tin t o r f = false := decide_eq_false (by omega)
             have h8 : (if tin t o r f then (0 : Int) else 1) = 1 := by rw [h9]; rfl
             rw [if_neg (by omega)])
        · have qr := hw.2.1 r f hr.1 hr.2 h0 (by omega)
          have qo := hw.2.1 o f ho.1 ho.2 h0 (by omega)
          have er := hR.2.1 r f hr.1 hr.2 h0 (by omega)
          have eo := hR.2.1 o f ho.1 ho.2 h0 (by omega)
          refine fr_aload_n 16 dX7_isWithin_15 rfl rfl ?_
          refine fr_getr 19 1 dX7_isWithin_16 rfl fs_kX7_7 fs_l0 rfl ?_
          refine fr_iconst 20 dX7_isWithin_19 rfl ?_
          refine fr_iload_n 21 dX7_isWithin_20 rfl rfl ?_
          refine fr_imul 22 dX7_isWithin_21 rfl ?_
          refine fr_iload 24 dX7_isWithin_22 rfl rfl ?_
          refine fr_iadd 25 dX7_isWithin_24 rfl ?_
          refine fr_iald 26 dX7_isWithin_25 rfl fs_l1 (by omega) ?_
          refine fr_aload_n 27 dX7_isWithin_26 rfl rfl ?_
          refine fr_getr 30 1 dX7_isWithin_27 rfl fs_kX7_7 fs_l0 rfl ?_
          refine fr_iconst 31 dX7_isWithin_30 rfl ?_
          refine fr_iload_n 32 dX7_isWithin_31 rfl rfl ?_
          refine fr_imul 33 dX7_isWithin_32 rfl ?_
          refine fr_iload 35 dX7_isWithin_33 rfl rfl ?_
          refine fr_iadd 36 dX7_isWithin_35 rfl ?_
          refine fr_iald 37 dX7_isWithin_36 rfl fs_l1 (by omega) ?_
          refine fr_icmp_gt 69 40 dX7_isWithin_37 rfl rfl (by omega) (by omega) (fun h37 => ?_) (fun h37 => ?_)
          · refine fr_iconst 70 dX7_isWithin_69 rfl ?_
            refine fr_istore_n 71 [_, _, _, _, _] dX7_isWithin_70 rfl (Nat.le_of_ble_eq_true rfl) rfl ?_
            refine fr_iinc 74 [_, _, _, _, _] dX7_isWithin_71 rfl rfl rfl ?_
            refine fr_goto 5 dX7_isWithin_74 rfl ?_
            have es : tfl t o r (f + 1) = tfl t o r f + (if tin t o r f then 0 else 1) := smI_s _ h0
            have hrng : (if tin t o r f then (0 : Int) else 1) = 0 ∨ (if tin t o r f then (0 : Int) else 1) = 1 := by split <;> decide
            refine ih (f + 1) _ (by omega) (by omega) (by omega) (by omega) ?_
            rw [es]
            first
            | (rw [if_neg (by omega)])
            | (have h9 : tin t o r f = true := decide_eq_true (by omega)
               have h8 : (if tin t o r f then (0 : Int) else 1) = 0 := by rw [h9]; rfl
               rw [if_pos (by omega)])
            | (have h9 : tin t o r f = false := decide_eq_false (by omega)
               have h8 : (if tin t o r f then (0 : Int) else 1) = 1 := by rw [h9]; rfl
               rw [if_neg (by omega)])
          · refine fr_aload_n 41 dX7_isWithin_40 rfl rfl ?_
            refine fr_getr 44 2 dX7_isWithin_41 rfl fs_kX7_13 fs_l0 rfl ?_
            refine fr_iconst 45 dX7_isWithin_44 rfl ?_
            refine fr_iload_n 46 dX7_isWithin_45 rfl rfl ?_
            refine fr_imul 47 dX7_isWithin_46 rfl ?_
            refine fr_iload 49 dX7_isWithin_47 rfl rfl ?_
            refine fr_iadd 50 dX7_isWithin_49 rfl ?_
            refine fr_iald 51 dX7_isWithin_50 rfl fs_l2 (by omega) ?_
            refine fr_aload_n 52 dX7_isWithin_51 rfl rfl ?_
            refine fr_getr 55 2 dX7_isWithin_52 rfl fs_kX7_13 fs_l0 rfl ?_
            refine fr_iconst 56 dX7_isWithin_55 rfl ?_
            refine fr_iload_n 57 dX7_isWithin_56 rfl rfl ?_
            refine fr_imul 58 dX7_isWithin_57 rfl ?_
            refine fr_iload 60 dX7_isWithin_58 rfl rfl ?_
            refine fr_iadd 61 dX7_isWithin_60 rfl ?_
            refine fr_iald 62 dX7_isWithin_61 rfl fs_l2 (by omega) ?_
            refine fr_icmp_lt 69 65 dX7_isWithin_62 rfl rfl (by omega) (by omega) (fun h62 => ?_) (fun h62 => ?_)
            · refine fr_iconst 70 dX7_isWithin_69 rfl ?_
              refine fr_istore_n 71 [_, _, _, _, _] dX7_isWithin_70 rfl (Nat.le_of_ble_eq_true rfl) rfl ?_
              refine fr_iinc 74 [_, _, _, _, _] dX7_isWithin_71 rfl rfl rfl ?_
              refine fr_goto 5 dX7_isWithin_74 rfl ?_
              have es : tfl t o r (f + 1) = tfl t o r f + (if tin t o r f then 0 else 1) := smI_s _ h0
              have hrng : (if tin t o r f then (0 : Int) else 1) = 0 ∨ (if tin t o r f then (0 : Int) else 1) = 1 := by split <;> decide
              refine ih (f + 1) _ (by omega) (by omega) (by omega) (by omega) ?_
              rw [es]
              first
              | (rw [if_neg (by omega)])
              | (have h9 : tin t o r f = true := decide_eq_true (by omega)
                 have h8 : (if tin t o r f then (0 : Int) else 1) = 0 := by rw [h9]; rfl
                 rw [if_pos (by omega)])
              | (have h9 : tin t o r f = false := decide_eq_false (by omega)
                 have h8 : (if tin t o r f then (0 : Int) else 1) = 1 := by rw [h9]; rfl
                 rw [if_neg (by omega)])
            · refine fr_iconst 66 dX7_isWithin_65 rfl ?_
              refine fr_goto 70 dX7_isWithin_66 rfl ?_
              refine fr_istore_n 71 [_, _, _, _, _] dX7_isWithin_70 rfl (Nat.le_of_ble_eq_true rfl) rfl ?_
              refine fr_iinc 74 [_, _, _, _, _] dX7_isWithin_71 rfl rfl rfl ?_
              refine fr_goto 5 dX7_isWithin_74 rfl ?_
              have es : tfl t o r (f + 1) = tfl t o r f + (if tin t o r f then 0 else 1) := smI_s _ h0
              have hrng : (if tin t o r f then (0 : Int) else 1) = 0 ∨ (if tin t o r f then (0 : Int) else 1) = 1 := by split <;> decide
              refine ih (f + 1) _ (by omega) (by omega) (by omega) (by omega) ?_
              rw [es]
              first
              | (rw [if_neg (by omega)])
              | (have h9 : tin t o r f = true := decide_eq_true (by omega)
                 have h8 : (if tin t o r f then (0 : Int) else 1) = 0 := by rw [h9]; rfl
                 rw [if_pos (by omega)])
              | (have h9 : tin t o r f = false := decide_eq_false (by omega)
                 have h8 : (if tin t o r f then (0 : Int) else 1) = 1 := by rw [h9]; rfl
                 rw [if_neg (by omega)])
  refine fr_iconst 1 dX7_isWithin_0 rfl ?_
  refine fr_istore_n 2 [_, _, _, _, _] dX7_isWithin_1 rfl (Nat.le_of_ble_eq_true rfl) rfl ?_
  refine fr_iconst 3 dX7_isWithin_2 rfl ?_
  refine fr_istore 5 [_, _, _, _, _] dX7_isWithin_3 rfl (Nat.le_of_ble_eq_true rfl) rfl ?_
  exact key 5 0 1 (by omega) (by omega) (by omega) (Int.le_refl _) rfl
theorem tcv_at {t : rt} {r k : Int} (hr : 0 ≤ r ∧ r < tn t) (hk : 0 ≤ k ∧ k < tn t) (h1 : tah t k r = true) (h2 : twi t k r = true) (h3 : ∀ q, 0 ≤ q → q < tn t → tah t q r = true → twi t q r = true → q = k ∨ tah t k q = true) : tcv t r = k := by
  have hp := tpl_r hk.1 hk.2
  have hlt := tpl_lt hk.1 hk.2 h1
  have hrr := tpl_r hr.1 hr.2
  have e : lea (fun p => twi t (tod t p) r) (tpl t r) = tpl t k := by
    refine lea_at hp.1 hlt (by show twi t (tod t (tpl t k)) r = true; rw [tod_pl hk.1 hk.2]; exact h2) (fun j a b => ?_)
    cases hc : twi t (tod t j) r with
    | false => rfl
    | true =>
      exfalso
      obtain ⟨o1, o2, o3⟩ := tod_r (t := t) a (by omega)
      have ha : tah t (tod t j) r = true := by
        rcases tah_to (t := t) (a := tod t j) (b := r) (fun z => by rw [z] at o3; omega) with z | z
        · exact z
        · have := tpl_lt hr.1 hr.2 z; omega
      rcases h3 _ o1 o2 ha hc with z | z
      · rw [z] at o3; omega
      · have := tpl_lt hk.1 hk.2 z; omega
  unfold tcv
  rw [e, if_pos hlt, tod_pl hk.1 hk.2]
theorem tcv_no {t : rt} {r : Int} (hr : 0 ≤ r ∧ r < tn t) (h3 : ∀ q, 0 ≤ q → q < tn t → tah t q r = true → twi t q r = false) : tcv t r = -6 := by
  have hrr := tpl_r hr.1 hr.2
  have e : lea (fun p => twi t (tod t p) r) (tpl t r) = tpl t r := by
    refine lea_no hrr.1 (fun j a b => ?_)
    obtain ⟨o1, o2, o3⟩ := tod_r (t := t) a (by omega)
    refine h3 _ o1 o2 ?_
    rcases tah_to (t := t) (a := tod t j) (b := r) (fun z => by rw [z] at o3; omega) with z | z
    · exact z
    · have := tpl_lt hr.1 hr.2 z; omega
  unfold tcv
  rw [e, if_neg (by omega)]
set_option maxRecDepth 100000 in
set_option maxHeartbeats 1500000 in
theorem cM_coverOf {σ : fs_S} {t : rt} {r : Int} (hw : twf t) (hR : RM σ t) (hr : 0 ≤ r ∧ r < tn t) : fs_C mX7_coverOf 1 [.inr 0, .inl r] σ (fun x τ => x = some (tcv t r) ∧ τ = σ) := by
  refine fs_C.intro [some (.inr 0), some (.inl r), none, none] fs_oX7_coverOf (Nat.le_of_ble_eq_true rfl) rfl ?_
  have hn := hw.1
  have hm := hR.1
  have key : ∀ (m : Nat) (k v : Int), 0 ≤ k → k ≤ tn t → tn t - k < m → ((v = -6 ∧ ∀ q, 0 ≤ q → q < k → tah t q r = true → twi t q r = false) ∨ ((0 ≤ v ∧ v < k) ∧ tah t v r = true ∧ twi t v r = true ∧ ∀ q, 0 ≤ q → q < k → tah t q r = true → twi t q r = true → q = v ∨ tah t v q = true)) → fs_W (fs_Γ 1 (fun x τ => x = some (tcv t r) ∧ τ = σ)) mX7_coverOf 5 [some (.inr 0), some (.inl r), some (.inl v), some (.inl k)] [] σ := by
    intro m
    induction m with
    | zero => intro k v h0 h1 h2; omega
    | succ m ih =>
      intro k v h0 h1 h2 hv
      have bt : ∀ b : Bool, (if b then (1 : Int) else 0) = 0 → b = false := fun b h => by cases b <;> simp_all
      have bf : ∀ b : Bool, ¬ (if b then (1 : Int) else 0) = 0 → b = true := fun b h => by cases b <;> simp_all
      have skip : (tah t k r = true → twi t k r = true → ∃ z, (0 ≤ v ∧ v < k) ∧ z = v ∧ tah t v k = true) → ((v = -6 ∧ ∀ q, 0 ≤ q → q < k + 1 → tah t q r = true → twi t q r = false) ∨ ((0 ≤ v ∧ v < k + 1) ∧ tah t v r = true ∧ twi t v r = true ∧ ∀ q, 0 ≤ q → q < k + 1 → tah t q r = true → twi t q r = true → q = v ∨ tah t v q = true)) := by
        intro hs
        rcases hv with ⟨h3, h4⟩ | ⟨h3, h4, h5, h6⟩
        · refine Or.inl ⟨h3, fun q a b c => ?_⟩
          by_cases e : q = k
          · subst e
            cases hc : twi t q r with
            | false => rfl
            | true => obtain ⟨z, z1, -⟩ := hs c hc; omega
          · exact h4 q a (by omega) c
        · refine Or.inr ⟨by omega, h4, h5, fun q a b c d => ?_⟩
          by_cases e : q = k
          · subst e
            obtain ⟨z, -, -, z3⟩ := hs c d
            exact Or.inr z3
          · exact h6 q a (by omega) c d
      refine fr_iload_n 6 dX7_coverOf_5 rfl rfl ?_
      refine fr_aload_n 7 dX7_coverOf_6 rfl rfl ?_
      refine fr_geti 10 0 dX7_coverOf_7 rfl fs_kX7_104 rfl fs_l0 rfl ?_
      refine fr_icmp_ge 52 13 dX7_coverOf_10 rfl rfl (by omega) (by omega) (fun h10 => ?_) (fun h10 => ?_)
      · refine fr_iload_n 53 dX7_coverOf_52 rfl rfl ?_
        refine fr_iret dX7_coverOf_53 rfl ?_
        refine ⟨congrArg some ?_, rfl⟩
        have ek : k = tn t := by omega
        rcases hv with ⟨h3, h4⟩ | ⟨h3, h4, h5, h6⟩
        · rw [h3, tcv_no hr (fun q a b c => h4 q a (by omega) c)]
        · rw [tcv_at hr (by omega) h4 h5 (fun q a b c d => h6 q a (by omega) c d)]
      · refine fr_aload_n 14 dX7_coverOf_13 rfl rfl ?_
        refine fr_iload_n 15 dX7_coverOf_14 rfl rfl ?_
        refine fr_iload_n 16 dX7_coverOf_15 rfl rfl ?_
        refine fr_callVi 19 (M2 := mX7_isAhead) [_, _] dX7_coverOf_16 rfl fs_mX7_137 fs_oX7_isAhead fs_iX7_isAhead fs_l0 rfl rfl (fs_Γ_rm (d := 0) (by decide)) (Nat.le_of_ble_eq_true rfl) rfl ?_
        first
        | refine (cM_isAhead hw hR h0 (by omega) hr.1 hr.2).ci ?_
        | refine (cM_isAhead hw hR h0 (by omega) (by omega) (by omega)).ci ?_
        refine fr_if_eq 46 22 dX7_coverOf_19 rfl rfl (by omega) (fun h19 => ?_) (fun h19 => ?_)
        · have hs := skip (fun c d => ?_)
          · show fs_W _ _ _ _ _ _
            refine fr_iinc 49 [_, _, _, _] dX7_coverOf_46 rfl rfl rfl ?_
            refine fr_goto 5 dX7_coverOf_49 rfl ?_
            exact ih (k + 1) v (by omega) (by omega) (by omega) hs
          · first
            | (have := bt _ h19; rw [c] at this; cases this)
            | (have := bt _ h28; rw [d] at this; cases this)
            | (have c3 := bt _ h41
               refine ⟨v, by omega, rfl, ?_⟩
               rcases tah_to (t := t) (a := k) (b := v) (by omega) with z | z
               · rw [c3] at z; cases z
               · exact z)
        · refine fr_aload_n 23 dX7_coverOf_22 rfl rfl ?_
          refine fr_iload_n 24 dX7_coverOf_23 rfl rfl ?_
          refine fr_iload_n 25 dX7_coverOf_24 rfl rfl ?_
          refine fr_callVi 28 (M2 := mX7_isWithin) [_, _] dX7_coverOf_25 rfl fs_mX7_171 fs_oX7_isWithin fs_iX7_isWithin fs_l0 rfl rfl (fs_Γ_rm (d := 0) (by decide)) (Nat.le_of_ble_eq_true rfl) rfl ?_
          refine (cM_isWithin hw hR hr ⟨h0, by omega⟩).ci ?_
          refine fr_if_eq 46 31 dX7_coverOf_28 rfl rfl (by omega) (fun h28 => ?_) (fun h28 => ?_)
          · have hs := skip (fun c d => ?_)
            · show fs_W _ _ _ _ _ _
              refine fr_iinc 49 [_, _, _, _] dX7_coverOf_46 rfl rfl rfl ?_
              refine fr_goto 5 dX7_coverOf_49 rfl ?_
              exact ih (k + 1) v (by omega) (by omega) (by omega) hs
            · first
              | (have := bt _ h19; rw [c] at this; cases this)
              | (have := bt _ h28; rw [d] at this; cases this)
              | (have c3 := bt _ h41
                 refine ⟨v, by omega, rfl, ?_⟩
                 rcases tah_to (t := t) (a := k) (b := v) (by omega) with z | z
                 · rw [c3] at z; cases z
                 · exact z)
          · refine fr_iload_n 32 dX7_coverOf_31 rfl rfl ?_
            refine fr_if_lt 44 35 dX7_coverOf_32 rfl rfl (by omega) (fun h32 => ?_) (fun h32 => ?_)
            · have c1 := bf _ h19
              have c2 := bf _ h28
              refine fr_iload_n 45 dX7_coverOf_44 rfl rfl ?_
              refine fr_istore_n 46 [_, _, _, _] dX7_coverOf_45 rfl (Nat.le_of_ble_eq_true rfl) rfl ?_
              refine fr_iinc 49 [_, _, _, _] dX7_coverOf_46 rfl rfl rfl ?_
              refine fr_goto 5 dX7_coverOf_49 rfl ?_
              refine ih (k + 1) k (by omega) (by omega) (by omega) (Or.inr ⟨by omega, c1, c2, fun q a b c d => ?_⟩)
              by_cases e : q = k
              · exact Or.inl e
              · refine Or.inr ?_
                rcases hv with ⟨h3, h4⟩ | ⟨h3, h4, h5, h6⟩
                · have := h4 q a (by omega) c
                  rw [d] at this
                  cases this
                · have c3 : tah t k v = true := by first | exact bf _ h41 | omega
                  rcases h6 q a (by omega) c d with z | z
                  · rw [z]; exact c3
                  · exact tah_tr c3 z
            · refine fr_aload_n 36 dX7_coverOf_35 rfl rfl ?_
              refine fr_iload_n 37 dX7_coverOf_36 rfl rfl ?_
              refine fr_iload_n 38 dX7_coverOf_37 rfl rfl ?_
              refine fr_callVi 41 (M2 := mX7_isAhead) [_, _] dX7_coverOf_38 rfl fs_mX7_137 fs_oX7_isAhead fs_iX7_isAhead fs_l0 rfl rfl (fs_Γ_rm (d := 0) (by decide)) (Nat.le_of_ble_eq_true rfl) rfl ?_
              first
              | refine (cM_isAhead hw hR h0 (by omega) hr.1 hr.2).ci ?_
              | refine (cM_isAhead hw hR h0 (by omega) (by omega) (by omega)).ci ?_
              refine fr_if_eq 46 44 dX7_coverOf_41 rfl rfl (by omega) (fun h41 => ?_) (fun h41 => ?_)
              · have hs := skip (fun c d => ?_)
                · show fs_W _ _ _ _ _ _
                  refine fr_iinc 49 [_, _, _, _] dX7_coverOf_46 rfl rfl rfl ?_
                  refine fr_goto 5 dX7_coverOf_49 rfl ?_
                  exact ih (k + 1) v (by omega) (by omega) (by omega) hs
                · first
                  | (have := bt _ h19; rw [c] at this; cases this)
                  | (have := bt _ h28; rw [d] at this; cases this)
                  | (have c3 := bt _ h41
                     refine ⟨v, by omega, rfl, ?_⟩
                     rcases tah_to (t := t) (a := k) (b := v) (by omega) with z | z
                     · rw [c3] at z; cases z
                     · exact z)
              · have c1 := bf _ h19
                have c2 := bf _ h28
                refine fr_iload_n 45 dX7_coverOf_44 rfl rfl ?_
                refine fr_istore_n 46 [_, _, _, _] dX7_coverOf_45 rfl (Nat.le_of_ble_eq_true rfl) rfl ?_
                refine fr_iinc 49 [_, _, _, _] dX7_coverOf_46 rfl rfl rfl ?_
                refine fr_goto 5 dX7_coverOf_49 rfl ?_
                refine ih (k + 1) k (by omega) (by omega) (by omega) (Or.inr ⟨by omega, c1, c2, fun q a b c d => ?_⟩)
                by_cases e : q = k
                · exact Or.inl e
                · refine Or.inr ?_
                  rcases hv with ⟨h3, h4⟩ | ⟨h3, h4, h5, h6⟩
                  · have := h4 q a (by omega) c
                    rw [d] at this
                    cases this
                  · have c3 : tah t k v = true := by first | exact bf _ h41 | omega
                    rcases h6 q a (by omega) c d with z | z
                    · rw [z]; exact c3
                    · exact tah_tr c3 z
  refine fr_bipush 2 dX7_coverOf_0 rfl (by decide) ?_
  refine fr_istore_n 3 [_, _, _, _] dX7_coverOf_2 rfl (Nat.le_of_ble_eq_true rfl) rfl ?_
  refine fr_iconst 4 dX7_coverOf_3 rfl ?_
  refine fr_istore_n 5 [_, _, _, _] dX7_coverOf_4 rfl (Nat.le_of_ble_eq_true rfl) rfl ?_
  exact key ((tn t).toNat + 1) 0 (-6) (by omega) (by omega) (by omega) (Or.inl ⟨rfl, fun q a b => by omega⟩)
set_option maxRecDepth 100000 in
set_option maxHeartbeats 1500000 in
theorem cM_covered {σ : fs_S} {t : rt} {r : Int} (hw : twf t) (hR : RM σ t) (hr : rg r) : fs_C mX7_covered 2 [.inr 0, .inl r] σ (fun x τ => x = some (aCovered t r) ∧ τ = σ) := by
  refine fs_C.intro [some (.inr 0), some (.inl r)] fs_oX7_covered (Nat.le_of_ble_eq_true rfl) rfl ?_
  have hn := hw.1
  refine fr_aload_n 1 dX7_covered_0 rfl rfl ?_
  refine fr_iload_n 2 dX7_covered_1 rfl rfl ?_
  refine fr_callVi 5 (M2 := mX7_isRule) [_] dX7_covered_2 rfl fs_mX7_134 fs_oX7_isRule fs_iX7_isRule fs_l0 rfl rfl (fs_Γ_rm (d := 1) (by decide)) (Nat.le_of_ble_eq_true rfl) rfl ?_
  refine (cM_isRule hR.1 hn hr).ci ?_
  refine fr_if_eq 16 8 dX7_covered_5 rfl rfl (by omega) (fun h5 => ?_) (fun h5 => ?_)
  · refine fr_iconst 17 dX7_covered_16 rfl ?_
    refine fr_iret dX7_covered_17 rfl ?_
    exact ⟨congrArg some (by unfold aCovered; split <;> first | rfl | omega), rfl⟩
  · refine fr_aload_n 9 dX7_covered_8 rfl rfl ?_
    refine fr_iload_n 10 dX7_covered_9 rfl rfl ?_
    refine fr_callVi 13 (M2 := mX7_coverOf) [_] dX7_covered_10 rfl fs_mX7_174 fs_oX7_coverOf fs_iX7_coverOf fs_l0 rfl rfl (fs_Γ_rm (d := 1) (by decide)) (Nat.le_of_ble_eq_true rfl) rfl ?_
    refine (cM_coverOf hw hR (by omega)).ci ?_
    refine fr_goto 17 dX7_covered_13 rfl ?_
    refine fr_iret dX7_covered_17 rfl ?_
    exact ⟨congrArg some (by unfold aCovered; split <;> first | rfl | omega), rfl⟩
