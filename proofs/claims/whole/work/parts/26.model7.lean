/-! ===== the model: tuples ===== -/
set_option maxRecDepth 100000 in
set_option maxHeartbeats 1500000 in
theorem cM_ofLength {σ : fs_S} {t : rt} {r f len : Int} (hw : twf t) (hR : RM σ t) (hr : 0 ≤ r ∧ r < tn t) (hf : 0 ≤ f ∧ f < 4) (hl : rg len) : fs_C mX7_ofLength 2 [.inr 0, .inl r, .inl f, .inl len] σ (fun x τ => x = some (ol t r f len) ∧ τ = σ) := by
  refine fs_C.intro [some (.inr 0), some (.inl r), some (.inl f), some (.inl len), none, none, none, none] fs_oX7_ofLength (Nat.le_of_ble_eq_true rfl) rfl ?_
  have hn := hw.1
  obtain ⟨e1, e2, e3, e4⟩ := tLH hw hr.1 hr.2 hf.1 hf.2
  have q := hR.2.1 r f hr.1 hr.2 hf.1 hf.2
  rw [e1, e2] at q
  unfold ol
  obtain ⟨hi', ehi⟩ : ∃ h, tH t r f = h := ⟨_, rfl⟩
  rw [ehi] at q e3 e4 ⊢
  have hwr := wN_r f
  have key : ∀ (n : Nat) (c : Int) (v : Nat) (y : Option fs_V), v ≤ hi' + 1 → hi' + 1 - v < n → c + olF (wN f) hi' len n v = olF (wN f) hi' len 65 (tL t r f) → fs_W (fs_Γ 2 (fun x τ => x = some (olF (wN f) hi' len 65 (tL t r f)) ∧ τ = σ)) mX7_ofLength 27 [some (.inr 0), some (.inl r), some (.inl f), some (.inl len), some (.inl c), some (.inl (v : Int)), some (.inl (hi' : Int)), y] [] σ := by
    intro n
    induction n with
    | zero => intro c v y h2 h3; omega
    | succ n ih =>
      intro c v y h2 h3 h4
      rw [olF] at h4
      have hla := laN_le v hi' (wN f) 1
      refine fr_iload 29 dX7_ofLength_27 rfl rfl ?_
      refine fr_iload 31 dX7_ofLength_29 rfl rfl ?_
      refine fr_icmp_gt 77 34 dX7_ofLength_31 rfl rfl (by omega) (by omega) (fun h31 => ?_) (fun h31 => ?_)
      · refine fr_iload 79 dX7_ofLength_77 rfl rfl ?_
        refine fr_iret dX7_ofLength_79 rfl ?_
        refine ⟨congrArg some ?_, rfl⟩
        rw [← h4, if_neg (by omega)]; omega
      · refine fr_iload_n 35 dX7_ofLength_34 rfl rfl ?_
        refine fr_iload 37 dX7_ofLength_35 rfl rfl ?_
        refine fr_iload 39 dX7_ofLength_37 rfl rfl ?_
        refine fr_callSi 42 (M2 := mX7_lengthAt) [_, _, _] dX7_ofLength_39 rfl fs_mX7_177 fs_oX7_lengthAt fs_sX7_lengthAt rfl (fs_Γ_rm (d := 1) (by decide)) (Nat.le_of_ble_eq_true rfl) rfl ?_
        refine (cM_lengthAt (by omega) (by omega) (by omega)).ci ?_
        refine fr_istore 44 [_, _, _, _, _, _, _, _] dX7_ofLength_42 rfl (Nat.le_of_ble_eq_true rfl) rfl ?_
        refine fr_iload 46 dX7_ofLength_44 rfl rfl ?_
        refine fr_iload 48 dX7_ofLength_46 rfl rfl ?_
        refine fr_iload_n 49 dX7_ofLength_48 rfl rfl ?_
        refine fr_icmp_ne 56 52 dX7_ofLength_49 rfl rfl (by omega) (by omega) (fun h49 => ?_) (fun h49 => ?_)
        · refine fr_iconst 57 dX7_ofLength_56 rfl ?_
          refine fr_iadd 58 dX7_ofLength_57 rfl ?_
          refine fr_istore 60 [_, _, _, _, _, _, _, _] dX7_ofLength_58 rfl (Nat.le_of_ble_eq_true rfl) rfl ?_
          refine fr_iload 62 dX7_ofLength_60 rfl rfl ?_
          refine fr_iconst 63 dX7_ofLength_62 rfl ?_
          refine fr_iload_n 64 dX7_ofLength_63 rfl rfl ?_
          refine fr_callSi 67 (M2 := mX7_width) [_] dX7_ofLength_64 rfl fs_mX7_96 fs_oX7_width fs_sX7_width rfl (fs_Γ_rm (d := 0) (by decide)) (Nat.le_of_ble_eq_true rfl) rfl ?_
          refine (cM_width (by omega)).ci ?_
          refine fr_iload 69 dX7_ofLength_67 rfl rfl ?_
          refine fr_isub 70 dX7_ofLength_69 rfl ?_
          refine fr_ishl 71 dX7_ofLength_70 rfl ?_
          refine fr_top (fm_shlw f (laN_le _ _ _ _)) ?_
          refine fr_iadd 72 dX7_ofLength_71 rfl ?_
          refine fr_top (y := ((nxN (wN f) v hi' : Nat) : Int)) (by unfold nxN; omega) ?_
          refine fr_istore 74 [_, _, _, _, _, _, _, _] dX7_ofLength_72 rfl (Nat.le_of_ble_eq_true rfl) rfl ?_
          refine fr_goto 27 dX7_ofLength_74 rfl ?_
          rw [if_pos (by omega)] at h4
          have g1 := nx_gt (wN f) v hi'
          have g2 := nx_le (w := wN f) (fr := v) (to := hi') (by omega)
          exact ih _ _ _ (by omega) (by omega) (by rw [← h4]; split <;> omega)
        · refine fr_iconst 53 dX7_ofLength_52 rfl ?_
          refine fr_goto 57 dX7_ofLength_53 rfl ?_
          refine fr_iadd 58 dX7_ofLength_57 rfl ?_
          refine fr_istore 60 [_, _, _, _, _, _, _, _] dX7_ofLength_58 rfl (Nat.le_of_ble_eq_true rfl) rfl ?_
          refine fr_iload 62 dX7_ofLength_60 rfl rfl ?_
          refine fr_iconst 63 dX7_ofLength_62 rfl ?_
          refine fr_iload_n 64 dX7_ofLength_63 rfl rfl ?_
          refine fr_callSi 67 (M2 := mX7_width) [_] dX7_ofLength_64 rfl fs_mX7_96 fs_oX7_width fs_sX7_width rfl (fs_Γ_rm (d := 0) (by decide)) (Nat.le_of_ble_eq_true rfl) rfl ?_
          refine (cM_width (by omega)).ci ?_
          refine fr_iload 69 dX7_ofLength_67 rfl rfl ?_
          refine fr_isub 70 dX7_ofLength_69 rfl ?_
          refine fr_ishl 71 dX7_ofLength_70 rfl ?_
          refine fr_top (fm_shlw f (laN_le _ _ _ _)) ?_
          refine fr_iadd 72 dX7_ofLength_71 rfl ?_
          refine fr_top (y := ((nxN (wN f) v hi' : Nat) : Int)) (by unfold nxN; omega) ?_
          refine fr_istore 74 [_, _, _, _, _, _, _, _] dX7_ofLength_72 rfl (Nat.le_of_ble_eq_true rfl) rfl ?_
          refine fr_goto 27 dX7_ofLength_74 rfl ?_
          rw [if_pos (by omega)] at h4
          have g1 := nx_gt (wN f) v hi'
          have g2 := nx_le (w := wN f) (fr := v) (to := hi') (by omega)
          exact ih _ _ _ (by omega) (by omega) (by rw [← h4]; split <;> omega)
  refine fr_iconst 1 dX7_ofLength_0 rfl ?_
  refine fr_istore 3 [_, _, _, _, _, _, _, _] dX7_ofLength_1 rfl (Nat.le_of_ble_eq_true rfl) rfl ?_
  refine fr_aload_n 4 dX7_ofLength_3 rfl rfl ?_
  refine fr_getr 7 1 dX7_ofLength_4 rfl fs_kX7_7 fs_l0 rfl ?_
  refine fr_iconst 8 dX7_ofLength_7 rfl ?_
  refine fr_iload_n 9 dX7_ofLength_8 rfl rfl ?_
  refine fr_imul 10 dX7_ofLength_9 rfl ?_
  refine fr_iload_n 11 dX7_ofLength_10 rfl rfl ?_
  refine fr_iadd 12 dX7_ofLength_11 rfl ?_
  refine fr_iald 13 dX7_ofLength_12 rfl fs_l1 (by omega) ?_
  refine fr_top q.1 ?_
  refine fr_istore 15 [_, _, _, _, _, _, _, _] dX7_ofLength_13 rfl (Nat.le_of_ble_eq_true rfl) rfl ?_
  refine fr_aload_n 16 dX7_ofLength_15 rfl rfl ?_
  refine fr_getr 19 2 dX7_ofLength_16 rfl fs_kX7_13 fs_l0 rfl ?_
  refine fr_iconst 20 dX7_ofLength_19 rfl ?_
  refine fr_iload_n 21 dX7_ofLength_20 rfl rfl ?_
  refine fr_imul 22 dX7_ofLength_21 rfl ?_
  refine fr_iload_n 23 dX7_ofLength_22 rfl rfl ?_
  refine fr_iadd 24 dX7_ofLength_23 rfl ?_
  refine fr_iald 25 dX7_ofLength_24 rfl fs_l2 (by omega) ?_
  refine fr_top q.2 ?_
  refine fr_istore 27 [_, _, _, _, _, _, _, _] dX7_ofLength_25 rfl (Nat.le_of_ble_eq_true rfl) rfl ?_
  exact key 65 0 _ _ (by omega) (by omega) (by omega)
set_option maxRecDepth 100000 in
set_option maxHeartbeats 1500000 in
theorem cM_lengthOf {σ : fs_S} {t : rt} {r f : Int} {x : Nat} (hw : twf t) (hR : RM σ t) (hr : 0 ≤ r ∧ r < tn t) (hf : 0 ≤ f ∧ f < 4) (hx : tL t r f ≤ x ∧ x ≤ tH t r f) : fs_C mX7_lengthOf 2 [.inr 0, .inl r, .inl f, .inl (x : Int)] σ (fun z τ => z = some ((loF (wN f) (tH t r f) x 65 (tL t r f) : Nat) : Int) ∧ τ = σ) := by
  refine fs_C.intro [some (.inr 0), some (.inl r), some (.inl f), some (.inl (x : Int)), none, none, none] fs_oX7_lengthOf (Nat.le_of_ble_eq_true rfl) rfl ?_
  have hn := hw.1
  obtain ⟨e1, e2, e3, e4⟩ := tLH hw hr.1 hr.2 hf.1 hf.2
  have q := hR.2.1 r f hr.1 hr.2 hf.1 hf.2
  rw [e1, e2] at q
  obtain ⟨hi', ehi⟩ : ∃ h, tH t r f = h := ⟨_, rfl⟩
  rw [ehi] at q e3 e4 hx ⊢
  have hwr := wN_r f
  have key : ∀ (n : Nat) (v : Nat), v ≤ x → hi' + 1 - v < n → loF (wN f) hi' x n v = loF (wN f) hi' x 65 (tL t r f) → fs_W (fs_Γ 2 (fun z τ => z = some ((loF (wN f) hi' x 65 (tL t r f) : Nat) : Int) ∧ τ = σ)) mX7_lengthOf 34 [some (.inr 0), some (.inl r), some (.inl f), some (.inl (x : Int)), some (.inl (v : Int)), some (.inl (hi' : Int)), some (.inl ((laN v hi' (wN f) 1 : Nat) : Int))] [] σ := by
    intro n
    induction n with
    | zero => intro v h2 h3; omega
    | succ n ih =>
      intro v h2 h3 h4
      rw [loF] at h4
      have g1 := nx_gt (wN f) v hi'
      have g2 := nx_le (w := wN f) (fr := v) (to := hi') (by omega)
      refine fr_iload_n 35 dX7_lengthOf_34 rfl rfl ?_
      refine fr_iload 37 dX7_lengthOf_35 rfl rfl ?_
      refine fr_iconst 38 dX7_lengthOf_37 rfl ?_
      refine fr_iload_n 39 dX7_lengthOf_38 rfl rfl ?_
      refine fr_callSi 42 (M2 := mX7_width) [_] dX7_lengthOf_39 rfl fs_mX7_96 fs_oX7_width fs_sX7_width rfl (fs_Γ_rm (d := 0) (by decide)) (Nat.le_of_ble_eq_true rfl) rfl ?_
      refine (cM_width (by omega)).ci ?_
      refine fr_iload 44 dX7_lengthOf_42 rfl rfl ?_
      refine fr_isub 45 dX7_lengthOf_44 rfl ?_
      refine fr_ishl 46 dX7_lengthOf_45 rfl ?_
      refine fr_top (fm_shlw f (laN_le _ _ _ _)) ?_
      refine fr_iadd 47 dX7_lengthOf_46 rfl ?_
      refine fr_top (y := ((nxN (wN f) v hi' : Nat) : Int)) (by unfold nxN; omega) ?_
      refine fr_icmp_lt 77 50 dX7_lengthOf_47 rfl rfl (by omega) (by omega) (fun h47 => ?_) (fun h47 => ?_)
      · refine fr_iload 79 dX7_lengthOf_77 rfl rfl ?_
        refine fr_iret dX7_lengthOf_79 rfl ?_
        refine ⟨congrArg some ?_, rfl⟩
        rw [← h4, if_neg (by omega)]
      · refine fr_iload 52 dX7_lengthOf_50 rfl rfl ?_
        refine fr_iconst 53 dX7_lengthOf_52 rfl ?_
        refine fr_iload_n 54 dX7_lengthOf_53 rfl rfl ?_
        refine fr_callSi 57 (M2 := mX7_width) [_] dX7_lengthOf_54 rfl fs_mX7_96 fs_oX7_width fs_sX7_width rfl (fs_Γ_rm (d := 0) (by decide)) (Nat.le_of_ble_eq_true rfl) rfl ?_
        refine (cM_width (by omega)).ci ?_
        refine fr_iload 59 dX7_lengthOf_57 rfl rfl ?_
        refine fr_isub 60 dX7_lengthOf_59 rfl ?_
        refine fr_ishl 61 dX7_lengthOf_60 rfl ?_
        refine fr_top (fm_shlw f (laN_le _ _ _ _)) ?_
        refine fr_iadd 62 dX7_lengthOf_61 rfl ?_
        refine fr_top (y := ((nxN (wN f) v hi' : Nat) : Int)) (by unfold nxN; omega) ?_
        refine fr_istore 64 [_, _, _, _, _, _, _] dX7_lengthOf_62 rfl (Nat.le_of_ble_eq_true rfl) rfl ?_
        refine fr_iload_n 65 dX7_lengthOf_64 rfl rfl ?_
        refine fr_iload 67 dX7_lengthOf_65 rfl rfl ?_
        refine fr_iload 69 dX7_lengthOf_67 rfl rfl ?_
        refine fr_callSi 72 (M2 := mX7_lengthAt) [_, _, _] dX7_lengthOf_69 rfl fs_mX7_177 fs_oX7_lengthAt fs_sX7_lengthAt rfl (fs_Γ_rm (d := 1) (by decide)) (Nat.le_of_ble_eq_true rfl) rfl ?_
        refine (cM_lengthAt (by omega) (by omega) (by omega)).ci ?_
        refine fr_istore 74 [_, _, _, _, _, _, _] dX7_lengthOf_72 rfl (Nat.le_of_ble_eq_true rfl) rfl ?_
        refine fr_goto 34 dX7_lengthOf_74 rfl ?_
        rw [if_pos (by omega)] at h4
        exact ih _ (by omega) (by omega) h4
  refine fr_aload_n 1 dX7_lengthOf_0 rfl rfl ?_
  refine fr_getr 4 1 dX7_lengthOf_1 rfl fs_kX7_7 fs_l0 rfl ?_
  refine fr_iconst 5 dX7_lengthOf_4 rfl ?_
  refine fr_iload_n 6 dX7_lengthOf_5 rfl rfl ?_
  refine fr_imul 7 dX7_lengthOf_6 rfl ?_
  refine fr_iload_n 8 dX7_lengthOf_7 rfl rfl ?_
  refine fr_iadd 9 dX7_lengthOf_8 rfl ?_
  refine fr_iald 10 dX7_lengthOf_9 rfl fs_l1 (by omega) ?_
  refine fr_top q.1 ?_
  refine fr_istore 12 [_, _, _, _, _, _, _] dX7_lengthOf_10 rfl (Nat.le_of_ble_eq_true rfl) rfl ?_
  refine fr_aload_n 13 dX7_lengthOf_12 rfl rfl ?_
  refine fr_getr 16 2 dX7_lengthOf_13 rfl fs_kX7_13 fs_l0 rfl ?_
  refine fr_iconst 17 dX7_lengthOf_16 rfl ?_
  refine fr_iload_n 18 dX7_lengthOf_17 rfl rfl ?_
  refine fr_imul 19 dX7_lengthOf_18 rfl ?_
  refine fr_iload_n 20 dX7_lengthOf_19 rfl rfl ?_
  refine fr_iadd 21 dX7_lengthOf_20 rfl ?_
  refine fr_iald 22 dX7_lengthOf_21 rfl fs_l2 (by omega) ?_
  refine fr_top q.2 ?_
  refine fr_istore 24 [_, _, _, _, _, _, _] dX7_lengthOf_22 rfl (Nat.le_of_ble_eq_true rfl) rfl ?_
  refine fr_iload_n 25 dX7_lengthOf_24 rfl rfl ?_
  refine fr_iload 27 dX7_lengthOf_25 rfl rfl ?_
  refine fr_iload 29 dX7_lengthOf_27 rfl rfl ?_
  refine fr_callSi 32 (M2 := mX7_lengthAt) [_, _, _] dX7_lengthOf_29 rfl fs_mX7_177 fs_oX7_lengthAt fs_sX7_lengthAt rfl (fs_Γ_rm (d := 1) (by decide)) (Nat.le_of_ble_eq_true rfl) rfl ?_
  refine (cM_lengthAt (by omega) (by omega) (by omega)).ci ?_
  refine fr_istore 34 [_, _, _, _, _, _, _] dX7_lengthOf_32 rfl (Nat.le_of_ble_eq_true rfl) rfl ?_
  exact key 65 _ (by omega) (by omega) rfl
set_option maxRecDepth 100000 in
set_option maxHeartbeats 1500000 in
theorem cM_lengthIn {σ : fs_S} {c f : Int} (hc : 0 ≤ c ∧ c < 1029) (hf : 0 ≤ f ∧ f < 4) : fs_C mX7_lengthIn 0 [.inl c, .inl f] σ (fun x τ => x = some (cl c f) ∧ τ = σ) := by
  refine fs_C.intro [some (.inl c), some (.inl f)] fs_oX7_lengthIn (Nat.le_of_ble_eq_true rfl) rfl ?_
  refine fr_iload_n 1 dX7_lengthIn_0 rfl rfl ?_
  refine fr_iconst 2 dX7_lengthIn_1 rfl ?_
  refine fr_icmp_ne 13 5 dX7_lengthIn_2 rfl rfl (by omega) (by omega) (fun h2 => ?_) (fun h2 => ?_)
  · refine fr_bipush 15 dX7_lengthIn_13 rfl (by decide) ?_
    refine fr_iload_n 16 dX7_lengthIn_15 rfl rfl ?_
    refine fr_iconst 17 dX7_lengthIn_16 rfl ?_
    refine fr_icmp_ne 29 20 dX7_lengthIn_17 rfl rfl (by omega) (by omega) (fun h17 => ?_) (fun h17 => ?_)
    · refine fr_iload_n 30 dX7_lengthIn_29 rfl rfl ?_
      refine fr_iconst 31 dX7_lengthIn_30 rfl ?_
      refine fr_icmp_ne 44 34 dX7_lengthIn_31 rfl rfl (by omega) (by omega) (fun h31 => ?_) (fun h31 => ?_)
      · refine fr_iload_n 45 dX7_lengthIn_44 rfl rfl ?_
        refine fr_sipush 48 dX7_lengthIn_45 rfl (by decide) ?_
        refine fr_idiv 49 dX7_lengthIn_48 rfl (by omega) (by omega) ?_
        refine fr_isub 50 dX7_lengthIn_49 rfl ?_
        refine fr_iret dX7_lengthIn_50 rfl ?_
        refine ⟨congrArg some ?_, rfl⟩
        unfold cl
        first
        | (rw [if_pos (by omega)])
        | (rw [if_neg (by omega), if_pos (by omega)])
        | (rw [if_neg (by omega), if_neg (by omega), if_pos (by omega)])
        | (rw [if_neg (by omega), if_neg (by omega), if_neg (by omega)])
      · refine fr_iload_n 35 dX7_lengthIn_34 rfl rfl ?_
        refine fr_bipush 37 dX7_lengthIn_35 rfl (by decide) ?_
        refine fr_idiv 38 dX7_lengthIn_37 rfl (by omega) (by omega) ?_
        refine fr_bipush 40 dX7_lengthIn_38 rfl (by decide) ?_
        refine fr_irem 41 dX7_lengthIn_40 rfl (by omega) (by omega) ?_
        refine fr_goto 49 dX7_lengthIn_41 rfl ?_
        refine fr_isub 50 dX7_lengthIn_49 rfl ?_
        refine fr_iret dX7_lengthIn_50 rfl ?_
        refine ⟨congrArg some ?_, rfl⟩
        unfold cl
        first
        | (rw [if_pos (by omega)])
        | (rw [if_neg (by omega), if_pos (by omega)])
        | (rw [if_neg (by omega), if_neg (by omega), if_pos (by omega)])
        | (rw [if_neg (by omega), if_neg (by omega), if_neg (by omega)])
    · refine fr_iload_n 21 dX7_lengthIn_20 rfl rfl ?_
      refine fr_iconst 22 dX7_lengthIn_21 rfl ?_
      refine fr_idiv 23 dX7_lengthIn_22 rfl (by omega) (by omega) ?_
      refine fr_bipush 25 dX7_lengthIn_23 rfl (by decide) ?_
      refine fr_irem 26 dX7_lengthIn_25 rfl (by omega) (by omega) ?_
      refine fr_goto 49 dX7_lengthIn_26 rfl ?_
      refine fr_isub 50 dX7_lengthIn_49 rfl ?_
      refine fr_iret dX7_lengthIn_50 rfl ?_
      refine ⟨congrArg some ?_, rfl⟩
      unfold cl
      first
      | (rw [if_pos (by omega)])
      | (rw [if_neg (by omega), if_pos (by omega)])
      | (rw [if_neg (by omega), if_neg (by omega), if_pos (by omega)])
      | (rw [if_neg (by omega), if_neg (by omega), if_neg (by omega)])
  · refine fr_iconst 6 dX7_lengthIn_5 rfl ?_
    refine fr_iload_n 7 dX7_lengthIn_6 rfl rfl ?_
    refine fr_iconst 8 dX7_lengthIn_7 rfl ?_
    refine fr_irem 9 dX7_lengthIn_8 rfl (by omega) (by omega) ?_
    refine fr_isub 10 dX7_lengthIn_9 rfl ?_
    refine fr_goto 50 dX7_lengthIn_10 rfl ?_
    refine fr_iret dX7_lengthIn_50 rfl ?_
    refine ⟨congrArg some ?_, rfl⟩
    unfold cl
    first
    | (rw [if_pos (by omega)])
    | (rw [if_neg (by omega), if_pos (by omega)])
    | (rw [if_neg (by omega), if_neg (by omega), if_pos (by omega)])
    | (rw [if_neg (by omega), if_neg (by omega), if_neg (by omega)])
set_option maxRecDepth 100000 in
set_option maxHeartbeats 1500000 in
theorem cM_entriesOf {σ : fs_S} {t : rt} {r c : Int} (hw : twf t) (hL : LC σ t) (hr : 0 ≤ r ∧ r < tn t) (hc : 0 ≤ c ∧ c < 1029) : fs_C mX7_entriesOf 1 [.inr 0, .inl r, .inl c] σ (fun x τ => x = some (eo t r c) ∧ τ = σ) := by
  refine fs_C.intro [some (.inr 0), some (.inl r), some (.inl c), none, none] fs_oX7_entriesOf (Nat.le_of_ble_eq_true rfl) rfl ?_
  have hn := hw.1
  have key : ∀ (m : Nat) (f : Int), 0 ≤ f → f ≤ 4 → 4 - f < m → fs_W (fs_Γ 1 (fun x τ => x = some (eo t r c) ∧ τ = σ)) mX7_entriesOf 5 [some (.inr 0), some (.inl r), some (.inl c), some (.inl (prI (fun f => ol t r f (cl c f)) f)), some (.inl f)] [] σ := by
    intro m
    induction m with
    | zero => intro f h0 h1 h2; omega
    | succ m ih =>
      intro f h0 h1 h2
      have hcl := cl_r (f := f) hc.1 hc.2
      refine fr_iload 7 dX7_entriesOf_5 rfl rfl ?_
      refine fr_iconst 8 dX7_entriesOf_7 rfl ?_
      refine fr_icmp_ge 42 11 dX7_entriesOf_8 rfl rfl (by omega) (by omega) (fun h8 => ?_) (fun h8 => ?_)
      · refine fr_iload_n 43 dX7_entriesOf_42 rfl rfl ?_
        refine fr_iret dX7_entriesOf_43 rfl ?_
        exact ⟨congrArg some (by rw [show f = 4 by omega]; rfl), rfl⟩
      · refine fr_iload_n 12 dX7_entriesOf_11 rfl rfl ?_
        refine fr_aload_n 13 dX7_entriesOf_12 rfl rfl ?_
        refine fr_getr 16 13 dX7_entriesOf_13 rfl fs_kX7_54 fs_l0 rfl ?_
        refine fr_bipush 18 dX7_entriesOf_16 rfl (by decide) ?_
        refine fr_iload_n 19 dX7_entriesOf_18 rfl rfl ?_
        refine fr_imul 20 dX7_entriesOf_19 rfl ?_
        refine fr_bipush 22 dX7_entriesOf_20 rfl (by decide) ?_
        refine fr_iload 24 dX7_entriesOf_22 rfl rfl ?_
        refine fr_imul 25 dX7_entriesOf_24 rfl ?_
        refine fr_iadd 26 dX7_entriesOf_25 rfl ?_
        refine fr_iload_n 27 dX7_entriesOf_26 rfl rfl ?_
        refine fr_iload 29 dX7_entriesOf_27 rfl rfl ?_
        refine fr_callSi 32 (M2 := mX7_lengthIn) [_, _] dX7_entriesOf_29 rfl fs_mX7_187 fs_oX7_lengthIn fs_sX7_lengthIn rfl (fs_Γ_rm (d := 0) (by decide)) (Nat.le_of_ble_eq_true rfl) rfl ?_
        refine (cM_lengthIn hc (by omega)).ci ?_
        refine fr_iadd 33 dX7_entriesOf_32 rfl ?_
        refine fr_iald 34 dX7_entriesOf_33 rfl fs_l13 (by omega) ?_
        refine fr_top (hL r f _ hr.1 hr.2 h0 (by omega) hcl.1 (by omega)) ?_
        refine fr_imul 35 dX7_entriesOf_34 rfl ?_
        refine fr_top (y := prI (fun f => ol t r f (cl c f)) (f + 1)) (by rw [prI_s _ h0]) ?_
        refine fr_istore_n 36 [_, _, _, _, _] dX7_entriesOf_35 rfl (Nat.le_of_ble_eq_true rfl) rfl ?_
        refine fr_iinc 39 [_, _, _, _, _] dX7_entriesOf_36 rfl rfl rfl ?_
        refine fr_goto 5 dX7_entriesOf_39 rfl ?_
        exact ih (f + 1) (by omega) (by omega) (by omega)
  refine fr_iconst 1 dX7_entriesOf_0 rfl ?_
  refine fr_istore_n 2 [_, _, _, _, _] dX7_entriesOf_1 rfl (Nat.le_of_ble_eq_true rfl) rfl ?_
  refine fr_iconst 3 dX7_entriesOf_2 rfl ?_
  refine fr_istore 5 [_, _, _, _, _] dX7_entriesOf_3 rfl (Nat.le_of_ble_eq_true rfl) rfl ?_
  exact key 5 0 (by omega) (by omega) (by omega)
set_option maxRecDepth 100000 in
set_option maxHeartbeats 1500000 in
theorem cM_membersOf {σ : fs_S} {t : rt} {c : Int} (hw : twf t) (hR : RM σ t) (hO : ∀ p, 0 ≤ p → p < tn t → σ 5 p = tod t p) (hL : LC σ t) (hc : 0 ≤ c ∧ c < 1029) : fs_C mX7_membersOf 2 [.inr 0, .inl c] σ (fun x τ => x = some ((mb t c : Nat) : Int) ∧ τ = σ) := by
  refine fs_C.intro [some (.inr 0), some (.inl c), none, none] fs_oX7_membersOf (Nat.le_of_ble_eq_true rfl) rfl ?_
  have hn := hw.1
  have hm := hR.1
  have key : ∀ (m : Nat) (k : Int), 0 ≤ k → k ≤ tn t → tn t - k < m → fs_W (fs_Γ 2 (fun x τ => x = some ((mb t c : Nat) : Int) ∧ τ = σ)) mX7_membersOf 4 [some (.inr 0), some (.inl c), some (.inl ((bm (mbP t c) k.toNat : Nat) : Int)), some (.inl k)] [] σ := by
    intro m
    induction m with
    | zero => intro k h0 h1 h2; omega
    | succ m ih =>
      intro k h0 h1 h2
      refine fr_iload_n 5 dX7_membersOf_4 rfl rfl ?_
      refine fr_aload_n 6 dX7_membersOf_5 rfl rfl ?_
      refine fr_geti 9 0 dX7_membersOf_6 rfl fs_kX7_104 rfl fs_l0 rfl ?_
      refine fr_icmp_ge 42 12 dX7_membersOf_9 rfl rfl (by omega) (by omega) (fun h9 => ?_) (fun h9 => ?_)
      · refine fr_iload_n 43 dX7_membersOf_42 rfl rfl ?_
        refine fr_iret dX7_membersOf_43 rfl ?_
        exact ⟨by rw [show k = tn t by omega]; rfl, rfl⟩
      · have hod := tod_r (t := t) h0 (by omega)
        have her := eo_r t (tod t k) c
        refine fr_iload_n 13 dX7_membersOf_12 rfl rfl ?_
        refine fr_aload_n 14 dX7_membersOf_13 rfl rfl ?_
        refine fr_aload_n 15 dX7_membersOf_14 rfl rfl ?_
        refine fr_getr 18 5 dX7_membersOf_15 rfl fs_kX7_29 fs_l0 rfl ?_
        refine fr_iload_n 19 dX7_membersOf_18 rfl rfl ?_
        refine fr_iald 20 dX7_membersOf_19 rfl fs_l5 (by omega) ?_
        refine fr_top (hO k h0 (by omega)) ?_
        refine fr_iload_n 21 dX7_membersOf_20 rfl rfl ?_
        refine fr_callVi 24 (M2 := mX7_entriesOf) [_, _] dX7_membersOf_21 rfl fs_mX7_190 fs_oX7_entriesOf fs_iX7_entriesOf fs_l0 rfl rfl (fs_Γ_rm (d := 1) (by decide)) (Nat.le_of_ble_eq_true rfl) rfl ?_
        refine (cM_entriesOf hw hL ⟨hod.1, hod.2.1⟩ hc).ci ?_
        refine fr_if_le 33 27 dX7_membersOf_24 rfl rfl (by omega) (fun h24 => ?_) (fun h24 => ?_)
        · refine fr_iconst 34 dX7_membersOf_33 rfl ?_
          refine fr_ior 35 dX7_membersOf_34 rfl ?_
          refine fr_top (y := ((bm (mbP t c) (k + 1).toNat : Nat) : Int)) (by first | exact bmI_t h0 (by omega) (decide_eq_true (by omega)) | exact bmI_f h0 (by omega) (decide_eq_false (by omega))) ?_
          refine fr_istore_n 36 [_, _, _, _] dX7_membersOf_35 rfl (Nat.le_of_ble_eq_true rfl) rfl ?_
          refine fr_iinc 39 [_, _, _, _] dX7_membersOf_36 rfl rfl rfl ?_
          refine fr_goto 4 dX7_membersOf_39 rfl ?_
          exact ih (k + 1) (by omega) (by omega) (by omega)
        · refine fr_iconst 28 dX7_membersOf_27 rfl ?_
          refine fr_iload_n 29 dX7_membersOf_28 rfl rfl ?_
          refine fr_ishl 30 dX7_membersOf_29 rfl ?_
          refine fr_goto 34 dX7_membersOf_30 rfl ?_
          refine fr_ior 35 dX7_membersOf_34 rfl ?_
          refine fr_top (y := ((bm (mbP t c) (k + 1).toNat : Nat) : Int)) (by first | exact bmI_t h0 (by omega) (decide_eq_true (by omega)) | exact bmI_f h0 (by omega) (decide_eq_false (by omega))) ?_
          refine fr_istore_n 36 [_, _, _, _] dX7_membersOf_35 rfl (Nat.le_of_ble_eq_true rfl) rfl ?_
          refine fr_iinc 39 [_, _, _, _] dX7_membersOf_36 rfl rfl rfl ?_
          refine fr_goto 4 dX7_membersOf_39 rfl ?_
          exact ih (k + 1) (by omega) (by omega) (by omega)
  refine fr_iconst 1 dX7_membersOf_0 rfl ?_
  refine fr_istore_n 2 [_, _, _, _] dX7_membersOf_1 rfl (Nat.le_of_ble_eq_true rfl) rfl ?_
  refine fr_iconst 3 dX7_membersOf_2 rfl ?_
  refine fr_istore_n 4 [_, _, _, _] dX7_membersOf_3 rfl (Nat.le_of_ble_eq_true rfl) rfl ?_
  exact key ((tn t).toNat + 1) 0 (by omega) (by omega) (by omega)
def es (t : rt) (c k : Int) : Int := smI (fun r => eo t r c) k
set_option maxRecDepth 100000 in
set_option maxHeartbeats 1500000 in
theorem cM_entries {σ : fs_S} {t : rt} {c : Int} (hw : twf t) (hR : RM σ t) (hL : LC σ t) (hc : 0 ≤ c ∧ c < 1029) : fs_C mX7_entries 2 [.inr 0, .inl c] σ (fun x τ => x = some (es t c (tn t)) ∧ τ = σ) := by
  refine fs_C.intro [some (.inr 0), some (.inl c), none, none] fs_oX7_entries (Nat.le_of_ble_eq_true rfl) rfl ?_
  have hn := hw.1
  have hm := hR.1
  have key : ∀ (m : Nat) (k : Int), 0 ≤ k → k ≤ tn t → tn t - k < m → fs_W (fs_Γ 2 (fun x τ => x = some (es t c (tn t)) ∧ τ = σ)) mX7_entries 4 [some (.inr 0), some (.inl c), some (.inl (es t c k)), some (.inl k)] [] σ := by
    intro m
    induction m with
    | zero => intro k h0 h1 h2; omega
    | succ m ih =>
      intro k h0 h1 h2
      refine fr_iload_n 5 dX7_entries_4 rfl rfl ?_
      refine fr_aload_n 6 dX7_entries_5 rfl rfl ?_
      refine fr_geti 9 0 dX7_entries_6 rfl fs_kX7_104 rfl fs_l0 rfl ?_
      refine fr_icmp_ge 27 12 dX7_entries_9 rfl rfl (by omega) (by omega) (fun h9 => ?_) (fun h9 => ?_)
      · refine fr_iload_n 28 dX7_entries_27 rfl rfl ?_
        refine fr_iret dX7_entries_28 rfl ?_
        exact ⟨by rw [show k = tn t by omega], rfl⟩
      · refine fr_iload_n 13 dX7_entries_12 rfl rfl ?_
        refine fr_aload_n 14 dX7_entries_13 rfl rfl ?_
        refine fr_iload_n 15 dX7_entries_14 rfl rfl ?_
        refine fr_iload_n 16 dX7_entries_15 rfl rfl ?_
        refine fr_callVi 19 (M2 := mX7_entriesOf) [_, _] dX7_entries_16 rfl fs_mX7_190 fs_oX7_entriesOf fs_iX7_entriesOf fs_l0 rfl rfl (fs_Γ_rm (d := 1) (by decide)) (Nat.le_of_ble_eq_true rfl) rfl ?_
        refine (cM_entriesOf hw hL (by omega) hc).ci ?_
        refine fr_iadd 20 dX7_entries_19 rfl ?_
        refine fr_top (y := es t c (k + 1)) (by unfold es; rw [smI_s _ h0]) ?_
        refine fr_istore_n 21 [_, _, _, _] dX7_entries_20 rfl (Nat.le_of_ble_eq_true rfl) rfl ?_
        refine fr_iinc 24 [_, _, _, _] dX7_entries_21 rfl rfl rfl ?_
        refine fr_goto 4 dX7_entries_24 rfl ?_
        exact ih (k + 1) (by omega) (by omega) (by omega)
  refine fr_iconst 1 dX7_entries_0 rfl ?_
  refine fr_istore_n 2 [_, _, _, _] dX7_entries_1 rfl (Nat.le_of_ble_eq_true rfl) rfl ?_
  refine fr_iconst 3 dX7_entries_2 rfl ?_
  refine fr_istore_n 4 [_, _, _, _] dX7_entries_3 rfl (Nat.le_of_ble_eq_true rfl) rfl ?_
  exact key ((tn t).toNat + 1) 0 (by omega) (by omega) (by omega)
