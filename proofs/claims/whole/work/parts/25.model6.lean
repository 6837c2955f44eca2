/-! ===== the model: prefixes ===== -/
set_option maxRecDepth 100000 in
set_option maxHeartbeats 1500000 in
theorem cM_lengthAt {σ : fs_S} {f : Int} {a b : Nat} (hf : rg f) (ha : a ≤ 64) (hb : b ≤ 64) : fs_C mX7_lengthAt 1 [.inl f, .inl (a : Int), .inl (b : Int)] σ (fun x τ => x = some ((laN a b (wN f) 1 : Nat) : Int) ∧ τ = σ) := by
  refine fs_C.intro [some (.inl f), some (.inl (a : Int)), some (.inl (b : Int)), none, none] fs_oX7_lengthAt (Nat.le_of_ble_eq_true rfl) rfl ?_
  have hwN := wN_r f
  have key : ∀ (l s : Nat), l ≤ 6 → 1 ≤ s → s * 2 ^ l ≤ 64 → laN a b l s = laN a b (wN f) 1 → fs_W (fs_Γ 1 (fun x τ => x = some ((laN a b (wN f) 1 : Nat) : Int) ∧ τ = σ)) mX7_lengthAt 8 [some (.inl f), some (.inl (a : Int)), some (.inl (b : Int)), some (.inl (s : Int)), some (.inl (l : Int))] [] σ := by
    intro l
    induction l with
    | zero =>
      intro s h9 h1 h2 h3
      refine fr_iload 10 dX7_lengthAt_8 rfl rfl ?_
      refine fr_if_le 42 13 dX7_lengthAt_10 rfl rfl (by omega) (fun h10 => ?_) (fun h10 => ?_)
      · refine fr_iload 44 dX7_lengthAt_42 rfl rfl ?_
        refine fr_iret dX7_lengthAt_44 rfl ?_
        exact ⟨congrArg some (by rw [← h3]; rfl), rfl⟩
      · exact absurd h10 (by omega)
    | succ l ih =>
      intro s h9 h1 h2 h3
      have hp : 0 < 2 ^ l := Nat.two_pow_pos l
      have h4 : (2 * s) * 2 ^ l ≤ 64 := by rw [show 2 * s * 2 ^ l = s * 2 ^ (l + 1) by rw [Nat.pow_succ]; simp [Nat.mul_comm, Nat.mul_left_comm, Nat.mul_assoc]]; exact h2
      have h5 : 2 * s ≤ 64 := Nat.le_trans (Nat.le_mul_of_pos_right _ hp) h4
      rw [laN] at h3
      refine fr_iload 10 dX7_lengthAt_8 rfl rfl ?_
      refine fr_if_le 42 13 dX7_lengthAt_10 rfl rfl (by omega) (fun h10 => ?_) (fun h10 => ?_)
      · exact absurd h10 (by omega)
      · refine fr_iload_n 14 dX7_lengthAt_13 rfl rfl ?_
        refine fr_iconst 15 dX7_lengthAt_14 rfl ?_
        refine fr_iload_n 16 dX7_lengthAt_15 rfl rfl ?_
        refine fr_imul 17 dX7_lengthAt_16 rfl ?_
        refine fr_irem 18 dX7_lengthAt_17 rfl (by omega) (by omega) ?_
        refine fr_top (y := ((a % (2 * s) : Nat) : Int)) (by rw [show (2 : Int) * (s : Int) = ((2 * s : Nat) : Int) by omega]; exact (Int.natCast_emod a (2 * s)).symm) ?_
        have hms : a % (2 * s) < 2 * s := Nat.mod_lt _ (by omega)
        refine fr_if_ne 42 21 dX7_lengthAt_18 rfl rfl (by omega) (fun h18 => ?_) (fun h18 => ?_)
        · refine fr_iload 44 dX7_lengthAt_42 rfl rfl ?_
          refine fr_iret dX7_lengthAt_44 rfl ?_
          refine ⟨congrArg some ?_, rfl⟩
          rw [← h3, if_neg (by omega)]
        · refine fr_iload_n 22 dX7_lengthAt_21 rfl rfl ?_
          refine fr_iconst 23 dX7_lengthAt_22 rfl ?_
          refine fr_iload_n 24 dX7_lengthAt_23 rfl rfl ?_
          refine fr_imul 25 dX7_lengthAt_24 rfl ?_
          refine fr_iadd 26 dX7_lengthAt_25 rfl ?_
          refine fr_iconst 27 dX7_lengthAt_26 rfl ?_
          refine fr_isub 28 dX7_lengthAt_27 rfl ?_
          refine fr_iload_n 29 dX7_lengthAt_28 rfl rfl ?_
          refine fr_icmp_gt 42 32 dX7_lengthAt_29 rfl rfl (by omega) (by omega) (fun h29 => ?_) (fun h29 => ?_)
          · refine fr_iload 44 dX7_lengthAt_42 rfl rfl ?_
            refine fr_iret dX7_lengthAt_44 rfl ?_
            refine ⟨congrArg some ?_, rfl⟩
            rw [← h3, if_neg (by omega)]
          · refine fr_iload_n 33 dX7_lengthAt_32 rfl rfl ?_
            refine fr_iconst 34 dX7_lengthAt_33 rfl ?_
            refine fr_imul 35 dX7_lengthAt_34 rfl ?_
            refine fr_istore_n 36 [_, _, _, _, _] dX7_lengthAt_35 rfl (Nat.le_of_ble_eq_true rfl) rfl ?_
            refine fr_iinc 39 [_, _, _, _, _] dX7_lengthAt_36 rfl rfl rfl ?_
            refine fr_goto 8 dX7_lengthAt_39 rfl ?_
            rw [if_pos (by omega)] at h3
            have e1 : ((s : Int)) * 2 = ((2 * s : Nat) : Int) := by omega
            have e2 : (((l + 1 : Nat) : Int)) + (-1) = (l : Int) := by omega
            rw [e1, e2]
            exact ih (2 * s) (by omega) (by omega) h4 h3
  refine fr_iconst 1 dX7_lengthAt_0 rfl ?_
  refine fr_istore_n 2 [_, _, _, _, _] dX7_lengthAt_1 rfl (Nat.le_of_ble_eq_true rfl) rfl ?_
  refine fr_iload_n 3 dX7_lengthAt_2 rfl rfl ?_
  refine fr_callSi 6 (M2 := mX7_width) [_] dX7_lengthAt_3 rfl fs_mX7_96 fs_oX7_width fs_sX7_width rfl (fs_Γ_rm (d := 0) (by decide)) (Nat.le_of_ble_eq_true rfl) rfl ?_
  refine (cM_width hf).ci ?_
  rw [wN_wd f]
  refine fr_istore 8 [_, _, _, _, _] dX7_lengthAt_6 rfl (Nat.le_of_ble_eq_true rfl) rfl ?_
  exact key (wN f) 1 (by omega) (by omega) (by rcases hwN with e | e <;> rw [e] <;> decide) rfl
set_option maxRecDepth 100000 in
set_option maxHeartbeats 1500000 in
theorem cM_valueOf {σ : fs_S} {t : rt} {r f i : Int} (hw : twf t) (hR : RM σ t) (hr : 0 ≤ r ∧ r < tn t) (hf : 0 ≤ f ∧ f < 4) (hi : 0 ≤ i ∧ i < 2147483648) : fs_C mX7_valueOf 2 [.inr 0, .inl r, .inl f, .inl i] σ (fun x τ => x = some (pvF (wN f) (tH t r f) 65 i (tL t r f)) ∧ τ = σ) := by
  refine fs_C.intro [some (.inr 0), some (.inl r), some (.inl f), some (.inl i), none, none, none] fs_oX7_valueOf (Nat.le_of_ble_eq_true rfl) rfl ?_
  have hn := hw.1
  obtain ⟨e1, e2, e3, e4⟩ := tLH hw hr.1 hr.2 hf.1 hf.2
  have q := hR.2.1 r f hr.1 hr.2 hf.1 hf.2
  rw [e1, e2] at q
  obtain ⟨hi', ehi⟩ : ∃ h, tH t r f = h := ⟨_, rfl⟩
  rw [ehi] at q e3 e4 ⊢
  have key : ∀ (n : Nat) (k : Int) (v : Nat), 0 ≤ k → k ≤ i → v ≤ hi' + 1 → hi' + 1 - v < n → pvF (wN f) hi' n (i - k) v = pvF (wN f) hi' 65 i (tL t r f) → fs_W (fs_Γ 2 (fun x τ => x = some (pvF (wN f) hi' 65 i (tL t r f)) ∧ τ = σ)) mX7_valueOf 27 [some (.inr 0), some (.inl r), some (.inl f), some (.inl i), some (.inl (v : Int)), some (.inl (hi' : Int)), some (.inl k)] [] σ := by
    intro n
    induction n with
    | zero => intro k v h0 h1 h2 h3; omega
    | succ n ih =>
      intro k v h0 h1 h2 h3 h4
      rw [pvF] at h4
      refine fr_iload 29 dX7_valueOf_27 rfl rfl ?_
      refine fr_iload_n 30 dX7_valueOf_29 rfl rfl ?_
      refine fr_icmp_ge 66 33 dX7_valueOf_30 rfl rfl (by omega) (by omega) (fun h30 => ?_) (fun h30 => ?_)
      · refine fr_iload 68 dX7_valueOf_66 rfl rfl ?_
        refine fr_iload 70 dX7_valueOf_68 rfl rfl ?_
        refine fr_icmp_gt 78 73 dX7_valueOf_70 rfl rfl (by omega) (by omega) (fun h70 => ?_) (fun h70 => ?_)
        · refine fr_bipush 80 dX7_valueOf_78 rfl (by decide) ?_
          refine fr_iret dX7_valueOf_80 rfl ?_
          refine ⟨congrArg some ?_, rfl⟩
          rw [← h4]
          first
          | (rw [if_pos (by omega), if_pos (by omega)])
          | (rw [if_neg (by omega)])
        · refine fr_iload 75 dX7_valueOf_73 rfl rfl ?_
          refine fr_goto 80 dX7_valueOf_75 rfl ?_
          refine fr_iret dX7_valueOf_80 rfl ?_
          refine ⟨congrArg some ?_, rfl⟩
          rw [← h4]
          first
          | (rw [if_pos (by omega), if_pos (by omega)])
          | (rw [if_neg (by omega)])
      · refine fr_iload 35 dX7_valueOf_33 rfl rfl ?_
        refine fr_iload 37 dX7_valueOf_35 rfl rfl ?_
        refine fr_icmp_gt 66 40 dX7_valueOf_37 rfl rfl (by omega) (by omega) (fun h37 => ?_) (fun h37 => ?_)
        · refine fr_iload 68 dX7_valueOf_66 rfl rfl ?_
          refine fr_iload 70 dX7_valueOf_68 rfl rfl ?_
          refine fr_icmp_gt 78 73 dX7_valueOf_70 rfl rfl (by omega) (by omega) (fun h70 => ?_) (fun h70 => ?_)
          · refine fr_bipush 80 dX7_valueOf_78 rfl (by decide) ?_
            refine fr_iret dX7_valueOf_80 rfl ?_
            refine ⟨congrArg some ?_, rfl⟩
            rw [← h4]
            first
            | (rw [if_pos (by omega), if_pos (by omega)])
            | (rw [if_neg (by omega)])
          · refine fr_iload 75 dX7_valueOf_73 rfl rfl ?_
            refine fr_goto 80 dX7_valueOf_75 rfl ?_
            refine fr_iret dX7_valueOf_80 rfl ?_
            refine ⟨congrArg some ?_, rfl⟩
            rw [← h4]
            first
            | (rw [if_pos (by omega), if_pos (by omega)])
            | (rw [if_neg (by omega)])
        · refine fr_iload 42 dX7_valueOf_40 rfl rfl ?_
          refine fr_iconst 43 dX7_valueOf_42 rfl ?_
          refine fr_iload_n 44 dX7_valueOf_43 rfl rfl ?_
          refine fr_callSi 47 (M2 := mX7_width) [_] dX7_valueOf_44 rfl fs_mX7_96 fs_oX7_width fs_sX7_width rfl (fs_Γ_rm (d := 0) (by decide)) (Nat.le_of_ble_eq_true rfl) rfl ?_
          refine (cM_width (by omega)).ci ?_
          refine fr_iload_n 48 dX7_valueOf_47 rfl rfl ?_
          refine fr_iload 50 dX7_valueOf_48 rfl rfl ?_
          refine fr_iload 52 dX7_valueOf_50 rfl rfl ?_
          refine fr_callSi 55 (M2 := mX7_lengthAt) [_, _, _] dX7_valueOf_52 rfl fs_mX7_177 fs_oX7_lengthAt fs_sX7_lengthAt rfl (fs_Γ_rm (d := 1) (by decide)) (Nat.le_of_ble_eq_true rfl) rfl ?_
          refine (cM_lengthAt (by omega) (by omega) (by omega)).ci ?_
          refine fr_isub 56 dX7_valueOf_55 rfl ?_
          refine fr_ishl 57 dX7_valueOf_56 rfl ?_
          refine fr_top (fm_shlw f (laN_le _ _ _ _)) ?_
          refine fr_iadd 58 dX7_valueOf_57 rfl ?_
          refine fr_top (y := ((nxN (wN f) v hi' : Nat) : Int)) (by unfold nxN; omega) ?_
          refine fr_istore 60 [_, _, _, _, _, _, _] dX7_valueOf_58 rfl (Nat.le_of_ble_eq_true rfl) rfl ?_
          refine fr_iinc 63 [_, _, _, _, _, _, _] dX7_valueOf_60 rfl rfl rfl ?_
          refine fr_goto 27 dX7_valueOf_63 rfl ?_
          rw [if_pos (by omega), if_neg (by omega)] at h4
          have g1 := nx_gt (wN f) v hi'
          have g2 := nx_le (w := wN f) (fr := v) (to := hi') (by omega)
          exact ih (k + 1) _ (by omega) (by omega) (by omega) (by omega) (by rw [← h4]; congr 1; omega)
  refine fr_aload_n 1 dX7_valueOf_0 rfl rfl ?_
  refine fr_getr 4 1 dX7_valueOf_1 rfl fs_kX7_7 fs_l0 rfl ?_
  refine fr_iconst 5 dX7_valueOf_4 rfl ?_
  refine fr_iload_n 6 dX7_valueOf_5 rfl rfl ?_
  refine fr_imul 7 dX7_valueOf_6 rfl ?_
  refine fr_iload_n 8 dX7_valueOf_7 rfl rfl ?_
  refine fr_iadd 9 dX7_valueOf_8 rfl ?_
  refine fr_iald 10 dX7_valueOf_9 rfl fs_l1 (by omega) ?_
  refine fr_top q.1 ?_
  refine fr_istore 12 [_, _, _, _, _, _, _] dX7_valueOf_10 rfl (Nat.le_of_ble_eq_true rfl) rfl ?_
  refine fr_aload_n 13 dX7_valueOf_12 rfl rfl ?_
  refine fr_getr 16 2 dX7_valueOf_13 rfl fs_kX7_13 fs_l0 rfl ?_
  refine fr_iconst 17 dX7_valueOf_16 rfl ?_
  refine fr_iload_n 18 dX7_valueOf_17 rfl rfl ?_
  refine fr_imul 19 dX7_valueOf_18 rfl ?_
  refine fr_iload_n 20 dX7_valueOf_19 rfl rfl ?_
  refine fr_iadd 21 dX7_valueOf_20 rfl ?_
  refine fr_iald 22 dX7_valueOf_21 rfl fs_l2 (by omega) ?_
  refine fr_top q.2 ?_
  refine fr_istore 24 [_, _, _, _, _, _, _] dX7_valueOf_22 rfl (Nat.le_of_ble_eq_true rfl) rfl ?_
  refine fr_iconst 25 dX7_valueOf_24 rfl ?_
  refine fr_istore 27 [_, _, _, _, _, _, _] dX7_valueOf_25 rfl (Nat.le_of_ble_eq_true rfl) rfl ?_
  exact key 65 0 _ (by omega) (by omega) (by omega) (by omega) (by congr 1; omega)
set_option maxRecDepth 100000 in
set_option maxHeartbeats 1500000 in
theorem cM_prefixes {σ : fs_S} {t : rt} {r f : Int} (hw : twf t) (hR : RM σ t) (hr : 0 ≤ r ∧ r < tn t) (hf : 0 ≤ f ∧ f < 4) : fs_C mX7_prefixes 3 [.inr 0, .inl r, .inl f] σ (fun x τ => x = some (spF (wN f) (tH t r f) 65 (tL t r f)) ∧ τ = σ) := by
  refine fs_C.intro [some (.inr 0), some (.inl r), some (.inl f), none] fs_oX7_prefixes (Nat.le_of_ble_eq_true rfl) rfl ?_
  obtain ⟨e1, e2, e3, e4⟩ := tLH hw hr.1 hr.2 hf.1 hf.2
  have hs := spF_r (wN f) (tH t r f) 65 (tL t r f)
  have key : ∀ (m : Nat) (k : Int), 0 ≤ k → k ≤ spF (wN f) (tH t r f) 65 (tL t r f) → spF (wN f) (tH t r f) 65 (tL t r f) - k < m → fs_W (fs_Γ 3 (fun x τ => x = some (spF (wN f) (tH t r f) 65 (tL t r f)) ∧ τ = σ)) mX7_prefixes 2 [some (.inr 0), some (.inl r), some (.inl f), some (.inl k)] [] σ := by
    intro m
    induction m with
    | zero => intro k h0 h1 h2; omega
    | succ m ih =>
      intro k h0 h1 h2
      have hp := pv_sp (wN f) (tH t r f) 65 k (tL t r f) h0
      have hq := pv_le (wN f) (tH t r f) 65 k (tL t r f)
      refine fr_aload_n 3 dX7_prefixes_2 rfl rfl ?_
      refine fr_iload_n 4 dX7_prefixes_3 rfl rfl ?_
      refine fr_iload_n 5 dX7_prefixes_4 rfl rfl ?_
      refine fr_iload_n 6 dX7_prefixes_5 rfl rfl ?_
      refine fr_callVi 9 (M2 := mX7_valueOf) [_, _, _] dX7_prefixes_6 rfl fs_mX7_180 fs_oX7_valueOf fs_iX7_valueOf fs_l0 rfl rfl (fs_Γ_rm (d := 2) (by decide)) (Nat.le_of_ble_eq_true rfl) rfl ?_
      refine (cM_valueOf hw hR hr hf (by omega)).ci ?_
      refine fr_if_lt 18 12 dX7_prefixes_9 rfl rfl (by omega) (fun h9 => ?_) (fun h9 => ?_)
      · refine fr_iload_n 19 dX7_prefixes_18 rfl rfl ?_
        refine fr_iret dX7_prefixes_19 rfl ?_
        exact ⟨congrArg some (by omega), rfl⟩
      · refine fr_iinc 15 [_, _, _, _] dX7_prefixes_12 rfl rfl rfl ?_
        refine fr_goto 2 dX7_prefixes_15 rfl ?_
        exact ih (k + 1) (by omega) (by omega) (by omega)
  refine fr_iconst 1 dX7_prefixes_0 rfl ?_
  refine fr_istore_n 2 [_, _, _, _] dX7_prefixes_1 rfl (Nat.le_of_ble_eq_true rfl) rfl ?_
  exact key 66 0 (by omega) (by omega) (by omega)
set_option maxRecDepth 100000 in
set_option maxHeartbeats 1500000 in
theorem cM_split {σ : fs_S} {t : rt} {r f : Int} (hw : twf t) (hR : RM σ t) (hr : rg r) (hf : rg f) : fs_C mX7_split 4 [.inr 0, .inl r, .inl f] σ (fun x τ => x = some (aSplit t r f) ∧ τ = σ) := by
  refine fs_C.intro [some (.inr 0), some (.inl r), some (.inl f)] fs_oX7_split (Nat.le_of_ble_eq_true rfl) rfl ?_
  have hn := hw.1
  refine fr_aload_n 1 dX7_split_0 rfl rfl ?_
  refine fr_iload_n 2 dX7_split_1 rfl rfl ?_
  refine fr_callVi 5 (M2 := mX7_isRule) [_] dX7_split_2 rfl fs_mX7_134 fs_oX7_isRule fs_iX7_isRule fs_l0 rfl rfl (fs_Γ_rm (d := 1) (by decide)) (Nat.le_of_ble_eq_true rfl) rfl ?_
  refine (cM_isRule hR.1 hn hr).ci ?_
  refine fr_if_eq 24 8 dX7_split_5 rfl rfl (by omega) (fun h5 => ?_) (fun h5 => ?_)
  · refine fr_iconst 25 dX7_split_24 rfl ?_
    refine fr_iret dX7_split_25 rfl ?_
    refine ⟨congrArg some ?_, rfl⟩
    unfold aSplit
    first
    | (rw [if_neg (by omega)])
    | (rw [if_pos (by omega)])
  · refine fr_iload_n 9 dX7_split_8 rfl rfl ?_
    refine fr_callSi 12 (M2 := mX7_isField) [_] dX7_split_9 rfl fs_mX7_127 fs_oX7_isField fs_sX7_isField rfl (fs_Γ_rm (d := 1) (by decide)) (Nat.le_of_ble_eq_true rfl) rfl ?_
    refine (cM_isField hf).ci ?_
    refine fr_if_eq 24 15 dX7_split_12 rfl rfl (by omega) (fun h12 => ?_) (fun h12 => ?_)
    · refine fr_iconst 25 dX7_split_24 rfl ?_
      refine fr_iret dX7_split_25 rfl ?_
      refine ⟨congrArg some ?_, rfl⟩
      unfold aSplit
      first
      | (rw [if_neg (by omega)])
      | (rw [if_pos (by omega)])
    · refine fr_aload_n 16 dX7_split_15 rfl rfl ?_
      refine fr_iload_n 17 dX7_split_16 rfl rfl ?_
      refine fr_iload_n 18 dX7_split_17 rfl rfl ?_
      refine fr_callVi 21 (M2 := mX7_prefixes) [_, _] dX7_split_18 rfl fs_mX7_183 fs_oX7_prefixes fs_iX7_prefixes fs_l0 rfl rfl (fs_Γ_rm (d := 3) (by decide)) (Nat.le_of_ble_eq_true rfl) rfl ?_
      refine (cM_prefixes hw hR (by omega) (by omega)).ci ?_
      refine fr_goto 25 dX7_split_21 rfl ?_
      refine fr_iret dX7_split_25 rfl ?_
      refine ⟨congrArg some ?_, rfl⟩
      unfold aSplit
      first
      | (rw [if_neg (by omega)])
      | (rw [if_pos (by omega)])
set_option maxRecDepth 100000 in
set_option maxHeartbeats 1500000 in
theorem cM_prefix {σ : fs_S} {t : rt} {r f i w : Int} (hw : twf t) (hR : RM σ t) (hr : rg r) (hf : rg f) (hi : rg i) (hww : rg w) : fs_C mX7_prefix 3 [.inr 0, .inl r, .inl f, .inl i, .inl w] σ (fun x τ => x = some (aPrefix t r f i w) ∧ τ = σ) := by
  refine fs_C.intro [some (.inr 0), some (.inl r), some (.inl f), some (.inl i), some (.inl w), none] fs_oX7_prefix (Nat.le_of_ble_eq_true rfl) rfl ?_
  have hn := hw.1
  refine fr_aload_n 1 dX7_prefix_0 rfl rfl ?_
  refine fr_iload_n 2 dX7_prefix_1 rfl rfl ?_
  refine fr_callVi 5 (M2 := mX7_isRule) [_] dX7_prefix_2 rfl fs_mX7_134 fs_oX7_isRule fs_iX7_isRule fs_l0 rfl rfl (fs_Γ_rm (d := 1) (by decide)) (Nat.le_of_ble_eq_true rfl) rfl ?_
  refine (cM_isRule hR.1 hn hr).ci ?_
  refine fr_if_eq 15 8 dX7_prefix_5 rfl rfl (by omega) (fun h5 => ?_) (fun h5 => ?_)
  · refine fr_iconst 16 dX7_prefix_15 rfl ?_
    refine fr_iret dX7_prefix_16 rfl ?_
    exact ⟨congrArg some (by unfold aPrefix; rw [if_neg (by omega)]), rfl⟩
  · refine fr_iload_n 9 dX7_prefix_8 rfl rfl ?_
    refine fr_callSi 12 (M2 := mX7_isField) [_] dX7_prefix_9 rfl fs_mX7_127 fs_oX7_isField fs_sX7_isField rfl (fs_Γ_rm (d := 1) (by decide)) (Nat.le_of_ble_eq_true rfl) rfl ?_
    refine (cM_isField hf).ci ?_
    refine fr_if_ne 17 15 dX7_prefix_12 rfl rfl (by omega) (fun h12 => ?_) (fun h12 => ?_)
    · refine fr_iload 19 dX7_prefix_17 rfl rfl ?_
      refine fr_iconst 20 dX7_prefix_19 rfl ?_
      refine fr_iconst 21 dX7_prefix_20 rfl ?_
      refine fr_callSi 24 (M2 := mX7_in) [_, _, _] dX7_prefix_21 rfl fs_mX7_100 fs_oX7_in fs_sX7_in rfl (fs_Γ_rm (d := 0) (by decide)) (Nat.le_of_ble_eq_true rfl) rfl ?_
      refine (cM_in hww (by decide) (by decide)).ci ?_
      refine fr_if_ne 30 27 dX7_prefix_24 rfl rfl (by omega) (fun h24 => ?_) (fun h24 => ?_)
      · refine fr_iload_n 31 dX7_prefix_30 rfl rfl ?_
        refine fr_if_ge 37 34 dX7_prefix_31 rfl rfl (by omega) (fun h31 => ?_) (fun h31 => ?_)
        · refine fr_aload_n 38 dX7_prefix_37 rfl rfl ?_
          refine fr_iload_n 39 dX7_prefix_38 rfl rfl ?_
          refine fr_iload_n 40 dX7_prefix_39 rfl rfl ?_
          refine fr_iload_n 41 dX7_prefix_40 rfl rfl ?_
          refine fr_callVi 44 (M2 := mX7_valueOf) [_, _, _] dX7_prefix_41 rfl fs_mX7_180 fs_oX7_valueOf fs_iX7_valueOf fs_l0 rfl rfl (fs_Γ_rm (d := 2) (by decide)) (Nat.le_of_ble_eq_true rfl) rfl ?_
          refine (cM_valueOf hw hR (r := r) (f := f) (by omega) (by omega) (by omega)).ci ?_
          have hq := pv_le (wN f) (tH t r f) 65 i (tL t r f)
          obtain ⟨e1, e2, e3, e4⟩ := tLH hw (r := r) (f := f) (by omega) (by omega) (by omega) (by omega)
          have q := hR.2.1 r f (by omega) (by omega) (by omega) (by omega)
          refine fr_istore 46 [_, _, _, _, _, _] dX7_prefix_44 rfl (Nat.le_of_ble_eq_true rfl) rfl ?_
          refine fr_iload 48 dX7_prefix_46 rfl rfl ?_
          refine fr_if_lt 56 51 dX7_prefix_48 rfl rfl (by omega) (fun h48 => ?_) (fun h48 => ?_)
          · refine fr_iload 58 dX7_prefix_56 rfl rfl ?_
            refine fr_goto 77 dX7_prefix_58 rfl ?_
            refine fr_iret dX7_prefix_77 rfl ?_
            refine ⟨congrArg some ?_, rfl⟩
            unfold aPrefix
            rw [if_pos (by omega), if_pos (by omega), if_neg (by omega)]
            first
            | (rw [if_pos (by omega)])
            | (rw [if_neg (by omega)])
          · refine fr_iload 53 dX7_prefix_51 rfl rfl ?_
            refine fr_if_ne 61 56 dX7_prefix_53 rfl rfl (by omega) (fun h53 => ?_) (fun h53 => ?_)
            · refine fr_iload_n 62 dX7_prefix_61 rfl rfl ?_
              refine fr_iload 64 dX7_prefix_62 rfl rfl ?_
              refine fr_aload_n 65 dX7_prefix_64 rfl rfl ?_
              refine fr_getr 68 2 dX7_prefix_65 rfl fs_kX7_13 fs_l0 rfl ?_
              refine fr_iconst 69 dX7_prefix_68 rfl ?_
              refine fr_iload_n 70 dX7_prefix_69 rfl rfl ?_
              refine fr_imul 71 dX7_prefix_70 rfl ?_
              refine fr_iload_n 72 dX7_prefix_71 rfl rfl ?_
              refine fr_iadd 73 dX7_prefix_72 rfl ?_
              refine fr_iald 74 dX7_prefix_73 rfl fs_l2 (by omega) ?_
              refine fr_top (q.2.trans e2) ?_
              refine fr_callSi 77 (M2 := mX7_lengthAt) [_, _, _] dX7_prefix_74 rfl fs_mX7_177 fs_oX7_lengthAt fs_sX7_lengthAt rfl (fs_Γ_rm (d := 1) (by decide)) (Nat.le_of_ble_eq_true rfl) rfl ?_
              have ev : pvF (wN f) (tH t r f) 65 i (tL t r f) = (((pvF (wN f) (tH t r f) 65 i (tL t r f)).toNat : Nat) : Int) := by omega
              rw [ev]
              refine (cM_lengthAt hf (by omega) (by omega)).ci ?_
              refine fr_iret dX7_prefix_77 rfl ?_
              refine ⟨congrArg some ?_, rfl⟩
              unfold aPrefix
              rw [if_pos (by omega), if_pos (by omega), if_neg (by omega)]
              first
              | (rw [if_pos (by omega)])
              | (rw [if_neg (by omega)])
            · refine fr_iload 58 dX7_prefix_56 rfl rfl ?_
              refine fr_goto 77 dX7_prefix_58 rfl ?_
              refine fr_iret dX7_prefix_77 rfl ?_
              refine ⟨congrArg some ?_, rfl⟩
              unfold aPrefix
              rw [if_pos (by omega), if_pos (by omega), if_neg (by omega)]
              first
              | (rw [if_pos (by omega)])
              | (rw [if_neg (by omega)])
        · refine fr_bipush 36 dX7_prefix_34 rfl (by decide) ?_
          refine fr_iret dX7_prefix_36 rfl ?_
          exact ⟨congrArg some (by unfold aPrefix; rw [if_pos (by omega), if_pos (by omega), if_pos (by omega)]), rfl⟩
      · refine fr_bipush 29 dX7_prefix_27 rfl (by decide) ?_
        refine fr_iret dX7_prefix_29 rfl ?_
        exact ⟨congrArg some (by unfold aPrefix; rw [if_pos (by omega), if_neg (by omega)]), rfl⟩
    · refine fr_iconst 16 dX7_prefix_15 rfl ?_
      refine fr_iret dX7_prefix_16 rfl ?_
      exact ⟨congrArg some (by unfold aPrefix; rw [if_neg (by omega)]), rfl⟩
