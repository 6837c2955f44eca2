/-! ===== the class: how a range is split, and what is told ===== -/
theorem i01 (p : Prop) [Decidable p] : (if p then (1 : Int) else 0) = 0 ↔ ¬ p := by split <;> simp_all
theorem i01' (p : Prop) [Decidable p] : ¬ (if p then (1 : Int) else 0) = 0 ↔ p := by split <;> simp_all
set_option maxRecDepth 100000 in
set_option maxHeartbeats 3000000 in
theorem cK_split {σ : fs_S} {t : rt} {r f : Int} (hw : twf t) (hR : RC 27 σ t) (hr : rg r) (hf : rg f) : fs_C mX6_split 3 [.inr 26, .inl r, .inl f] σ (fun x τ => x = some (aSplit t r f) ∧ τ = σ) := by
  refine fs_C.intro [some (.inr 26), some (.inl r), some (.inl f), none, none] fs_oX6_split (Nat.le_of_ble_eq_true rfl) rfl ?_
  have key : ∀ (m l : Nat), (0 ≤ r ∧ r < tn t) → (0 ≤ f ∧ f < 4) → l ≤ wN f + 1 → wN f + 1 - l < m → fs_W (fs_Γ 3 (fun x τ => x = some (aSplit t r f) ∧ τ = σ)) mX6_split 25 [some (.inr 26), some (.inl r), some (.inl f), some (.inl (sm (fun l => ol t r f l) l)), some (.inl (l : Int))] [] σ := by
    intro m
    induction m with
    | zero => intro l hA hB h1 h2; omega
    | succ m ih =>
      intro l hA hB h1 h2
      have hW := wN_r f
      have ewd := wN_wd f
      refine fr_iload 27 dX6_split_25 rfl rfl ?_
      refine fr_gets 30 1 dX6_split_27 rfl rfl rfl fs_kX6_157 ?_
      refine fr_iload_n 31 dX6_split_30 rfl rfl ?_
      refine fr_ialdS 32 1 dX6_split_31 rfl rfl rfl (by decide) hB (st_wd hB) ?_
      refine fr_icmp_gt 55 35 dX6_split_32 rfl rfl (by omega) (by omega) (fun h32 => ?_) (fun h32 => ?_)
      · refine fr_iload_n 56 dX6_split_55 rfl rfl ?_
        refine fr_iret dX6_split_56 rfl ?_
        refine ⟨congrArg some ?_, rfl⟩
        unfold aSplit
        rw [if_pos ⟨hA, hB⟩, spF_ol, show l = wN f + 1 by omega]
        rfl
      · refine fr_iload_n 36 dX6_split_35 rfl rfl ?_
        refine fr_aload_n 37 dX6_split_36 rfl rfl ?_
        refine fr_getr 40 27 dX6_split_37 rfl fs_kX6_10 fs_l26 rfl ?_
        refine fr_iload_n 41 dX6_split_40 rfl rfl ?_
        refine fr_iload_n 42 dX6_split_41 rfl rfl ?_
        refine fr_iload 44 dX6_split_42 rfl rfl ?_
        refine fr_callVi 47 (M2 := mX3_prefixesOf) [_, _, _] dX6_split_44 rfl fs_mX6_160 fs_oX3_prefixesOf fs_iX3_prefixesOf fs_l27 rfl rfl (fs_Γ_rm (d := 2) (by decide)) (Nat.le_of_ble_eq_true rfl) rfl ?_
        refine (cK_prefixesOf hw hR hA hB (len := l) (by omega)).ci ?_
        refine fr_iadd 48 dX6_split_47 rfl ?_
        refine fr_istore_n 49 [_, _, _, _, _] dX6_split_48 rfl (Nat.le_of_ble_eq_true rfl) rfl ?_
        refine fr_iinc 52 [_, _, _, _, _] dX6_split_49 rfl rfl rfl ?_
        refine fr_goto 25 dX6_split_52 rfl ?_
        exact ih (l + 1) hA hB (by omega) (by omega)
  refine fr_aload_n 1 dX6_split_0 rfl rfl ?_
  refine fr_getr 4 27 dX6_split_1 rfl fs_kX6_10 fs_l26 rfl ?_
  refine fr_iload_n 5 dX6_split_4 rfl rfl ?_
  refine fr_callVi 8 (M2 := mX3_has) [_] dX6_split_5 rfl fs_mX6_95 fs_oX3_has fs_iX3_has fs_l27 rfl rfl (fs_Γ_rm (d := 0) (by decide)) (Nat.le_of_ble_eq_true rfl) rfl ?_
  refine (cK_has hw hR.1 hr).ci ?_
  refine fr_if_eq 18 11 dX6_split_8 rfl rfl (by split <;> decide) (fun h8 => ?_) (fun h8 => ?_)
  · refine fr_iconst 19 dX6_split_18 rfl ?_
    refine fr_iret dX6_split_19 rfl ?_
    refine ⟨congrArg some ?_, rfl⟩
    unfold aSplit
    rw [if_neg]
    intro z
    first
    | (rw [i01] at h15; exact h15 z.2)
    | (rw [i01] at h8; exact h8 z.1)
  · refine fr_iload_n 12 dX6_split_11 rfl rfl ?_
    refine fr_callSi 15 (M2 := mX6_isField) [_] dX6_split_12 rfl fs_mX6_70 fs_oX6_isField fs_sX6_isField rfl (fs_Γ_rm (d := 0) (by decide)) (Nat.le_of_ble_eq_true rfl) rfl ?_
    refine (cK_isField hf).ci ?_
    refine fr_if_ne 20 18 dX6_split_15 rfl rfl (by split <;> decide) (fun h15 => ?_) (fun h15 => ?_)
    · refine fr_iconst 21 dX6_split_20 rfl ?_
      refine fr_istore_n 22 [_, _, _, _, _] dX6_split_21 rfl (Nat.le_of_ble_eq_true rfl) rfl ?_
      refine fr_iconst 23 dX6_split_22 rfl ?_
      refine fr_istore 25 [_, _, _, _, _] dX6_split_23 rfl (Nat.le_of_ble_eq_true rfl) rfl ?_
      exact key (wN f + 2) 0 ((i01' _).1 h8) ((i01' _).1 h15) (by omega) (by omega)
    · refine fr_iconst 19 dX6_split_18 rfl ?_
      refine fr_iret dX6_split_19 rfl ?_
      refine ⟨congrArg some ?_, rfl⟩
      unfold aSplit
      rw [if_neg]
      intro z
      first
      | (rw [i01] at h15; exact h15 z.2)
      | (rw [i01] at h8; exact h8 z.1)
theorem pvF_noS {W lo hi : Nat} : ∀ (n : Nat) (i : Int) (v : Nat), noS W lo hi v → lo ≤ v → 0 ≤ pvF W hi n i v → noS W lo hi (pvF W hi n i v).toNat ∧ lo ≤ (pvF W hi n i v).toNat ∧ (pvF W hi n i v).toNat ≤ hi
  | 0, i, v, _, _, h => absurd h (by rw [pvF]; decide)
  | n + 1, i, v, h1, h2, h3 => by
    by_cases hv : v ≤ hi
    · by_cases hi' : i ≤ 0
      · rw [pvF_at hv hi']
        exact ⟨h1, h2, hv⟩
      · rw [pvF_go hv hi'] at h3 ⊢
        have g := nx_gt W v hi
        exact pvF_noS n (i - 1) _ (noS_nx h1) (by omega) h3
    · rw [pvF_no hv] at h3; omega
set_option maxRecDepth 100000 in
set_option maxHeartbeats 3000000 in
theorem cK_prefix {σ : fs_S} {t : rt} {r f i w : Int} (hw : twf t) (hR : RC 27 σ t) (hr : rg r) (hf : rg f) (hi : rg i) (hww : rg w) : fs_C mX6_prefix 2 [.inr 26, .inl r, .inl f, .inl i, .inl w] σ (fun x τ => x = some (aPrefix t r f i w) ∧ τ = σ) := by
  refine fs_C.intro [some (.inr 26), some (.inl r), some (.inl f), some (.inl i), some (.inl w), none] fs_oX6_prefix (Nat.le_of_ble_eq_true rfl) rfl ?_
  have k34 : (0 ≤ r ∧ r < tn t) → (0 ≤ f ∧ f < 4) → (0 ≤ w ∧ w ≤ 1) → fs_W (fs_Γ 2 (fun x τ => x = some (aPrefix t r f i w) ∧ τ = σ)) mX6_prefix 34 [some (.inr 26), some (.inl r), some (.inl f), some (.inl i), some (.inl w), none] [] σ := by
    intro hA hB hC
    have eA : aPrefix t r f i w = _ := (if_pos ⟨hA, hB⟩).trans (if_pos hC)
    rw [eA]
    clear eA
    have pl := pv_le (wN f) (tH t r f) 65 i (tL t r f)
    obtain ⟨q1, q2, q3, q4⟩ := tLH hw hA.1 hA.2 hB.1 hB.2
    obtain ⟨P, eP⟩ : ∃ P, P = pvF (wN f) (tH t r f) 65 i (tL t r f) := ⟨_, rfl⟩
    have eR : pvR t r f i = if i < 0 ∨ P < 0 then -1 else P := by rw [eP]; rfl
    rw [← eP] at pl ⊢
    by_cases hn : i < 0 ∨ P < 0
    · have eR' : pvR t r f i = -1 := by rw [eR, if_pos hn]
      refine fr_aload_n 35 dX6_prefix_34 rfl rfl ?_
      refine fr_getr 38 27 dX6_prefix_35 rfl fs_kX6_10 fs_l26 rfl ?_
      refine fr_iload_n 39 dX6_prefix_38 rfl rfl ?_
      refine fr_iload_n 40 dX6_prefix_39 rfl rfl ?_
      refine fr_iload_n 41 dX6_prefix_40 rfl rfl ?_
      refine fr_callVi 44 (M2 := mX3_prefixValue) [_, _, _] dX6_prefix_41 rfl fs_mX6_163 fs_oX3_prefixValue fs_iX3_prefixValue fs_l27 rfl rfl (fs_Γ_rm (d := 1) (by decide)) (Nat.le_of_ble_eq_true rfl) rfl ?_
      refine (cK_prefixValue hw hR hA hB hi).ci ?_
      rw [eR']
      refine fr_istore 46 [_, _, _, _, _, _] dX6_prefix_44 rfl (Nat.le_of_ble_eq_true rfl) rfl ?_
      refine fr_iload 48 dX6_prefix_46 rfl rfl ?_
      refine fr_if_ge 54 51 dX6_prefix_48 rfl rfl (by omega) (fun h48 => ?_) (fun h48 => ?_)
      · exact absurd h48 (by decide)
      · refine fr_bipush 53 dX6_prefix_51 rfl (by decide) ?_
        refine fr_iret dX6_prefix_53 rfl ?_
        refine ⟨congrArg some ?_, rfl⟩
        by_cases h : i < 0
        · rw [if_pos h]
        · rw [if_neg h, if_pos (by omega)]; omega
    · have eR' : pvR t r f i = P := by rw [eR, if_neg hn]
      obtain ⟨n, en⟩ : ∃ n : Nat, P = (n : Int) := Int.eq_ofNat_of_zero_le (by omega)
      refine fr_aload_n 35 dX6_prefix_34 rfl rfl ?_
      refine fr_getr 38 27 dX6_prefix_35 rfl fs_kX6_10 fs_l26 rfl ?_
      refine fr_iload_n 39 dX6_prefix_38 rfl rfl ?_
      refine fr_iload_n 40 dX6_prefix_39 rfl rfl ?_
      refine fr_iload_n 41 dX6_prefix_40 rfl rfl ?_
      refine fr_callVi 44 (M2 := mX3_prefixValue) [_, _, _] dX6_prefix_41 rfl fs_mX6_163 fs_oX3_prefixValue fs_iX3_prefixValue fs_l27 rfl rfl (fs_Γ_rm (d := 1) (by decide)) (Nat.le_of_ble_eq_true rfl) rfl ?_
      refine (cK_prefixValue hw hR hA hB hi).ci ?_
      rw [eR']
      refine fr_istore 46 [_, _, _, _, _, _] dX6_prefix_44 rfl (Nat.le_of_ble_eq_true rfl) rfl ?_
      refine fr_iload 48 dX6_prefix_46 rfl rfl ?_
      refine fr_if_ge 54 51 dX6_prefix_48 rfl rfl (by omega) (fun h48 => ?_) (fun h48 => ?_)
      · have qn := pvF_noS (lo := tL t r f) 65 i (tL t r f) (noS_lo _ _ _) (Nat.le_refl _) (by rw [← eP]; omega)
        rw [← eP, show P.toNat = n by omega] at qn
        have c := cK_prefixLength (σ := σ) hw hR hA hB (by omega) (la_PL (x := n) qn.1 qn.2.1 (Nat.le_refl n) (nx_gt _ _ _) qn.2.2)
        rw [← en] at c
        rw [show P.toNat = n by omega]
        refine fr_iload 56 dX6_prefix_54 rfl rfl ?_
        refine fr_if_ne 64 59 dX6_prefix_56 rfl rfl (by omega) (fun h56 => ?_) (fun h56 => ?_)
        · refine fr_aload_n 65 dX6_prefix_64 rfl rfl ?_
          refine fr_getr 68 27 dX6_prefix_65 rfl fs_kX6_10 fs_l26 rfl ?_
          refine fr_iload_n 69 dX6_prefix_68 rfl rfl ?_
          refine fr_iload_n 70 dX6_prefix_69 rfl rfl ?_
          refine fr_iload 72 dX6_prefix_70 rfl rfl ?_
          refine fr_callVi 75 (M2 := mX3_prefixLength) [_, _, _] dX6_prefix_72 rfl fs_mX6_166 fs_oX3_prefixLength fs_iX3_prefixLength fs_l27 rfl rfl (fs_Γ_rm (d := 0) (by decide)) (Nat.le_of_ble_eq_true rfl) rfl ?_
          refine c.ci ?_
          refine fr_iret dX6_prefix_75 rfl ?_
          refine ⟨congrArg some ?_, rfl⟩
          rw [if_neg (by omega)]
          first
          | (rw [if_pos (by omega)])
          | (rw [if_neg (by omega)])
        · refine fr_iload 61 dX6_prefix_59 rfl rfl ?_
          refine fr_goto 75 dX6_prefix_61 rfl ?_
          refine fr_iret dX6_prefix_75 rfl ?_
          refine ⟨congrArg some ?_, rfl⟩
          rw [if_neg (by omega)]
          first
          | (rw [if_pos (by omega)])
          | (rw [if_neg (by omega)])
      · omega
  refine fr_aload_n 1 dX6_prefix_0 rfl rfl ?_
  refine fr_getr 4 27 dX6_prefix_1 rfl fs_kX6_10 fs_l26 rfl ?_
  refine fr_iload_n 5 dX6_prefix_4 rfl rfl ?_
  refine fr_callVi 8 (M2 := mX3_has) [_] dX6_prefix_5 rfl fs_mX6_95 fs_oX3_has fs_iX3_has fs_l27 rfl rfl (fs_Γ_rm (d := 0) (by decide)) (Nat.le_of_ble_eq_true rfl) rfl ?_
  refine (cK_has hw hR.1 hr).ci ?_
  refine fr_if_eq 18 11 dX6_prefix_8 rfl rfl (by split <;> decide) (fun h8 => ?_) (fun h8 => ?_)
  · refine fr_iconst 19 dX6_prefix_18 rfl ?_
    refine fr_iret dX6_prefix_19 rfl ?_
    refine ⟨congrArg some ?_, rfl⟩
    unfold aPrefix
    rw [if_neg]
    intro z
    first
    | (rw [i01] at h15; exact h15 z.2)
    | (rw [i01] at h8; exact h8 z.1)
  · refine fr_iload_n 12 dX6_prefix_11 rfl rfl ?_
    refine fr_callSi 15 (M2 := mX6_isField) [_] dX6_prefix_12 rfl fs_mX6_70 fs_oX6_isField fs_sX6_isField rfl (fs_Γ_rm (d := 0) (by decide)) (Nat.le_of_ble_eq_true rfl) rfl ?_
    refine (cK_isField hf).ci ?_
    refine fr_if_ne 20 18 dX6_prefix_15 rfl rfl (by split <;> decide) (fun h15 => ?_) (fun h15 => ?_)
    · have hA := (i01' _).1 h8
      have hB := (i01' _).1 h15
      clear h8 h15
      refine fr_iload 22 dX6_prefix_20 rfl rfl ?_
      refine fr_if_eq 34 25 dX6_prefix_22 rfl rfl (by omega) (fun h22 => ?_) (fun h22 => ?_)
      · exact k34 hA hB (by omega)
      · refine fr_iload 27 dX6_prefix_25 rfl rfl ?_
        refine fr_iconst 28 dX6_prefix_27 rfl ?_
        refine fr_icmp_eq 34 31 dX6_prefix_28 rfl rfl (by omega) (by omega) (fun h28 => ?_) (fun h28 => ?_)
        · exact k34 hA hB (by omega)
        · refine fr_bipush 33 dX6_prefix_31 rfl (by decide) ?_
          refine fr_iret dX6_prefix_33 rfl ?_
          refine ⟨congrArg some ?_, rfl⟩
          unfold aPrefix
          rw [if_pos ⟨hA, hB⟩, if_neg (by omega)]
    · refine fr_iconst 19 dX6_prefix_18 rfl ?_
      refine fr_iret dX6_prefix_19 rfl ?_
      refine ⟨congrArg some ?_, rfl⟩
      unfold aPrefix
      rw [if_neg]
      intro z
      first
      | (rw [i01] at h15; exact h15 z.2)
      | (rw [i01] at h8; exact h8 z.1)
