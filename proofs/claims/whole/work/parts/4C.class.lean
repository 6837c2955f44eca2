/-! ===== the class: prefixes told, what needs no survey ===== -/
theorem pvF_no {w hi n v : Nat} {i : Int} (h : ¬ v ≤ hi) : pvF w hi (n + 1) i v = -6 := if_neg h
theorem pvF_at {w hi n v : Nat} {i : Int} (h : v ≤ hi) (g : i ≤ 0) : pvF w hi (n + 1) i v = (v : Int) := by rw [pvF, if_pos h, if_pos g]
theorem pvF_go {w hi n v : Nat} {i : Int} (h : v ≤ hi) (g : ¬ i ≤ 0) : pvF w hi (n + 1) i v = pvF w hi n (i - 1) (nxN w v hi) := by rw [pvF, if_pos h, if_neg g]
theorem olF_no {w hi n v : Nat} {l : Int} (h : ¬ v ≤ hi) : olF w hi l (n + 1) v = 0 := if_neg h
theorem olF_go {w hi n v : Nat} {l : Int} (h : v ≤ hi) : olF w hi l (n + 1) v = (if ((laN v hi w 1 : Nat) : Int) = l then 1 else 0) + olF w hi l n (nxN w v hi) := if_pos h
theorem spF_ol (W hi : Nat) : ∀ (n v : Nat), spF W hi n v = sm (fun l => olF W hi l n v) (W + 1)
  | 0, v => (sm_zero (W + 1)).symm
  | n + 1, v => by
    have hle := laN_le v hi W 1
    rw [spF]
    by_cases hv : v ≤ hi
    · have e1 : sm (fun l => olF W hi l (n + 1) v) (W + 1) = sm (fun l => (if l = ((laN v hi W 1 : Nat) : Int) then 1 else 0) + olF W hi l n (nxN W v hi)) (W + 1) := sm_congr (fun i _ _ => by
        rw [olF_go hv]
        by_cases e : i = ((laN v hi W 1 : Nat) : Int)
        · rw [if_pos e.symm, if_pos e]
        · rw [if_neg (fun z => e z.symm), if_neg e])
      rw [if_pos hv, spF_ol W hi n (nxN W v hi), e1, sm_add, sm_one (by omega) (by omega)]
    · have e1 : sm (fun l => olF W hi l (n + 1) v) (W + 1) = sm (fun _ => 0) (W + 1) := sm_congr (fun i _ _ => olF_no hv)
      rw [if_neg hv, e1, sm_zero]
def pvR (t : rt) (r f i : Int) : Int := if i < 0 ∨ pvF (wN f) (tH t r f) 65 i (tL t r f) < 0 then -1 else pvF (wN f) (tH t r f) 65 i (tL t r f)
set_option maxRecDepth 100000 in
set_option maxHeartbeats 3000000 in
theorem cK_prefixValue {σ : fs_S} {t : rt} {r f i : Int} (hw : twf t) (hR : RC 27 σ t) (hr : 0 ≤ r ∧ r < tn t) (hf : 0 ≤ f ∧ f < 4) (hi : rg i) : fs_C mX3_prefixValue 1 [.inr 27, .inl r, .inl f, .inl i] σ (fun y τ => y = some (pvR t r f i) ∧ τ = σ) := by
  refine fs_C.intro [some (.inr 27), some (.inl r), some (.inl f), some (.inl i), none, none] fs_oX3_prefixValue (Nat.le_of_ble_eq_true rfl) rfl ?_
  have hn := hw.1
  have e := hR.lh hr hf
  obtain ⟨q1, q2, q3, q4⟩ := tLH hw hr.1 hr.2 hf.1 hf.2
  have hW := wN_r f
  obtain ⟨P0, eP⟩ : ∃ P, P = pvF (wN f) (tH t r f) 65 i (tL t r f) := ⟨_, rfl⟩
  have eR : pvR t r f i = if i < 0 ∨ P0 < 0 then -1 else P0 := by rw [eP]; rfl
  have key : ∀ (m k v : Nat), k ≤ 64 → 64 - k < m → k ≤ v → v ≤ tH t r f + 1 → tL t r f ≤ v → noS (wN f) (tL t r f) (tH t r f) v → (0 ≤ i → (k : Int) ≤ i ∧ P0 = pvF (wN f) (tH t r f) (65 - k) (i - (k : Int)) v) → fs_W (fs_Γ 1 (fun y τ => y = some (pvR t r f i) ∧ τ = σ)) mX3_prefixValue 13 [some (.inr 27), some (.inl r), some (.inl f), some (.inl i), some (.inl (v : Int)), some (.inl (k : Int))] [] σ := by
    intro m
    induction m with
    | zero => intro k v h1 h2; omega
    | succ m ih =>
      intro k v h1 h2 h3 h4 h5 hS hI
      have none : ¬ v ≤ tH t r f → -1 = pvR t r f i := fun z => by
        rw [eR]
        by_cases h : i < 0
        · rw [if_pos (Or.inl h)]
        · have q := (hI (by omega)).2
          rw [show 65 - k = (64 - k) + 1 by omega, pvF_no z] at q
          rw [if_pos (Or.inr (by omega))]
      have hle := laN_le v (tH t r f) (wN f) 1
      have sl := fm_shlw f hle
      refine fr_iload 15 dX3_prefixValue_13 rfl rfl ?_
      refine fr_bipush 17 dX3_prefixValue_15 rfl (by decide) ?_
      refine fr_icmp_ge 69 20 dX3_prefixValue_17 rfl rfl (by omega) (by omega) (fun h17 => ?_) (fun h17 => ?_)
      · refine fr_iconst 70 dX3_prefixValue_69 rfl ?_
        refine fr_iret dX3_prefixValue_70 rfl ?_
        exact ⟨congrArg some (none (by omega)), rfl⟩
      · refine fr_iload 22 dX3_prefixValue_20 rfl rfl ?_
        refine fr_aload_n 23 dX3_prefixValue_22 rfl rfl ?_
        refine fr_getr 26 29 dX3_prefixValue_23 rfl fs_kX3_20 fs_l27 rfl ?_
        refine fr_iload_n 27 dX3_prefixValue_26 rfl rfl ?_
        refine fr_aald 28 dX3_prefixValue_27 rfl fs_l29 (by omega) ?_
        refine fr_iload_n 29 dX3_prefixValue_28 rfl rfl ?_
        refine fr_iald 30 dX3_prefixValue_29 rfl (fs_f38 _ (by omega)) (by omega) ?_
        refine fr_top (e.2.trans q2) ?_
        refine fr_icmp_gt 69 33 dX3_prefixValue_30 rfl rfl (by omega) (by omega) (fun h30 => ?_) (fun h30 => ?_)
        · refine fr_iconst 70 dX3_prefixValue_69 rfl ?_
          refine fr_iret dX3_prefixValue_70 rfl ?_
          exact ⟨congrArg some (none (by omega)), rfl⟩
        · refine fr_iload 35 dX3_prefixValue_33 rfl rfl ?_
          refine fr_iload_n 36 dX3_prefixValue_35 rfl rfl ?_
          refine fr_icmp_ne 42 39 dX3_prefixValue_36 rfl rfl (by omega) (by omega) (fun h36 => ?_) (fun h36 => ?_)
          · refine fr_iload 44 dX3_prefixValue_42 rfl rfl ?_
            refine fr_iconst 45 dX3_prefixValue_44 rfl ?_
            refine fr_getsN 48 1 dX3_prefixValue_45 rfl rfl rfl fs_nX3_60 ?_
            refine fr_iload_n 49 dX3_prefixValue_48 rfl rfl ?_
            refine fr_ialdS 50 1 dX3_prefixValue_49 rfl rfl rfl (by decide) hf (st_wd hf) ?_
            refine fr_aload_n 51 dX3_prefixValue_50 rfl rfl ?_
            refine fr_iload_n 52 dX3_prefixValue_51 rfl rfl ?_
            refine fr_iload_n 53 dX3_prefixValue_52 rfl rfl ?_
            refine fr_iload 55 dX3_prefixValue_53 rfl rfl ?_
            refine fr_callVi 58 (M2 := mX3_prefixLength) [_, _, _] dX3_prefixValue_55 rfl fs_mX3_63 fs_oX3_prefixLength fs_iX3_prefixLength fs_l27 rfl rfl (fs_Γ_rm (d := 0) (by decide)) (Nat.le_of_ble_eq_true rfl) rfl ?_
            refine (cK_prefixLength hw hR hr hf (by omega) (la_PL hS h5 (Nat.le_refl v) (nx_gt _ _ _) (by omega))).ci ?_
            refine fr_isub 59 dX3_prefixValue_58 rfl ?_
            refine fr_ishl 60 dX3_prefixValue_59 rfl ?_
            refine fr_top sl ?_
            refine fr_iadd 61 dX3_prefixValue_60 rfl ?_
            refine fr_istore 63 [_, _, _, _, _, _] dX3_prefixValue_61 rfl (Nat.le_of_ble_eq_true rfl) rfl ?_
            refine fr_iinc 66 [_, _, _, _, _, _] dX3_prefixValue_63 rfl rfl rfl ?_
            refine fr_goto 13 dX3_prefixValue_66 rfl ?_
            have en : (v : Int) + ((2 ^ (wN f - laN v (tH t r f) (wN f) 1) : Nat) : Int) = ((nxN (wN f) v (tH t r f) : Nat) : Int) := rfl
            have g := nx_gt (wN f) v (tH t r f)
            have hnx := nx_le (w := wN f) (fr := v) (to := tH t r f) (by omega)
            have := ih (k + 1) (nxN (wN f) v (tH t r f)) (by omega) (by omega) (by omega) hnx (by omega) (noS_nx hS) (fun z => by
              obtain ⟨z1, z2⟩ := hI z
              refine ⟨by omega, ?_⟩
              rw [z2, show 65 - k = (65 - (k + 1)) + 1 by omega, pvF_go (by omega) (by omega)]
              congr 1
              omega)
            exact this
          · refine fr_iload 41 dX3_prefixValue_39 rfl rfl ?_
            refine fr_iret dX3_prefixValue_41 rfl ?_
            refine ⟨congrArg some ?_, rfl⟩
            have q := (hI (by omega)).2
            rw [show 65 - k = (64 - k) + 1 by omega, pvF_at (by omega) (by omega)] at q
            rw [eR, q, if_neg (by omega)]
  refine fr_aload_n 1 dX3_prefixValue_0 rfl rfl ?_
  refine fr_getr 4 28 dX3_prefixValue_1 rfl fs_kX3_17 fs_l27 rfl ?_
  refine fr_iload_n 5 dX3_prefixValue_4 rfl rfl ?_
  refine fr_aald 6 dX3_prefixValue_5 rfl fs_l28 (by omega) ?_
  refine fr_iload_n 7 dX3_prefixValue_6 rfl rfl ?_
  refine fr_iald 8 dX3_prefixValue_7 rfl (fs_f34 _ (by omega)) (by omega) ?_
  refine fr_top (e.1.trans q1) ?_
  refine fr_istore 10 [_, _, _, _, _, _] dX3_prefixValue_8 rfl (Nat.le_of_ble_eq_true rfl) rfl ?_
  refine fr_iconst 11 dX3_prefixValue_10 rfl ?_
  refine fr_istore 13 [_, _, _, _, _, _] dX3_prefixValue_11 rfl (Nat.le_of_ble_eq_true rfl) rfl ?_
  exact key 65 0 (tL t r f) (by omega) (by omega) (by omega) (by omega) (Nat.le_refl _) (noS_lo _ _ _) (fun z => ⟨z, by rw [show i - ((0 : Nat) : Int) = i by omega]; exact eP⟩)
set_option maxRecDepth 100000 in
set_option maxHeartbeats 3000000 in
theorem cK_overlap {σ : fs_S} {t : rt} {a b : Int} (hw : twf t) (hR : RC 27 σ t) (ha : rg a) (hb : rg b) : fs_C mX6_overlap 2 [.inr 26, .inl a, .inl b] σ (fun x τ => x = some (aOverlap t a b) ∧ τ = σ) := by
  refine fs_C.intro [some (.inr 26), some (.inl a), some (.inl b), none, none] fs_oX6_overlap (Nat.le_of_ble_eq_true rfl) rfl ?_
  have hn := hw.1
  have i01 : ∀ p : Prop, [Decidable p] → ((if p then (1 : Int) else 0) = 0 ↔ ¬ p) := fun p _ => by split <;> simp_all
  have key : ∀ (m : Nat) (f : Int), (0 ≤ a ∧ a < tn t) → (0 ≤ b ∧ b < tn t) → 0 ≤ f → f ≤ 4 → 4 - f < m → fs_W (fs_Γ 2 (fun x τ => x = some (aOverlap t a b) ∧ τ = σ)) mX6_overlap 29 [some (.inr 26), some (.inl a), some (.inl b), some (.inl (prI (tsh t a b) f)), some (.inl f)] [] σ := by
    intro m
    induction m with
    | zero => intro f hA hB h0 h1 h2; omega
    | succ m ih =>
      intro f hA hB h0 h1 h2
      refine fr_iload 31 dX6_overlap_29 rfl rfl ?_
      refine fr_iconst 32 dX6_overlap_31 rfl ?_
      refine fr_icmp_ge 55 35 dX6_overlap_32 rfl rfl (by omega) (by omega) (fun h32 => ?_) (fun h32 => ?_)
      · refine fr_iload_n 56 dX6_overlap_55 rfl rfl ?_
        refine fr_iret dX6_overlap_56 rfl ?_
        exact ⟨congrArg some (by unfold aOverlap; rw [if_pos ⟨hA, hB⟩, show f = 4 by omega]), rfl⟩
      · refine fr_iload_n 36 dX6_overlap_35 rfl rfl ?_
        refine fr_aload_n 37 dX6_overlap_36 rfl rfl ?_
        refine fr_getr 40 27 dX6_overlap_37 rfl fs_kX6_10 fs_l26 rfl ?_
        refine fr_iload_n 41 dX6_overlap_40 rfl rfl ?_
        refine fr_iload_n 42 dX6_overlap_41 rfl rfl ?_
        refine fr_iload 44 dX6_overlap_42 rfl rfl ?_
        refine fr_callVi 47 (M2 := mX3_shared) [_, _, _] dX6_overlap_44 rfl fs_mX6_140 fs_oX3_shared fs_iX3_shared fs_l27 rfl rfl (fs_Γ_rm (d := 1) (by decide)) (Nat.le_of_ble_eq_true rfl) rfl ?_
        refine (cK_shared hw hR hA hB ⟨h0, by omega⟩).ci ?_
        refine fr_imul 48 dX6_overlap_47 rfl ?_
        refine fr_top (prI_s _ h0).symm ?_
        refine fr_istore_n 49 [_, _, _, _, _] dX6_overlap_48 rfl (Nat.le_of_ble_eq_true rfl) rfl ?_
        refine fr_iinc 52 [_, _, _, _, _] dX6_overlap_49 rfl rfl rfl ?_
        refine fr_goto 29 dX6_overlap_52 rfl ?_
        exact ih (f + 1) hA hB (by omega) (by omega) (by omega)
  refine fr_aload_n 1 dX6_overlap_0 rfl rfl ?_
  refine fr_getr 4 27 dX6_overlap_1 rfl fs_kX6_10 fs_l26 rfl ?_
  refine fr_iload_n 5 dX6_overlap_4 rfl rfl ?_
  refine fr_callVi 8 (M2 := mX3_has) [_] dX6_overlap_5 rfl fs_mX6_95 fs_oX3_has fs_iX3_has fs_l27 rfl rfl (fs_Γ_rm (d := 0) (by decide)) (Nat.le_of_ble_eq_true rfl) rfl ?_
  refine (cK_has hw hR.1 ha).ci ?_
  refine fr_if_eq 22 11 dX6_overlap_8 rfl rfl (by split <;> decide) (fun h8 => ?_) (fun h8 => ?_)
  · refine fr_iconst 23 dX6_overlap_22 rfl ?_
    refine fr_iret dX6_overlap_23 rfl ?_
    refine ⟨congrArg some ?_, rfl⟩
    unfold aOverlap
    rw [if_neg]
    intro z
    first
    | (rw [i01] at h19; exact h19 z.2)
    | (rw [i01] at h8; exact h8 z.1)
  · refine fr_aload_n 12 dX6_overlap_11 rfl rfl ?_
    refine fr_getr 15 27 dX6_overlap_12 rfl fs_kX6_10 fs_l26 rfl ?_
    refine fr_iload_n 16 dX6_overlap_15 rfl rfl ?_
    refine fr_callVi 19 (M2 := mX3_has) [_] dX6_overlap_16 rfl fs_mX6_95 fs_oX3_has fs_iX3_has fs_l27 rfl rfl (fs_Γ_rm (d := 0) (by decide)) (Nat.le_of_ble_eq_true rfl) rfl ?_
    refine (cK_has hw hR.1 hb).ci ?_
    refine fr_if_ne 24 22 dX6_overlap_19 rfl rfl (by split <;> decide) (fun h19 => ?_) (fun h19 => ?_)
    · refine fr_iconst 25 dX6_overlap_24 rfl ?_
      refine fr_istore_n 26 [_, _, _, _, _] dX6_overlap_25 rfl (Nat.le_of_ble_eq_true rfl) rfl ?_
      refine fr_iconst 27 dX6_overlap_26 rfl ?_
      refine fr_istore 29 [_, _, _, _, _] dX6_overlap_27 rfl (Nat.le_of_ble_eq_true rfl) rfl ?_
      rw [i01] at h8 h19
      exact key 5 0 (Decidable.not_not.1 h8) (Decidable.not_not.1 h19) (by omega) (by omega) (by omega)
    · refine fr_iconst 23 dX6_overlap_22 rfl ?_
      refine fr_iret dX6_overlap_23 rfl ?_
      refine ⟨congrArg some ?_, rfl⟩
      unfold aOverlap
      rw [if_neg]
      intro z
      first
      | (rw [i01] at h19; exact h19 z.2)
      | (rw [i01] at h8; exact h8 z.1)
set_option maxRecDepth 100000 in
set_option maxHeartbeats 3000000 in
theorem cK_covered {σ : fs_S} {t : rt} {r : Int} (hw : twf t) (hR : RC 27 σ t) (hO : OC σ t) (hr : rg r) : fs_C mX6_covered 2 [.inr 26, .inl r] σ (fun x τ => x = some (aCovered t r) ∧ τ = σ) := by
  refine fs_C.intro [some (.inr 26), some (.inl r)] fs_oX6_covered (Nat.le_of_ble_eq_true rfl) rfl ?_
  have i01 : ∀ p : Prop, [Decidable p] → ((if p then (1 : Int) else 0) = 0 ↔ ¬ p) := fun p _ => by split <;> simp_all
  refine fr_aload_n 1 dX6_covered_0 rfl rfl ?_
  refine fr_getr 4 27 dX6_covered_1 rfl fs_kX6_10 fs_l26 rfl ?_
  refine fr_iload_n 5 dX6_covered_4 rfl rfl ?_
  refine fr_callVi 8 (M2 := mX3_has) [_] dX6_covered_5 rfl fs_mX6_95 fs_oX3_has fs_iX3_has fs_l27 rfl rfl (fs_Γ_rm (d := 0) (by decide)) (Nat.le_of_ble_eq_true rfl) rfl ?_
  refine (cK_has hw hR.1 hr).ci ?_
  refine fr_if_ne 13 11 dX6_covered_8 rfl rfl (by split <;> decide) (fun h8 => ?_) (fun h8 => ?_)
  · have hr' : 0 ≤ r ∧ r < tn t := Decidable.not_not.1 (fun z => h8 ((i01 _).2 z))
    refine fr_aload_n 14 dX6_covered_13 rfl rfl ?_
    refine fr_getr 17 27 dX6_covered_14 rfl fs_kX6_10 fs_l26 rfl ?_
    refine fr_iload_n 18 dX6_covered_17 rfl rfl ?_
    refine fr_callVi 21 (M2 := mX3_coverOf) [_] dX6_covered_18 rfl fs_mX6_144 fs_oX3_coverOf fs_iX3_coverOf fs_l27 rfl rfl (fs_Γ_rm (d := 1) (by decide)) (Nat.le_of_ble_eq_true rfl) rfl ?_
    refine (cK_coverOf hw hR hO hr').ci ?_
    refine fr_iret dX6_covered_21 rfl ?_
    exact ⟨congrArg some (if_pos hr').symm, rfl⟩
  · refine fr_iconst 12 dX6_covered_11 rfl ?_
    refine fr_iret dX6_covered_12 rfl ?_
    exact ⟨congrArg some (by unfold aCovered; rw [if_neg]; exact (i01 _).1 (by omega)), rfl⟩
