/-! ===== the class: packets, drafts, what is told ===== -/
set_option maxRecDepth 100000 in
set_option maxHeartbeats 3000000 in
theorem cK_fitting {σ : fs_S} {t : rt} (hw : twf t) (hn : σ 27 0 = tn t) (hP : PV σ t) (hv : ∀ f, 0 ≤ f → f < 4 → 0 ≤ σ 82 f ∧ σ 82 f ≤ gr f) : fs_C mX2_fitting 1 [.inr 42, .inr 82] σ (fun x τ => x = some ((tfit t (σ 82 0) (σ 82 1) (σ 82 2) (σ 82 3) : Nat) : Int) ∧ τ = σ) := by
  refine fs_C.intro [some (.inr 42), some (.inr 82), none, none] fs_oX2_fitting (Nat.le_of_ble_eq_true rfl) rfl ?_
  have hA : ∀ f v, bm (fun _ => true) (tn t).toNat &&& tkm t f v v = tkm t f v v := fun f v => by
    unfold tkm; rw [bm_and]; exact bm_congr (fun q a b => by simp)
  have l0 := tkm_lt hw 0 (σ 82 0) (σ 82 0)
  have l1 := tkm_lt hw 1 (σ 82 1) (σ 82 1)
  have l2 := tkm_lt hw 2 (σ 82 2) (σ 82 2)
  have l3 := tkm_lt hw 3 (σ 82 3) (σ 82 3)
  have lA := bm_pow (fun _ => true) (n := (tn t).toNat) (by have := hw.1; omega)
  have step : ∀ (f : Int) (m : Nat), 0 ≤ f → f < 4 → m < 65536 → fs_W (fs_Γ 1 (fun x τ => x = some ((tfit t (σ 82 0) (σ 82 1) (σ 82 2) (σ 82 3) : Nat) : Int) ∧ τ = σ)) mX2_fitting 7 [some (.inr 42), some (.inr 82), some (.inl ((m &&& tkm t f (σ 82 f) (σ 82 f) : Nat) : Int)), some (.inl (f + 1))] [] σ → fs_W (fs_Γ 1 (fun x τ => x = some ((tfit t (σ 82 0) (σ 82 1) (σ 82 2) (σ 82 3) : Nat) : Int) ∧ τ = σ)) mX2_fitting 7 [some (.inr 42), some (.inr 82), some (.inl (m : Int)), some (.inl f)] [] σ := by
    intro f m h0 h1 hm kk
    have lt := tkm_lt hw f (σ 82 f) (σ 82 f)
    refine fr_iload_n 8 dX2_fitting_7 rfl rfl ?_
    refine fr_iconst 9 dX2_fitting_8 rfl ?_
    refine fr_icmp_ge 29 12 dX2_fitting_9 rfl rfl (by omega) (by omega) (fun h9 => ?_) (fun h9 => ?_)
    · omega
    · refine fr_iload_n 13 dX2_fitting_12 rfl rfl ?_
      refine fr_aload_n 14 dX2_fitting_13 rfl rfl ?_
      refine fr_iload_n 15 dX2_fitting_14 rfl rfl ?_
      refine fr_aload_n 16 dX2_fitting_15 rfl rfl ?_
      refine fr_iload_n 17 dX2_fitting_16 rfl rfl ?_
      refine fr_iald 18 dX2_fitting_17 rfl fs_l82 (by omega) ?_
      refine fr_callVi 21 (M2 := mX2_ofNumber) [_, _] dX2_fitting_18 rfl fs_mX2_47 fs_oX2_ofNumber fs_iX2_ofNumber fs_l42 rfl rfl (fs_Γ_rm (d := 0) (by decide)) (Nat.le_of_ble_eq_true rfl) rfl ?_
      refine (cK_ofNumber hP ⟨h0, h1⟩ (hv f h0 h1)).ci ?_
      refine fr_iand 22 dX2_fitting_21 rfl ?_
      refine fr_top (fm_and (by omega) (by omega)) ?_
      refine fr_istore_n 23 [_, _, _, _] dX2_fitting_22 rfl (Nat.le_of_ble_eq_true rfl) rfl ?_
      refine fr_iinc 26 [_, _, _, _] dX2_fitting_23 rfl rfl rfl ?_
      refine fr_goto 7 dX2_fitting_26 rfl ?_
      exact kk
  refine fr_aload_n 1 dX2_fitting_0 rfl rfl ?_
  refine fr_callVi 4 (M2 := mX2_all) [] dX2_fitting_1 rfl fs_mX2_43 fs_oX2_all fs_iX2_all fs_l42 rfl rfl (fs_Γ_rm (d := 0) (by decide)) (Nat.le_of_ble_eq_true rfl) rfl ?_
  refine (cK_all hw hn).ci ?_
  refine fr_istore_n 5 [_, _, _, _] dX2_fitting_4 rfl (Nat.le_of_ble_eq_true rfl) rfl ?_
  refine fr_iconst 6 dX2_fitting_5 rfl ?_
  refine fr_istore_n 7 [_, _, _, _] dX2_fitting_6 rfl (Nat.le_of_ble_eq_true rfl) rfl ?_
  refine step 0 _ (by decide) (by decide) lA ?_
  rw [hA]
  refine step 1 _ (by decide) (by decide) l0 ?_
  refine step 2 _ (by decide) (by decide) (Nat.lt_of_le_of_lt Nat.and_le_left l0) ?_
  refine step 3 _ (by decide) (by decide) (Nat.lt_of_le_of_lt (Nat.le_trans Nat.and_le_left Nat.and_le_left) l0) ?_
  refine fr_iload_n 8 dX2_fitting_7 rfl rfl ?_
  refine fr_iconst 9 dX2_fitting_8 rfl ?_
  refine fr_icmp_ge 29 12 dX2_fitting_9 rfl rfl (by omega) (by omega) (fun h9 => ?_) (fun h9 => ?_)
  · refine fr_iload_n 30 dX2_fitting_29 rfl rfl ?_
    refine fr_iret dX2_fitting_30 rfl ?_
    exact ⟨rfl, rfl⟩
  · exact absurd h9 (by decide)
set_option maxRecDepth 100000 in
set_option maxHeartbeats 3000000 in
theorem cK_setPacket {σ : fs_S} {a b c d : Int} : fs_C mX6_setPacket 0 [.inr 26, .inl a, .inl b, .inl c, .inl d] σ (fun x τ => x = none ∧ (τ 82 0 = a ∧ τ 82 1 = b ∧ τ 82 2 = c ∧ τ 82 3 = d) ∧ (∀ k i, k ≠ 82 → τ k i = σ k i)) := by
  refine fs_C.intro [some (.inr 26), some (.inl a), some (.inl b), some (.inl c), some (.inl d)] fs_oX6_setPacket (Nat.le_of_ble_eq_true rfl) rfl ?_
  refine fr_aload_n 1 dX6_setPacket_0 rfl rfl ?_
  refine fr_getr 4 82 dX6_setPacket_1 rfl fs_kX6_64 fs_l26 rfl ?_
  refine fr_iconst 5 dX6_setPacket_4 rfl ?_
  refine fr_iload_n 6 dX6_setPacket_5 rfl rfl ?_
  refine fr_iast 7 dX6_setPacket_6 rfl fs_l82 (by omega) ?_
  refine fr_aload_n 8 dX6_setPacket_7 rfl rfl ?_
  refine fr_getr 11 82 dX6_setPacket_8 rfl fs_kX6_64 fs_l26 rfl ?_
  refine fr_iconst 12 dX6_setPacket_11 rfl ?_
  refine fr_iload_n 13 dX6_setPacket_12 rfl rfl ?_
  refine fr_iast 14 dX6_setPacket_13 rfl fs_l82 (by omega) ?_
  refine fr_aload_n 15 dX6_setPacket_14 rfl rfl ?_
  refine fr_getr 18 82 dX6_setPacket_15 rfl fs_kX6_64 fs_l26 rfl ?_
  refine fr_iconst 19 dX6_setPacket_18 rfl ?_
  refine fr_iload_n 20 dX6_setPacket_19 rfl rfl ?_
  refine fr_iast 21 dX6_setPacket_20 rfl fs_l82 (by omega) ?_
  refine fr_aload_n 22 dX6_setPacket_21 rfl rfl ?_
  refine fr_getr 25 82 dX6_setPacket_22 rfl fs_kX6_64 fs_l26 rfl ?_
  refine fr_iconst 26 dX6_setPacket_25 rfl ?_
  refine fr_iload 28 dX6_setPacket_26 rfl rfl ?_
  refine fr_iast 29 dX6_setPacket_28 rfl fs_l82 (by omega) ?_
  refine fr_vret dX6_setPacket_29 rfl ?_
  refine ⟨rfl, ⟨?_, ?_, ?_, ?_⟩, fun k i z => ?_⟩
  · rw [fs_u_i _ (by decide), fs_u_i _ (by decide), fs_u_i _ (by decide), fs_u_eq]
  · rw [fs_u_i _ (by decide), fs_u_i _ (by decide), fs_u_eq]
  · rw [fs_u_i _ (by decide), fs_u_eq]
  · rw [fs_u_eq]
  · rw [fs_u_k _ _ z, fs_u_k _ _ z, fs_u_k _ _ z, fs_u_k _ _ z]
set_option maxRecDepth 100000 in
set_option maxHeartbeats 3000000 in
theorem cK_ruleAt {σ : fs_S} {t : rt} {p : Int} (hw : twf t) (hn : σ 27 0 = tn t) (hO : OC σ t) (hp : rg p) : fs_C mX6_ruleAt 0 [.inr 26, .inl p] σ (fun x τ => x = some (if 0 ≤ p ∧ p < tn t then tod t p else -6) ∧ τ = σ) := by
  refine fs_C.intro [some (.inr 26), some (.inl p)] fs_oX6_ruleAt (Nat.le_of_ble_eq_true rfl) rfl ?_
  have hn' := hw.1
  refine fr_iload_n 1 dX6_ruleAt_0 rfl rfl ?_
  refine fr_if_lt 27 4 dX6_ruleAt_1 rfl rfl (by omega) (fun h1 => ?_) (fun h1 => ?_)
  · refine fr_bipush 29 dX6_ruleAt_27 rfl (by decide) ?_
    refine fr_iret dX6_ruleAt_29 rfl ?_
    refine ⟨congrArg some ?_, rfl⟩
    first
    | (rw [if_neg (by omega)])
    | (rw [if_pos (by omega)]; exact hO.1 p (by omega) (by omega))
  · refine fr_iload_n 5 dX6_ruleAt_4 rfl rfl ?_
    refine fr_aload_n 6 dX6_ruleAt_5 rfl rfl ?_
    refine fr_getr 9 27 dX6_ruleAt_6 rfl fs_kX6_10 fs_l26 rfl ?_
    refine fr_geti 12 0 dX6_ruleAt_9 rfl fs_kX6_84 rfl fs_l27 rfl ?_
    refine fr_icmp_ge 27 15 dX6_ruleAt_12 rfl rfl (by omega) (by omega) (fun h12 => ?_) (fun h12 => ?_)
    · refine fr_bipush 29 dX6_ruleAt_27 rfl (by decide) ?_
      refine fr_iret dX6_ruleAt_29 rfl ?_
      refine ⟨congrArg some ?_, rfl⟩
      first
      | (rw [if_neg (by omega)])
      | (rw [if_pos (by omega)]; exact hO.1 p (by omega) (by omega))
    · refine fr_aload_n 16 dX6_ruleAt_15 rfl rfl ?_
      refine fr_getr 19 27 dX6_ruleAt_16 rfl fs_kX6_10 fs_l26 rfl ?_
      refine fr_getr 22 32 dX6_ruleAt_19 rfl fs_kX6_276 fs_l27 rfl ?_
      refine fr_iload_n 23 dX6_ruleAt_22 rfl rfl ?_
      refine fr_iald 24 dX6_ruleAt_23 rfl fs_l32 (by omega) ?_
      refine fr_goto 29 dX6_ruleAt_24 rfl ?_
      refine fr_iret dX6_ruleAt_29 rfl ?_
      refine ⟨congrArg some ?_, rfl⟩
      first
      | (rw [if_neg (by omega)])
      | (rw [if_pos (by omega)]; exact hO.1 p (by omega) (by omega))
set_option maxRecDepth 100000 in
set_option maxHeartbeats 3000000 in
theorem cK_clearDraft {σ : fs_S} : fs_C mX6_clearDraft 0 [.inr 26] σ (fun x τ => x = none ∧ (∀ f, 0 ≤ f → f < 4 → τ 80 f = 0 ∧ τ 81 f = gr f) ∧ (∀ k i, k ≠ 80 → k ≠ 81 → τ k i = σ k i)) := by
  refine fs_C.intro [some (.inr 26), none] fs_oX6_clearDraft (Nat.le_of_ble_eq_true rfl) rfl ?_
  have key : ∀ (m : Nat) (f : Int) (τ : fs_S), 0 ≤ f → f ≤ 4 → 4 - f < m → (∀ g, 0 ≤ g → g < f → τ 80 g = 0 ∧ τ 81 g = gr g) → (∀ k i, k ≠ 80 → k ≠ 81 → τ k i = σ k i) → fs_W (fs_Γ 0 (fun x τ => x = none ∧ (∀ f, 0 ≤ f → f < 4 → τ 80 f = 0 ∧ τ 81 f = gr f) ∧ (∀ k i, k ≠ 80 → k ≠ 81 → τ k i = σ k i))) mX6_clearDraft 2 [some (.inr 26), some (.inl f)] [] τ := by
    intro m
    induction m with
    | zero => intro f τ h0 h1 h2; omega
    | succ m ih =>
      intro f τ h0 h1 h2 hI hF
      refine fr_iload_n 3 dX6_clearDraft_2 rfl rfl ?_
      refine fr_iconst 4 dX6_clearDraft_3 rfl ?_
      refine fr_icmp_ge 31 7 dX6_clearDraft_4 rfl rfl (by omega) (by omega) (fun h4 => ?_) (fun h4 => ?_)
      · refine fr_vret dX6_clearDraft_31 rfl ?_
        exact ⟨rfl, fun g a b => hI g a (by omega), hF⟩
      · refine fr_aload_n 8 dX6_clearDraft_7 rfl rfl ?_
        refine fr_getr 11 80 dX6_clearDraft_8 rfl fs_kX6_57 fs_l26 rfl ?_
        refine fr_iload_n 12 dX6_clearDraft_11 rfl rfl ?_
        refine fr_iconst 13 dX6_clearDraft_12 rfl ?_
        refine fr_iast 14 dX6_clearDraft_13 rfl fs_l80 (by omega) ?_
        refine fr_aload_n 15 dX6_clearDraft_14 rfl rfl ?_
        refine fr_getr 18 81 dX6_clearDraft_15 rfl fs_kX6_61 fs_l26 rfl ?_
        refine fr_iload_n 19 dX6_clearDraft_18 rfl rfl ?_
        refine fr_gets 22 0 dX6_clearDraft_19 rfl rfl rfl fs_kX6_263 ?_
        refine fr_iload_n 23 dX6_clearDraft_22 rfl rfl ?_
        refine fr_ialdS 24 0 dX6_clearDraft_23 rfl rfl rfl (by decide) ⟨h0, (by omega : f < 4)⟩ (st_gr ⟨h0, by omega⟩) ?_
        refine fr_iast 25 dX6_clearDraft_24 rfl fs_l81 (by omega) ?_
        refine fr_iinc 28 [_, _] dX6_clearDraft_25 rfl rfl rfl ?_
        refine fr_goto 2 dX6_clearDraft_28 rfl ?_
        refine ih (f + 1) _ (by omega) (by omega) (by omega) (fun g a b => ?_) (fun k i z1 z2 => ?_)
        · by_cases e : g = f
          · subst e
            exact ⟨by rw [fs_u_k _ _ (by decide)]; exact fs_u_eq _ _ _ _, fs_u_eq _ _ _ _⟩
          · have := hI g a (by omega)
            exact ⟨by rw [fs_u_k _ _ (by decide), fs_u_i _ e]; exact this.1, by rw [fs_u_i _ e, fs_u_k _ _ (by decide)]; exact this.2⟩
        · rw [fs_u_k _ _ z2, fs_u_k _ _ z1]; exact hF k i z1 z2
  refine fr_iconst 1 dX6_clearDraft_0 rfl ?_
  refine fr_istore_n 2 [_, _] dX6_clearDraft_1 rfl (Nat.le_of_ble_eq_true rfl) rfl ?_
  exact key 5 0 σ (by omega) (by omega) (by omega) (fun g a b => by omega) (fun _ _ _ _ => rfl)
