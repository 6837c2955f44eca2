/-! ===== the class: Cutter, a leaf counted ===== -/
def Q_al (h : Int) (σ : fs_S) : fs_Q := fun x τ => x = none ∧ (τ 74 3 = σ 74 3 + 1 ∧ τ 74 5 = σ 74 5 + h ∧ τ 74 6 = max (σ 74 6) h ∧ τ 74 7 = σ 74 7 + (if h = 0 then 1 else 0)) ∧ ∀ k i, ¬ (k = 74 ∧ (i = 3 ∨ i = 5 ∨ i = 6 ∨ i = 7)) → τ k i = σ k i
set_option maxRecDepth 100000 in
set_option maxHeartbeats 3000000 in
theorem cK_addLeaf {σ : fs_S} {h : Int} (hh : 0 ≤ h ∧ h ≤ 16) (hx : 0 ≤ σ 74 6 ∧ σ 74 6 ≤ 16) : fs_C mX0_addLeaf 1 [.inr 74, .inl h] σ (Q_al h σ) := by
  refine fs_C.intro [some (.inr 74), some (.inl h)] fs_oX0_addLeaf (Nat.le_of_ble_eq_true rfl) rfl ?_
  obtain ⟨S, eS⟩ : ∃ S, S = fs_u (fs_u σ 74 3 (σ 74 3 + 1)) 74 5 (fs_u σ 74 3 (σ 74 3 + 1) 74 5 + h) := ⟨_, rfl⟩
  have s3 : S 74 3 = σ 74 3 + 1 := by rw [eS, fs_u_i _ (by decide), fs_u_eq]
  have s5 : S 74 5 = σ 74 5 + h := by rw [eS, fs_u_eq, fs_u_i _ (by decide)]
  have sF : ∀ k i, ¬ (k = 74 ∧ (i = 3 ∨ i = 5)) → S k i = σ k i := fun k i z => by rw [eS, fs_u_ne _ (by omega), fs_u_ne _ (by omega)]
  have s6 : S 74 6 = σ 74 6 := sF _ _ (by decide)
  have s7 : S 74 7 = σ 74 7 := sF _ _ (by decide)
  refine fr_aload_n 1 dX0_addLeaf_0 rfl rfl ?_
  refine fr_dup 2 dX0_addLeaf_1 rfl ?_
  refine fr_geti 5 3 dX0_addLeaf_2 rfl fs_kX0_21 rfl fs_l74 rfl ?_
  refine fr_iconst 6 dX0_addLeaf_5 rfl ?_
  refine fr_iadd 7 dX0_addLeaf_6 rfl ?_
  refine fr_puti 10 3 dX0_addLeaf_7 rfl fs_kX0_21 fs_pX0_3 rfl fs_l74 rfl ?_
  refine fr_aload_n 11 dX0_addLeaf_10 rfl rfl ?_
  refine fr_dup 12 dX0_addLeaf_11 rfl ?_
  refine fr_geti 15 5 dX0_addLeaf_12 rfl fs_kX0_27 rfl fs_l74 rfl ?_
  refine fr_iload_n 16 dX0_addLeaf_15 rfl rfl ?_
  refine fr_iadd 17 dX0_addLeaf_16 rfl ?_
  refine fr_puti 20 5 dX0_addLeaf_17 rfl fs_kX0_27 fs_pX0_5 rfl fs_l74 rfl ?_
  rw [← eS]
  refine fr_aload_n 21 dX0_addLeaf_20 rfl rfl ?_
  refine fr_aload_n 22 dX0_addLeaf_21 rfl rfl ?_
  refine fr_geti 25 6 dX0_addLeaf_22 rfl fs_kX0_30 rfl fs_l74 rfl ?_
  refine fr_iload_n 26 dX0_addLeaf_25 rfl rfl ?_
  refine fr_mmax 29 dX0_addLeaf_26 rfl fs_mX0_66 fs_sJ9_max_7cf53 fs_iniMath fs_cdmax (fs_Γ_rm (d := 0) (by decide)) (Nat.le_of_ble_eq_true rfl) (by omega) (by omega) ?_
  refine fr_puti 32 6 dX0_addLeaf_29 rfl fs_kX0_30 fs_pX0_6 rfl fs_l74 rfl ?_
  refine fr_iload_n 33 dX0_addLeaf_32 rfl rfl ?_
  refine fr_if_ne 46 36 dX0_addLeaf_33 rfl rfl (by omega) (fun h33 => ?_) (fun h33 => ?_)
  · refine fr_vret dX0_addLeaf_46 rfl ?_
    refine ⟨rfl, ⟨?_, ?_, ?_, ?_⟩, fun k i z => ?_⟩
    · unfold fs_u; (repeat' split) <;> omega
    · unfold fs_u; (repeat' split) <;> omega
    · unfold fs_u; (repeat' split) <;> omega
    · unfold fs_u; (repeat' split) <;> omega
    · have := sF k i (by omega); unfold fs_u; (repeat' split) <;> omega
  · refine fr_aload_n 37 dX0_addLeaf_36 rfl rfl ?_
    refine fr_dup 38 dX0_addLeaf_37 rfl ?_
    refine fr_geti 41 7 dX0_addLeaf_38 rfl fs_kX0_33 rfl fs_l74 rfl ?_
    refine fr_iconst 42 dX0_addLeaf_41 rfl ?_
    refine fr_iadd 43 dX0_addLeaf_42 rfl ?_
    refine fr_puti 46 7 dX0_addLeaf_43 rfl fs_kX0_33 fs_pX0_7 rfl fs_l74 rfl ?_
    refine fr_vret dX0_addLeaf_46 rfl ?_
    refine ⟨rfl, ⟨?_, ?_, ?_, ?_⟩, fun k i z => ?_⟩
    · unfold fs_u; (repeat' split) <;> omega
    · unfold fs_u; (repeat' split) <;> omega
    · unfold fs_u; (repeat' split) <;> omega
    · unfold fs_u; (repeat' split) <;> omega
    · have := sF k i (by omega); unfold fs_u; (repeat' split) <;> omega
