/-! ===== the class: Survey, runs and sweep ===== -/
/-- field f's runs: how many, which rules, how many numbers -/
def RV1 (σ : fs_S) (t : rt) (f v s : Int) (B : Int → Int) : Prop := SL t f v s B (fun j => σ (58 + f) j) ∧ ∀ j, 0 ≤ j → j < s → σ (54 + f) j = ((tkm t f (B j) (B j) : Nat) : Int)
def RV (σ : fs_S) (t : rt) (f : Int) : Prop := ∃ B, RV1 σ t f (gr f + 1) (σ 51 f) B
theorem RV.eq {σ τ : fs_S} {t : rt} {f : Int} (h : RV σ t f) (e51 : τ 51 f = σ 51 f) (e : ∀ i, τ (54 + f) i = σ (54 + f) i ∧ τ (58 + f) i = σ (58 + f) i) : RV τ t f := by
  obtain ⟨B, h1, h2⟩ := h
  refine ⟨B, ?_, fun j a b => ?_⟩
  · rw [e51]
    exact h1.congr (fun j _ _ => rfl) (fun j _ _ => (e j).2)
  · rw [e51] at b
    rw [(e j).1]; exact h2 j a b
abbrev Q_gr (t : rt) (f : Int) (σ : fs_S) : fs_Q := fun x τ => x = none ∧ RV τ t f ∧ (∀ k i, k ≠ 54 + f → k ≠ 58 + f → ¬ (k = 51 ∧ i = f) → τ k i = σ k i)
set_option maxRecDepth 100000 in
set_option maxHeartbeats 3000000 in
theorem cK_gatherRuns {σ : fs_S} {t : rt} {f : Int} (hw : twf t) (hP : PV σ t) (hf : 0 ≤ f ∧ f < 4) : fs_C mX4_gatherRuns 1 [.inr 48, .inl f] σ (Q_gr t f σ) := by
  refine fs_C.intro [some (.inr 48), some (.inl f), none, none, none] fs_oX4_gatherRuns (Nat.le_of_ble_eq_true rfl) rfl ?_
  have hg := gr_r f
  have key : ∀ (m : Nat) (v s : Int) (B : Int → Int) (τ : fs_S) (y : Option fs_V), 0 ≤ v → v ≤ gr f + 1 → gr f + 1 - v < m → RV1 τ t f v s B → (∀ k i, k ≠ 54 + f → k ≠ 58 + f → τ k i = σ k i) →
      fs_W (fs_Γ 1 (Q_gr t f σ)) mX4_gatherRuns 4 [some (.inr 48), some (.inl f), some (.inl (s - 1)), some (.inl v), y] [] τ := by
    intro m
    induction m with
    | zero => intro v s B τ y h0 h1 h2; omega
    | succ m ih =>
      intro v s B τ y h0 h1 h2 hV hF
      have hPt : PV τ t := hP.eq (fun k i a b => hF k i (by omega) (by omega))
      have ht := tkm_lt hw f v v
      have hs := hV.1.1
      have hm1 : 0 ≤ s - 1 → τ (54 + f) (s - 1) = ((tkm t f (B (s - 1)) (B (s - 1)) : Nat) : Int) := fun z => hV.2 (s - 1) z (by omega)
      have hm2 := tkm_lt hw f (B (s - 1)) (B (s - 1))
      have new : ∀ (ρ : fs_S), ρ (54 + f) s = ((tkm t f v v : Nat) : Int) → ρ (58 + f) s = 1 → (∀ j, j ≠ s → ρ (54 + f) j = τ (54 + f) j ∧ ρ (58 + f) j = τ (58 + f) j) → RV1 ρ t f (v + 1) (s + 1) (fun j => if j = s then v else B j) := by
        intro ρ r1 r2 r3
        refine ⟨hV.1.new h0 (fun j a b => if_neg (by omega)) (fun j a b => (r3 j (by omega)).2) (if_pos rfl) r2, fun j a b => ?_⟩
        dsimp only
        by_cases e : j = s
        · rw [if_pos e, e]; exact r1
        · rw [if_neg e, (r3 j e).1]; exact hV.2 j a (by omega)
      have more : ∀ (ρ : fs_S), 0 < v → tkm t f v v = tkm t f (B (s - 1)) (B (s - 1)) → ρ (58 + f) (s - 1) = τ (58 + f) (s - 1) + 1 → (∀ j, ρ (54 + f) j = τ (54 + f) j) → (∀ j, j ≠ s - 1 → ρ (58 + f) j = τ (58 + f) j) → RV1 ρ t f (v + 1) s B := by
        intro ρ hv0 r1 r2 r3 r4
        refine ⟨hV.1.more hv0 (fun j _ _ => rfl) (fun j a b => r4 j (by omega)) r2 (by rw [r1]; exact (hV.1.2.1 hv0).2), fun j a b => ?_⟩
        rw [r3 j]; exact hV.2 j a b
      have hs0 : v = 0 ∨ 1 ≤ s := by
        rcases Int.lt_or_le 0 v with z | z
        · exact Or.inr (hV.1.2.1 z).1
        · exact Or.inl (by omega)
      refine fr_iload_n 5 dX4_gatherRuns_4 rfl rfl ?_
      refine fr_getsN 8 0 dX4_gatherRuns_5 rfl rfl rfl fs_nX4_60 ?_
      refine fr_iload_n 9 dX4_gatherRuns_8 rfl rfl ?_
      refine fr_ialdS 10 0 dX4_gatherRuns_9 rfl rfl rfl (by decide) hf (st_gr hf) ?_
      refine fr_icmp_gt 81 13 dX4_gatherRuns_10 rfl rfl (by omega) (by omega) (fun h10 => ?_) (fun h10 => ?_)
      · refine fr_aload_n 82 dX4_gatherRuns_81 rfl rfl ?_
        refine fr_getr 85 51 dX4_gatherRuns_82 rfl fs_kX4_27 fs_l48 rfl ?_
        refine fr_iload_n 86 dX4_gatherRuns_85 rfl rfl ?_
        refine fr_iload_n 87 dX4_gatherRuns_86 rfl rfl ?_
        refine fr_iconst 88 dX4_gatherRuns_87 rfl ?_
        refine fr_iadd 89 dX4_gatherRuns_88 rfl ?_
        refine fr_iast 90 dX4_gatherRuns_89 rfl fs_l51 (by omega) ?_
        refine fr_vret dX4_gatherRuns_90 rfl ?_
        have ev : v = gr f + 1 := by omega
        subst ev
        refine ⟨rfl, ⟨B, ?_, fun j a b => ?_⟩, fun k i a b c => ?_⟩
        · rw [fs_u_eq, show s - 1 + 1 = s by omega]
          exact hV.1.congr (fun j _ _ => rfl) (fun j _ _ => fs_u_k _ _ (by omega))
        · rw [fs_u_eq] at b
          rw [fs_u_k _ _ (by omega)]
          exact hV.2 j a (by omega)
        · rw [fs_u_ne _ c]; exact hF k i a b
      · refine fr_aload_n 14 dX4_gatherRuns_13 rfl rfl ?_
        refine fr_getr 17 42 dX4_gatherRuns_14 rfl fs_kX4_42 fs_l48 rfl ?_
        refine fr_iload_n 18 dX4_gatherRuns_17 rfl rfl ?_
        refine fr_iload_n 19 dX4_gatherRuns_18 rfl rfl ?_
        refine fr_callVi 22 (M2 := mX2_ofNumber) [_, _] dX4_gatherRuns_19 rfl fs_mX4_63 fs_oX2_ofNumber fs_iX2_ofNumber fs_l42 rfl rfl (fs_Γ_rm (d := 0) (by decide)) (Nat.le_of_ble_eq_true rfl) rfl ?_
        refine (cK_ofNumber hPt hf ⟨h0, by omega⟩).ci ?_
        refine fr_istore 24 [_, _, _, _, _] dX4_gatherRuns_22 rfl (Nat.le_of_ble_eq_true rfl) rfl ?_
        refine fr_iload_n 25 dX4_gatherRuns_24 rfl rfl ?_
        refine fr_if_lt 41 28 dX4_gatherRuns_25 rfl rfl (by omega) (fun h25 => ?_) (fun h25 => ?_)
        · refine fr_iinc 44 [_, _, _, _, _] dX4_gatherRuns_41 rfl rfl rfl ?_
          refine fr_aload_n 45 dX4_gatherRuns_44 rfl rfl ?_
          refine fr_getr 48 52 dX4_gatherRuns_45 rfl fs_kX4_32 fs_l48 rfl ?_
          refine fr_iload_n 49 dX4_gatherRuns_48 rfl rfl ?_
          refine fr_aald 50 dX4_gatherRuns_49 rfl fs_l52 (by omega) ?_
          refine fr_iload_n 51 dX4_gatherRuns_50 rfl rfl ?_
          refine fr_iload 53 dX4_gatherRuns_51 rfl rfl ?_
          refine fr_iast 54 dX4_gatherRuns_53 rfl (fs_f54 _ (by omega)) (by omega) ?_
          refine fr_aload_n 55 dX4_gatherRuns_54 rfl rfl ?_
          refine fr_getr 58 53 dX4_gatherRuns_55 rfl fs_kX4_35 fs_l48 rfl ?_
          refine fr_iload_n 59 dX4_gatherRuns_58 rfl rfl ?_
          refine fr_aald 60 dX4_gatherRuns_59 rfl fs_l53 (by omega) ?_
          refine fr_iload_n 61 dX4_gatherRuns_60 rfl rfl ?_
          refine fr_iconst 62 dX4_gatherRuns_61 rfl ?_
          refine fr_iast 63 dX4_gatherRuns_62 rfl (fs_f58 _ (by omega)) (by omega) ?_
          refine fr_aload_n 64 dX4_gatherRuns_63 rfl rfl ?_
          refine fr_getr 67 53 dX4_gatherRuns_64 rfl fs_kX4_35 fs_l48 rfl ?_
          refine fr_iload_n 68 dX4_gatherRuns_67 rfl rfl ?_
          refine fr_aald 69 dX4_gatherRuns_68 rfl fs_l53 (by omega) ?_
          refine fr_iload_n 70 dX4_gatherRuns_69 rfl rfl ?_
          refine fr_dup2 71 dX4_gatherRuns_70 rfl ?_
          refine fr_iald 72 dX4_gatherRuns_71 rfl (fs_f58 _ (by omega)) (by omega) ?_
          refine fr_iconst 73 dX4_gatherRuns_72 rfl ?_
          refine fr_iadd 74 dX4_gatherRuns_73 rfl ?_
          refine fr_iast 75 dX4_gatherRuns_74 rfl (fs_f58 _ (by omega)) (by omega) ?_
          refine fr_iinc 78 [_, _, _, _, _] dX4_gatherRuns_75 rfl rfl rfl ?_
          refine fr_goto 4 dX4_gatherRuns_78 rfl ?_
          rw [show s - 1 + 1 = s + 1 - 1 by omega]
          refine ih (v + 1) (s + 1) _ _ _ (by omega) (by omega) (by omega) (new _ ?_ ?_ (fun j z => ?_)) (fun k i a b => ?_)
          · rw [show s + 1 - 1 = s by omega, fs_u_k _ _ (by omega), fs_u_k _ _ (by omega), fs_u_eq]
          · rw [show s + 1 - 1 = s by omega, fs_u_eq, fs_u_eq]; rfl
          · rw [show s + 1 - 1 = s by omega]
            exact ⟨by rw [fs_u_k _ _ (by omega), fs_u_k _ _ (by omega), fs_u_i _ z], by rw [fs_u_i _ z, fs_u_i _ z, fs_u_k _ _ (by omega)]⟩
          · rw [fs_u_k _ _ b, fs_u_k _ _ b, fs_u_k _ _ a]; exact hF k i a b
        · refine fr_iload 30 dX4_gatherRuns_28 rfl rfl ?_
          refine fr_aload_n 31 dX4_gatherRuns_30 rfl rfl ?_
          refine fr_getr 34 52 dX4_gatherRuns_31 rfl fs_kX4_32 fs_l48 rfl ?_
          refine fr_iload_n 35 dX4_gatherRuns_34 rfl rfl ?_
          refine fr_aald 36 dX4_gatherRuns_35 rfl fs_l52 (by omega) ?_
          refine fr_iload_n 37 dX4_gatherRuns_36 rfl rfl ?_
          refine fr_iald 38 dX4_gatherRuns_37 rfl (fs_f54 _ (by omega)) ⟨(by omega : 0 ≤ s - 1), (by omega : s - 1 < 64)⟩ ?_
          refine fr_top (hm1 (by omega)) ?_
          refine fr_icmp_eq 63 41 dX4_gatherRuns_38 rfl rfl (by omega) (by omega) (fun h38 => ?_) (fun h38 => ?_)
          · refine fr_aload_n 64 dX4_gatherRuns_63 rfl rfl ?_
            refine fr_getr 67 53 dX4_gatherRuns_64 rfl fs_kX4_35 fs_l48 rfl ?_
            refine fr_iload_n 68 dX4_gatherRuns_67 rfl rfl ?_
            refine fr_aald 69 dX4_gatherRuns_68 rfl fs_l53 (by omega) ?_
            refine fr_iload_n 70 dX4_gatherRuns_69 rfl rfl ?_
            refine fr_dup2 71 dX4_gatherRuns_70 rfl ?_
            refine fr_iald 72 dX4_gatherRuns_71 rfl (fs_f58 _ (by omega)) (by omega) ?_
            refine fr_iconst 73 dX4_gatherRuns_72 rfl ?_
            refine fr_iadd 74 dX4_gatherRuns_73 rfl ?_
            refine fr_iast 75 dX4_gatherRuns_74 rfl (fs_f58 _ (by omega)) (by omega) ?_
            refine fr_iinc 78 [_, _, _, _, _] dX4_gatherRuns_75 rfl rfl rfl ?_
            refine fr_goto 4 dX4_gatherRuns_78 rfl ?_
            refine ih (v + 1) s B _ _ (by omega) (by omega) (by omega) (more _ (by omega) (by omega) (fs_u_eq _ _ _ _) (fun j => fs_u_k _ _ (by omega)) (fun j z => fs_u_i _ z)) (fun k i a b => ?_)
            rw [fs_u_k _ _ b]; exact hF k i a b
          · refine fr_iinc 44 [_, _, _, _, _] dX4_gatherRuns_41 rfl rfl rfl ?_
            refine fr_aload_n 45 dX4_gatherRuns_44 rfl rfl ?_
            refine fr_getr 48 52 dX4_gatherRuns_45 rfl fs_kX4_32 fs_l48 rfl ?_
            refine fr_iload_n 49 dX4_gatherRuns_48 rfl rfl ?_
            refine fr_aald 50 dX4_gatherRuns_49 rfl fs_l52 (by omega) ?_
            refine fr_iload_n 51 dX4_gatherRuns_50 rfl rfl ?_
            refine fr_iload 53 dX4_gatherRuns_51 rfl rfl ?_
            refine fr_iast 54 dX4_gatherRuns_53 rfl (fs_f54 _ (by omega)) (by omega) ?_
            refine fr_aload_n 55 dX4_gatherRuns_54 rfl rfl ?_
            refine fr_getr 58 53 dX4_gatherRuns_55 rfl fs_kX4_35 fs_l48 rfl ?_
            refine fr_iload_n 59 dX4_gatherRuns_58 rfl rfl ?_
            refine fr_aald 60 dX4_gatherRuns_59 rfl fs_l53 (by omega) ?_
            refine fr_iload_n 61 dX4_gatherRuns_60 rfl rfl ?_
            refine fr_iconst 62 dX4_gatherRuns_61 rfl ?_
            refine fr_iast 63 dX4_gatherRuns_62 rfl (fs_f58 _ (by omega)) (by omega) ?_
            refine fr_aload_n 64 dX4_gatherRuns_63 rfl rfl ?_
            refine fr_getr 67 53 dX4_gatherRuns_64 rfl fs_kX4_35 fs_l48 rfl ?_
            refine fr_iload_n 68 dX4_gatherRuns_67 rfl rfl ?_
            refine fr_aald 69 dX4_gatherRuns_68 rfl fs_l53 (by omega) ?_
            refine fr_iload_n 70 dX4_gatherRuns_69 rfl rfl ?_
            refine fr_dup2 71 dX4_gatherRuns_70 rfl ?_
            refine fr_iald 72 dX4_gatherRuns_71 rfl (fs_f58 _ (by omega)) (by omega) ?_
            refine fr_iconst 73 dX4_gatherRuns_72 rfl ?_
            refine fr_iadd 74 dX4_gatherRuns_73 rfl ?_
            refine fr_iast 75 dX4_gatherRuns_74 rfl (fs_f58 _ (by omega)) (by omega) ?_
            refine fr_iinc 78 [_, _, _, _, _] dX4_gatherRuns_75 rfl rfl rfl ?_
            refine fr_goto 4 dX4_gatherRuns_78 rfl ?_
            rw [show s - 1 + 1 = s + 1 - 1 by omega]
            refine ih (v + 1) (s + 1) _ _ _ (by omega) (by omega) (by omega) (new _ ?_ ?_ (fun j z => ?_)) (fun k i a b => ?_)
            · rw [show s + 1 - 1 = s by omega, fs_u_k _ _ (by omega), fs_u_k _ _ (by omega), fs_u_eq]
            · rw [show s + 1 - 1 = s by omega, fs_u_eq, fs_u_eq]; rfl
            · rw [show s + 1 - 1 = s by omega]
              exact ⟨by rw [fs_u_k _ _ (by omega), fs_u_k _ _ (by omega), fs_u_i _ z], by rw [fs_u_i _ z, fs_u_i _ z, fs_u_k _ _ (by omega)]⟩
            · rw [fs_u_k _ _ b, fs_u_k _ _ b, fs_u_k _ _ a]; exact hF k i a b
  refine fr_iconst 1 dX4_gatherRuns_0 rfl ?_
  refine fr_istore_n 2 [_, _, _, _, _] dX4_gatherRuns_1 rfl (Nat.le_of_ble_eq_true rfl) rfl ?_
  refine fr_iconst 3 dX4_gatherRuns_2 rfl ?_
  refine fr_istore_n 4 [_, _, _, _, _] dX4_gatherRuns_3 rfl (Nat.le_of_ble_eq_true rfl) rfl ?_
  exact key ((gr f + 1).toNat + 1) 0 0 (fun _ => 0) σ _ (by omega) (by omega) (by omega) ⟨SL.zero t f _ _, fun j a b => by omega⟩ (fun _ _ _ _ => rfl)
