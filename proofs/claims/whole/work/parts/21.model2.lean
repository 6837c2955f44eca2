/-! ===== the model: stretches, meet, sweep ===== -/
def Q_lay (t : rt) (σ : fs_S) : fs_Q := fun x τ => x = none ∧ (∀ f, 0 ≤ f → f < 4 → SL t f (gr f + 1) (τ 9 f) (fun j => τ 7 (64 * f + j)) (fun j => τ 8 (64 * f + j))) ∧ (∀ k i, k ≠ 7 → k ≠ 8 → k ≠ 9 → τ k i = σ k i)
set_option maxRecDepth 100000 in
set_option maxHeartbeats 4000000 in
theorem cM_layStretches {σ : fs_S} {t : rt} (hw : twf t) (hO : ∀ f v, 0 ≤ f → f < 4 → 0 ≤ v → v ≤ gr f → σ 6 (64 * f + v) = ((tkm t f v v : Nat) : Int)) : fs_C mX7_layStretches 2 [.inr 0] σ (Q_lay t σ) := by
  refine fs_C.intro [some (.inr 0), none, none] fs_oX7_layStretches (Nat.le_of_ble_eq_true rfl) rfl ?_
  have k2 : ∀ (m : Nat) (f v : Int) (τ : fs_S), 0 ≤ f → f < 4 → 0 ≤ v → v ≤ gr f + 1 → gr f + 1 - v < m → (∀ k i, k ≠ 7 → k ≠ 8 → k ≠ 9 → τ k i = σ k i) → (∀ f', 0 ≤ f' → f' < f → SL t f' (gr f' + 1) (τ 9 f') (fun j => τ 7 (64 * f' + j)) (fun j => τ 8 (64 * f' + j))) → SL t f v (τ 9 f) (fun j => τ 7 (64 * f + j)) (fun j => τ 8 (64 * f + j)) →
      (∀ τ' y, (∀ k i, k ≠ 7 → k ≠ 8 → k ≠ 9 → τ' k i = σ k i) → (∀ f', 0 ≤ f' → f' < f + 1 → SL t f' (gr f' + 1) (τ' 9 f') (fun j => τ' 7 (64 * f' + j)) (fun j => τ' 8 (64 * f' + j))) → fs_W (fs_Γ 2 (Q_lay t σ)) mX7_layStretches 127 [some (.inr 0), some (.inl f), y] [] τ') →
      fs_W (fs_Γ 2 (Q_lay t σ)) mX7_layStretches 16 [some (.inr 0), some (.inl f), some (.inl v)] [] τ := by
    intro m
    induction m with
    | zero => intro f v τ h0 h1 h2 h3 h4; omega
    | succ m ih =>
      intro f v τ h0 h1 h2 h3 h4 hF hA hS kk
      have hg := gr_r f
      obtain ⟨s, hs⟩ : ∃ s, τ 9 f = s := ⟨_, rfl⟩
      have hs1 := hS.1
      rw [hs] at hs1
      have fr : ∀ (v' : Int) (τ' : fs_S), (∀ k i, ¬ ((k = 7 ∨ k = 8) ∧ 64 * f ≤ i ∧ i < 64 * f + 64) → ¬ (k = 9 ∧ i = f) → τ' k i = τ k i) → (∀ k i, k ≠ 7 → k ≠ 8 → k ≠ 9 → τ' k i = σ k i) ∧ (∀ f', 0 ≤ f' → f' < f → SL t f' (gr f' + 1) (τ' 9 f') (fun j => τ' 7 (64 * f' + j)) (fun j => τ' 8 (64 * f' + j))) := by
        intro v' τ' h
        refine ⟨fun k i a b c => by rw [h k i (by omega) (by omega)]; exact hF k i a b c, fun f' a b => ?_⟩
        have hq := hA f' a b
        have hg' := gr_r f'
        have hq1 := hq.1
        rw [h 9 f' (by omega) (by omega)]
        exact hq.congr (fun j c d => h 7 _ (by omega) (by omega)) (fun j c d => h 8 _ (by omega) (by omega))
      refine fr_iload_n 17 dX7_layStretches_16 rfl rfl ?_
      refine fr_iload_n 18 dX7_layStretches_17 rfl rfl ?_
      refine fr_callSi 21 (M2 := mX7_most) [_] dX7_layStretches_18 rfl fs_mX7_124 fs_oX7_most fs_sX7_most rfl (fs_Γ_rm (d := 1) (by decide)) (Nat.le_of_ble_eq_true rfl) rfl ?_
      refine (cM_most (by omega)).ci ?_
      refine fr_icmp_gt 127 24 dX7_layStretches_21 rfl rfl (by omega) (by omega) (fun h21 => ?_) (fun h21 => ?_)
      · exact kk _ _ hF (fun f' a b => by
          by_cases e : f' = f
          · subst e; rw [show gr f' + 1 = v by omega]; exact hS
          · exact hA f' a (by omega))
      · refine fr_iload_n 25 dX7_layStretches_24 rfl rfl ?_
        refine fr_if_eq 55 28 dX7_layStretches_25 rfl rfl (by omega) (fun h25 => ?_) (fun h25 => ?_)
        · first | skip
          refine fr_aload_n 56 dX7_layStretches_55 rfl rfl ?_
          refine fr_getr 59 7 dX7_layStretches_56 rfl fs_kX7_35 fs_l0 rfl ?_
          refine fr_bipush 61 dX7_layStretches_59 rfl (by decide) ?_
          refine fr_iload_n 62 dX7_layStretches_61 rfl rfl ?_
          refine fr_imul 63 dX7_layStretches_62 rfl ?_
          refine fr_aload_n 64 dX7_layStretches_63 rfl rfl ?_
          refine fr_getr 67 9 dX7_layStretches_64 rfl fs_kX7_41 fs_l0 rfl ?_
          refine fr_iload_n 68 dX7_layStretches_67 rfl rfl ?_
          refine fr_iald 69 dX7_layStretches_68 rfl fs_l9 (by omega) ?_
          refine fr_top hs ?_
          refine fr_iadd 70 dX7_layStretches_69 rfl ?_
          refine fr_iload_n 71 dX7_layStretches_70 rfl rfl ?_
          refine fr_iast 72 dX7_layStretches_71 rfl fs_l7 (by omega) ?_
          refine fr_aload_n 73 dX7_layStretches_72 rfl rfl ?_
          refine fr_getr 76 8 dX7_layStretches_73 rfl fs_kX7_38 fs_l0 rfl ?_
          refine fr_bipush 78 dX7_layStretches_76 rfl (by decide) ?_
          refine fr_iload_n 79 dX7_layStretches_78 rfl rfl ?_
          refine fr_imul 80 dX7_layStretches_79 rfl ?_
          refine fr_aload_n 81 dX7_layStretches_80 rfl rfl ?_
          refine fr_getr 84 9 dX7_layStretches_81 rfl fs_kX7_41 fs_l0 rfl ?_
          refine fr_iload_n 85 dX7_layStretches_84 rfl rfl ?_
          refine fr_iald 86 dX7_layStretches_85 rfl fs_l9 (by omega) ?_
          refine fr_top (y := s) (by unfold fs_u; (repeat' split) <;> omega) ?_
          refine fr_iadd 87 dX7_layStretches_86 rfl ?_
          refine fr_iconst 88 dX7_layStretches_87 rfl ?_
          refine fr_iast 89 dX7_layStretches_88 rfl fs_l8 (by omega) ?_
          refine fr_aload_n 90 dX7_layStretches_89 rfl rfl ?_
          refine fr_getr 93 9 dX7_layStretches_90 rfl fs_kX7_41 fs_l0 rfl ?_
          refine fr_iload_n 94 dX7_layStretches_93 rfl rfl ?_
          refine fr_dup2 95 dX7_layStretches_94 rfl ?_
          refine fr_iald 96 dX7_layStretches_95 rfl fs_l9 (by omega) ?_
          refine fr_top (y := s) (by unfold fs_u; (repeat' split) <;> omega) ?_
          refine fr_iconst 97 dX7_layStretches_96 rfl ?_
          refine fr_iadd 98 dX7_layStretches_97 rfl ?_
          refine fr_iast 99 dX7_layStretches_98 rfl fs_l9 (by omega) ?_
          refine fr_aload_n 100 dX7_layStretches_99 rfl rfl ?_
          refine fr_getr 103 8 dX7_layStretches_100 rfl fs_kX7_38 fs_l0 rfl ?_
          refine fr_bipush 105 dX7_layStretches_103 rfl (by decide) ?_
          refine fr_iload_n 106 dX7_layStretches_105 rfl rfl ?_
          refine fr_imul 107 dX7_layStretches_106 rfl ?_
          refine fr_aload_n 108 dX7_layStretches_107 rfl rfl ?_
          refine fr_getr 111 9 dX7_layStretches_108 rfl fs_kX7_41 fs_l0 rfl ?_
          refine fr_iload_n 112 dX7_layStretches_111 rfl rfl ?_
          refine fr_iald 113 dX7_layStretches_112 rfl fs_l9 (by omega) ?_
          refine fr_top (y := s + 1) (by unfold fs_u; (repeat' split) <;> omega) ?_
          refine fr_iadd 114 dX7_layStretches_113 rfl ?_
          refine fr_iconst 115 dX7_layStretches_114 rfl ?_
          refine fr_isub 116 dX7_layStretches_115 rfl ?_
          refine fr_dup2 117 dX7_layStretches_116 rfl ?_
          refine fr_iald 118 dX7_layStretches_117 rfl fs_l8 (by omega) ?_
          refine fr_top (y := 0) (by unfold fs_u; (repeat' split) <;> omega) ?_
          refine fr_iconst 119 dX7_layStretches_118 rfl ?_
          refine fr_iadd 120 dX7_layStretches_119 rfl ?_
          refine fr_iast 121 dX7_layStretches_120 rfl fs_l8 (by omega) ?_
          refine fr_iinc 124 [_, _, _] dX7_layStretches_121 rfl rfl rfl ?_
          refine fr_goto 16 dX7_layStretches_124 rfl ?_
          obtain ⟨g1, g2⟩ := fr (v + 1) (fs_u (fs_u (fs_u (fs_u τ 7 (64 * f + s) v) 8 (64 * f + s) 0) 9 f (s + 1)) 8 (64 * f + (s + 1) - 1) (0 + 1)) (fun k i a b => by unfold fs_u; (repeat' split) <;> omega)
          refine ih f (v + 1) _ h0 h1 (by omega) (by omega) (by omega) g1 g2 ?_ kk
          rw [show fs_u (fs_u (fs_u (fs_u τ 7 (64 * f + s) v) 8 (64 * f + s) 0) 9 f (s + 1)) 8 (64 * f + (s + 1) - 1) (0 + 1) 9 f = s + 1 by unfold fs_u; (repeat' split) <;> omega]
          rw [hs] at hS
          exact hS.new h2 (fun j a b => by unfold fs_u; (repeat' split) <;> omega) (fun j a b => by unfold fs_u; (repeat' split) <;> omega) (by unfold fs_u; (repeat' split) <;> omega) (by unfold fs_u; (repeat' split) <;> omega)
        · have t1 := hO f v h0 h1 h2 (by omega)
          have t2 := hO f (v - 1) h0 h1 (by omega) (by omega)
          rw [← hF 6 _ (by decide) (by decide) (by decide)] at t1 t2
          rw [show 64 * f + (v - 1) = 64 * f + v - 1 by omega] at t2
          have l1 := tkm_lt hw f v v
          have l2 := tkm_lt hw f (v - 1) (v - 1)
          refine fr_aload_n 29 dX7_layStretches_28 rfl rfl ?_
          refine fr_getr 32 6 dX7_layStretches_29 rfl fs_kX7_32 fs_l0 rfl ?_
          refine fr_bipush 34 dX7_layStretches_32 rfl (by decide) ?_
          refine fr_iload_n 35 dX7_layStretches_34 rfl rfl ?_
          refine fr_imul 36 dX7_layStretches_35 rfl ?_
          refine fr_iload_n 37 dX7_layStretches_36 rfl rfl ?_
          refine fr_iadd 38 dX7_layStretches_37 rfl ?_
          refine fr_iald 39 dX7_layStretches_38 rfl fs_l6 (by omega) ?_
          refine fr_aload_n 40 dX7_layStretches_39 rfl rfl ?_
          refine fr_getr 43 6 dX7_layStretches_40 rfl fs_kX7_32 fs_l0 rfl ?_
          refine fr_bipush 45 dX7_layStretches_43 rfl (by decide) ?_
          refine fr_iload_n 46 dX7_layStretches_45 rfl rfl ?_
          refine fr_imul 47 dX7_layStretches_46 rfl ?_
          refine fr_iload_n 48 dX7_layStretches_47 rfl rfl ?_
          refine fr_iadd 49 dX7_layStretches_48 rfl ?_
          refine fr_iconst 50 dX7_layStretches_49 rfl ?_
          refine fr_isub 51 dX7_layStretches_50 rfl ?_
          refine fr_iald 52 dX7_layStretches_51 rfl fs_l6 (by omega) ?_
          refine fr_icmp_eq 99 55 dX7_layStretches_52 rfl rfl (by omega) (by omega) (fun h52 => ?_) (fun h52 => ?_)
          · have hs2 := hS.2.1 (by omega)
            rw [hs] at hs2
            refine fr_aload_n 100 dX7_layStretches_99 rfl rfl ?_
            refine fr_getr 103 8 dX7_layStretches_100 rfl fs_kX7_38 fs_l0 rfl ?_
            refine fr_bipush 105 dX7_layStretches_103 rfl (by decide) ?_
            refine fr_iload_n 106 dX7_layStretches_105 rfl rfl ?_
            refine fr_imul 107 dX7_layStretches_106 rfl ?_
            refine fr_aload_n 108 dX7_layStretches_107 rfl rfl ?_
            refine fr_getr 111 9 dX7_layStretches_108 rfl fs_kX7_41 fs_l0 rfl ?_
            refine fr_iload_n 112 dX7_layStretches_111 rfl rfl ?_
            refine fr_iald 113 dX7_layStretches_112 rfl fs_l9 (by omega) ?_
            refine fr_top hs ?_
            refine fr_iadd 114 dX7_layStretches_113 rfl ?_
            refine fr_iconst 115 dX7_layStretches_114 rfl ?_
            refine fr_isub 116 dX7_layStretches_115 rfl ?_
            refine fr_dup2 117 dX7_layStretches_116 rfl ?_
            refine fr_iald 118 dX7_layStretches_117 rfl fs_l8 (by omega) ?_
            refine fr_iconst 119 dX7_layStretches_118 rfl ?_
            refine fr_iadd 120 dX7_layStretches_119 rfl ?_
            refine fr_iast 121 dX7_layStretches_120 rfl fs_l8 (by omega) ?_
            refine fr_iinc 124 [_, _, _] dX7_layStretches_121 rfl rfl rfl ?_
            refine fr_goto 16 dX7_layStretches_124 rfl ?_
            obtain ⟨g1, g2⟩ := fr (v + 1) (fs_u τ 8 (64 * f + s - 1) (τ 8 (64 * f + s - 1) + 1)) (fun k i a b => by unfold fs_u; (repeat' split) <;> omega)
            refine ih f (v + 1) _ h0 h1 (by omega) (by omega) (by omega) g1 g2 ?_ kk
            rw [show fs_u τ 8 (64 * f + s - 1) (τ 8 (64 * f + s - 1) + 1) 9 f = s by unfold fs_u; (repeat' split) <;> omega]
            rw [hs] at hS
            refine hS.more (by omega) (fun j a b => by unfold fs_u; (repeat' split) <;> omega) (fun j a b => by unfold fs_u; (repeat' split) <;> omega) ?_ (by omega)
            show fs_u τ 8 (64 * f + s - 1) (τ 8 (64 * f + s - 1) + 1) 8 (64 * f + (s - 1)) = τ 8 (64 * f + (s - 1)) + 1
            rw [show 64 * f + (s - 1) = 64 * f + s - 1 by omega]
            exact fs_u_eq _ _ _ _
          · first | skip
            refine fr_aload_n 56 dX7_layStretches_55 rfl rfl ?_
            refine fr_getr 59 7 dX7_layStretches_56 rfl fs_kX7_35 fs_l0 rfl ?_
            refine fr_bipush 61 dX7_layStretches_59 rfl (by decide) ?_
            refine fr_iload_n 62 dX7_layStretches_61 rfl rfl ?_
            refine fr_imul 63 dX7_layStretches_62 rfl ?_
            refine fr_aload_n 64 dX7_layStretches_63 rfl rfl ?_
            refine fr_getr 67 9 dX7_layStretches_64 rfl fs_kX7_41 fs_l0 rfl ?_
            refine fr_iload_n 68 dX7_layStretches_67 rfl rfl ?_
            refine fr_iald 69 dX7_layStretches_68 rfl fs_l9 (by omega) ?_
            refine fr_top hs ?_
            refine fr_iadd 70 dX7_layStretches_69 rfl ?_
            refine fr_iload_n 71 dX7_layStretches_70 rfl rfl ?_
            refine fr_iast 72 dX7_layStretches_71 rfl fs_l7 (by omega) ?_
            refine fr_aload_n 73 dX7_layStretches_72 rfl rfl ?_
            refine fr_getr 76 8 dX7_layStretches_73 rfl fs_kX7_38 fs_l0 rfl ?_
            refine fr_bipush 78 dX7_layStretches_76 rfl (by decide) ?_
            refine fr_iload_n 79 dX7_layStretches_78 rfl rfl ?_
            refine fr_imul 80 dX7_layStretches_79 rfl ?_
            refine fr_aload_n 81 dX7_layStretches_80 rfl rfl ?_
            refine fr_getr 84 9 dX7_layStretches_81 rfl fs_kX7_41 fs_l0 rfl ?_
            refine fr_iload_n 85 dX7_layStretches_84 rfl rfl ?_
            refine fr_iald 86 dX7_layStretches_85 rfl fs_l9 (by omega) ?_
            refine fr_top (y := s) (by unfold fs_u; (repeat' split) <;> omega) ?_
            refine fr_iadd 87 dX7_layStretches_86 rfl ?_
            refine fr_iconst 88 dX7_layStretches_87 rfl ?_
            refine fr_iast 89 dX7_layStretches_88 rfl fs_l8 (by omega) ?_
            refine fr_aload_n 90 dX7_layStretches_89 rfl rfl ?_
            refine fr_getr 93 9 dX7_layStretches_90 rfl fs_kX7_41 fs_l0 rfl ?_
            refine fr_iload_n 94 dX7_layStretches_93 rfl rfl ?_
            refine fr_dup2 95 dX7_layStretches_94 rfl ?_
            refine fr_iald 96 dX7_layStretches_95 rfl fs_l9 (by omega) ?_
            refine fr_top (y := s) (by unfold fs_u; (repeat' split) <;> omega) ?_
            refine fr_iconst 97 dX7_layStretches_96 rfl ?_
            refine fr_iadd 98 dX7_layStretches_97 rfl ?_
            refine fr_iast 99 dX7_layStretches_98 rfl fs_l9 (by omega) ?_
            refine fr_aload_n 100 dX7_layStretches_99 rfl rfl ?_
            refine fr_getr 103 8 dX7_layStretches_100 rfl fs_kX7_38 fs_l0 rfl ?_
            refine fr_bipush 105 dX7_layStretches_103 rfl (by decide) ?_
            refine fr_iload_n 106 dX7_layStretches_105 rfl rfl ?_
            refine fr_imul 107 dX7_layStretches_106 rfl ?_
            refine fr_aload_n 108 dX7_layStretches_107 rfl rfl ?_
            refine fr_getr 111 9 dX7_layStretches_108 rfl fs_kX7_41 fs_l0 rfl ?_
            refine fr_iload_n 112 dX7_layStretches_111 rfl rfl ?_
            refine fr_iald 113 dX7_layStretches_112 rfl fs_l9 (by omega) ?_
            refine fr_top (y := s + 1) (by unfold fs_u; (repeat' split) <;> omega) ?_
            refine fr_iadd 114 dX7_layStretches_113 rfl ?_
            refine fr_iconst 115 dX7_layStretches_114 rfl ?_
            refine fr_isub 116 dX7_layStretches_115 rfl ?_
            refine fr_dup2 117 dX7_layStretches_116 rfl ?_
            refine fr_iald 118 dX7_layStretches_117 rfl fs_l8 (by omega) ?_
            refine fr_top (y := 0) (by unfold fs_u; (repeat' split) <;> omega) ?_
            refine fr_iconst 119 dX7_layStretches_118 rfl ?_
            refine fr_iadd 120 dX7_layStretches_119 rfl ?_
            refine fr_iast 121 dX7_layStretches_120 rfl fs_l8 (by omega) ?_
            refine fr_iinc 124 [_, _, _] dX7_layStretches_121 rfl rfl rfl ?_
            refine fr_goto 16 dX7_layStretches_124 rfl ?_
            obtain ⟨g1, g2⟩ := fr (v + 1) (fs_u (fs_u (fs_u (fs_u τ 7 (64 * f + s) v) 8 (64 * f + s) 0) 9 f (s + 1)) 8 (64 * f + (s + 1) - 1) (0 + 1)) (fun k i a b => by unfold fs_u; (repeat' split) <;> omega)
            refine ih f (v + 1) _ h0 h1 (by omega) (by omega) (by omega) g1 g2 ?_ kk
            rw [show fs_u (fs_u (fs_u (fs_u τ 7 (64 * f + s) v) 8 (64 * f + s) 0) 9 f (s + 1)) 8 (64 * f + (s + 1) - 1) (0 + 1) 9 f = s + 1 by unfold fs_u; (repeat' split) <;> omega]
            rw [hs] at hS
            exact hS.new h2 (fun j a b => by unfold fs_u; (repeat' split) <;> omega) (fun j a b => by unfold fs_u; (repeat' split) <;> omega) (by unfold fs_u; (repeat' split) <;> omega) (by unfold fs_u; (repeat' split) <;> omega)
  have k1 : ∀ (m : Nat) (f : Int) (τ : fs_S) (y : Option fs_V), 0 ≤ f → f ≤ 4 → 4 - f < m → (∀ k i, k ≠ 7 → k ≠ 8 → k ≠ 9 → τ k i = σ k i) → (∀ f', 0 ≤ f' → f' < f → SL t f' (gr f' + 1) (τ 9 f') (fun j => τ 7 (64 * f' + j)) (fun j => τ 8 (64 * f' + j))) →
      fs_W (fs_Γ 2 (Q_lay t σ)) mX7_layStretches 2 [some (.inr 0), some (.inl f), y] [] τ := by
    intro m
    induction m with
    | zero => intro f τ y h0 h1 h2; omega
    | succ m ih =>
      intro f τ y h0 h1 h2 hF hA
      have hg := gr_r f
      refine fr_iload_n 3 dX7_layStretches_2 rfl rfl ?_
      refine fr_iconst 4 dX7_layStretches_3 rfl ?_
      refine fr_icmp_ge 133 7 dX7_layStretches_4 rfl rfl (by omega) (by omega) (fun h4 => ?_) (fun h4 => ?_)
      · refine fr_vret dX7_layStretches_133 rfl ?_
        exact ⟨rfl, fun f' a b => hA f' a (by omega), hF⟩
      · refine fr_aload_n 8 dX7_layStretches_7 rfl rfl ?_
        refine fr_getr 11 9 dX7_layStretches_8 rfl fs_kX7_41 fs_l0 rfl ?_
        refine fr_iload_n 12 dX7_layStretches_11 rfl rfl ?_
        refine fr_iconst 13 dX7_layStretches_12 rfl ?_
        refine fr_iast 14 dX7_layStretches_13 rfl fs_l9 (by omega) ?_
        refine fr_iconst 15 dX7_layStretches_14 rfl ?_
        refine fr_istore_n 16 [_, _, _] dX7_layStretches_15 rfl (Nat.le_of_ble_eq_true rfl) rfl ?_
        refine k2 ((gr f + 1).toNat + 1) f 0 _ h0 (by omega) (by omega) (by omega) (by omega) (fun k i a b c => by rw [fs_u_ne _ (by omega)]; exact hF k i a b c) (fun f' a b => ?_) ?_ (fun τ' y' hF' hA' => ?_)
        · rw [fs_u_ne _ (by omega)]
          exact hA f' a b
        · rw [fs_u_eq]
          exact SL.zero t f _ _
        · show fs_W _ _ _ _ _ _
          refine fr_iinc 130 [_, _, _] dX7_layStretches_127 rfl rfl rfl ?_
          refine fr_goto 2 dX7_layStretches_130 rfl ?_
          exact ih (f + 1) _ _ (by omega) (by omega) (by omega) hF' hA'
  refine fr_iconst 1 dX7_layStretches_0 rfl ?_
  refine fr_istore_n 2 [_, _, _] dX7_layStretches_1 rfl (Nat.le_of_ble_eq_true rfl) rfl ?_
  exact k1 5 0 σ _ (by omega) (by omega) (by omega) (fun _ _ _ _ _ => rfl) (fun f' a b => by omega)
