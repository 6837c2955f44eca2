/-! ===== the model: stretches, meet, sweep ===== -/
def Q_lay (t : rt) (σ : fs_S) : fs_Q := fun x τ => x = none ∧ (∀ f, 0 ≤ f → f < 4 → SL t f (gr f + 1) (τ 9 f) (fun j => τ 7 (64 * f + j)) (fun j => τ 8 (64 * f + j))) ∧ (∀ k i, k ≠ 7 → k ≠ 8 → k ≠ 9 → τ k i = σ k i)
set_option maxRecDepth 100000 in
set_option maxHeartbeats 4000000 in
theorem cM_layStretches {σ : fs_S} {t : rt} (hw : twf t) (hO : ∀ f v, 0 ≤ f → f < 4 → 0 ≤ v → v ≤ gr f → σ 6 (64 * f + v) = ((tkm t f v v : Nat) : Int)) : fs_C mX7_layStretches 2 [.inr 0] σ (Q_lay t σ) := by
  refine fs_C.intro [some (.inr 0), none, none] fs_oX7_layStretches (Nat.le_of_ble_eq_true rfl) rfl ?_
  have k2 : ∀ (m : Nat) (f v : Int) (τ : fs_S), 0 ≤ f → f < 4 → 0 ≤ v → v ≤ gr f + 1 → gr f + 1 - v < m → (∀ k i, k ≠ 7 → k ≠ 8 → k ≠ 9 → τ k i = σ k i) → (∀ f', 0 ≤ f' → f' < f → SL t f' (gr f' + 1) (τ 9 f') (fun j => τ 7 (64 * f' + j)) (fun j => τ 8 (64 * f' + j))) → SL t f v (τ 9 f) (fun j => τ 7 (64 * f + j)) (fun j => τ 8 (64 * f + j)) →
      (∀ τ' y, (∀ k i, k ≠ 7 → k ≠ 8 → k ≠ 9 → τ' k i = σ k i) → (∀ f', 0 ≤ f' → f' < f + 1 → SL t f' (gr f' + 1) (τ' 9 f') (fun j => τ' 7 (64 * f' + j)) (fun j => τ' 8 (64 * f' + j))) → fs_W (fs_Γ 2 (Q_lay t σ)) mX7_layStretches 127 [some (.inr 0), some (.inl f), y] [] τ') →
      fs_W (fs_Γ 2 (Q_lay t σ)) mX7_layStretches 16 [some (.inr 0), some (.inl f), some (.inl v)] [] τ := by
    intro m
    induction m with
    | zero => intro f v τ h0 h1 h2 h3 h4; omega
    | succ m ih =>
      intro f v τ h0 h1 h2 h3 h4 hF hA hS kk
      have hg := gr_r f
      obtain ⟨s, hs⟩ : ∃ s, τ 9 f = s := ⟨_, rfl⟩
      have hs1 := hS.1
      rw [hs] at hs1
      have fr : ∀ (v' : Int) (τ' : fs_S), (∀ k i, ¬ ((k = 7 ∨ k = 8) ∧ 64 * f ≤ i ∧ i < 64 * f + 64) → ¬ (k = 9 ∧ i = f) → τ' k i = τ k i) → (∀ k i, k ≠ 7 → k ≠ 8 → k ≠ 9 → τ' k i = σ k i) ∧ (∀ f', 0 ≤ f' → f' < f → SL t f' (gr f' + 1) (τ' 9 f') (fun j => τ' 7 (64 * f' + j)) (fun j => τ' 8 (64 * f' + j))) := by
        intro v' τ' h
        refine ⟨fun k i a b c => by rw [h k i (by omega) (by omega)]; exact hF k i a b c, fun f' a b => ?_⟩
        have hq := hA f' a b
        have hg' := gr_r f'
        have hq1 := hq.1
        rw [h 9 f' (by omega) (by omega)]
        exact hq.congr (fun j c d => h 7 _ (by omega) (by omega)) (fun j c d => h 8 _ (by omega) (by omega))
      refine fr_iload_n 17 dX7_layStretches_16 rfl rfl ?_
      refine fr_iload_n 18 dX7_layStretches_17 rfl rfl ?_
      refine fr_callSi 21 (M2 := mX7_most) [_] dX7_layStretches_18 rfl fs_mX7_124 fs_oX7_most fs_sX7_most rfl (fs_Γ_rm (d := 1) (by decide)) (Nat.le_of_ble_eq_true rfl) rfl ?_
      refine (cM_most (by omega)).ci ?_
      refine fr_icmp_gt 127 24 dX7_layStretches_21 rfl rfl (by omega) (by omega) (fun h21 => ?_) (fun h21 => ?_)
      · exact kk _ _ hF (fun f' a b => by
          by_cases e : f' = f
          · subst e; rw [show gr f' + 1 = v by omega]; exact hS
          · exact hA f' a (by omega))
      · refine fr_iload_n 25 dX7_layStretches_24 rfl rfl ?_
        refine fr_if_eq 55 28 dX7_layStretches_25 rfl rfl (by omega) (fun h25 => ?_) (fun h25 => ?_)
        · first | skip
          refine fr_aload_n 56 dX7_layStretches_55 rfl rfl ?_
          refine fr_getr 59 7 dX7_layStretches_56 rfl fs_kX7_35 fs_l0 rfl ?_
          refine fr_bipush 61 dX7_layStretches_59 rfl (by decide) ?_
          refine fr_iload_n 62 dX7_layStretches_61 rfl rfl ?_
          refine fr_imul 63 dX7_layStretches_62 rfl ?_
          refine fr_aload_n 64 dX7_layStretches_63 rfl rfl ?_
          refine fr_getr 67 9 dX7_layStretches_64 rfl fs_kX7_41 fs_l0 rfl ?_
          refine fr_iload_n 68 dX7_layStretches_67 rfl rfl ?_
          refine fr_iald 69 dX7_layStretches_68 rfl fs_l9 (by omega) ?_
          refine fr_top hs ?_
          refine fr_iadd 70 dX7_layStretches_69 rfl ?_
          refine fr_iload_n 71 dX7_layStretches_70 rfl rfl ?_
          refine fr_iast 72 dX7_layStretches_71 rfl fs_l7 (by omega) ?_
          refine fr_aload_n 73 dX7_layStretches_72 rfl rfl ?_
          refine fr_getr 76 8 dX7_layStretches_73 rfl fs_kX7_38 fs_l0 rfl ?_
          refine fr_bipush 78 dX7_layStretches_76 rfl (by decide) ?_
          refine fr_iload_n 79 dX7_layStretches_78 rfl rfl ?_
          refine fr_imul 80 dX7_layStretches_79 rfl ?_
          refine fr_aload_n 81 dX7_layStretches_80 rfl rfl ?_
          refine fr_getr 84 9 dX7_layStretches_81 rfl fs_kX7_41 fs_l0 rfl ?_
          refine fr_iload_n 85 dX7_layStretches_84 rfl rfl ?_
          refine fr_iald 86 dX7_layStretches_85 rfl fs_l9 (by omega) ?_
          refine fr_top (y := s) (by unfold fs_u; (repeat' split) <;> omega) ?_
          refine fr_iadd 87 dX7_layStretches_86 rfl ?_
          refine fr_iconst 88 dX7_layStretches_87 rfl ?_
          refine fr_iast 89 dX7_layStretches_88 rfl fs_l8 (by omega) ?_
          refine fr_aload_n 90 dX7_layStretches_89 rfl rfl ?_
          refine fr_getr 93 9 dX7_layStretches_90 rfl fs_kX7_41 fs_l0 rfl ?_
          refine fr_iload_n 94 dX7_layStretches_93 rfl rfl ?_
          refine fr_dup2 95 dX7_layStretches_94 rfl ?_
          refine fr_iald 96 dX7_layStretches_95 rfl fs_l9 (by omega) ?_
          refine fr_top (y := s) (by unfold fs_u; (repeat' split) <;> omega) ?_
          refine fr_iconst 97 dX7_layStretches_96 rfl ?_
          refine fr_iadd 98 dX7_layStretches_97 rfl ?_
          refine fr_iast 99 dX7_layStretches_98 rfl fs_l9 (by omega) ?_
          refine fr_aload_n 100 dX7_layStretches_99 rfl rfl ?_
          refine fr_getr 103 8 dX7_layStretches_100 rfl fs_kX7_38 fs_l0 rfl ?_
          refine fr_bipush 105 dX7_layStretches_103 rfl (by decide) ?_
          refine fr_iload_n 106 dX7_layStretches_105 rfl rfl ?_
          refine fr_imul 107 dX7_layStretches_106 rfl ?_
          refine fr_aload_n 108 dX7_layStretches_107 rfl rfl ?_
          refine fr_getr 111 9 dX7_layStretches_108 rfl fs_kX7_41 fs_l0 rfl ?_
          refine fr_iload_n 112 dX7_layStretches_111 rfl rfl ?_
          refine fr_iald 113 dX7_layStretches_112 rfl fs_l9 (by omega) ?_
          refine fr_top (y := s + 1) (by unfold fs_u; (repeat' split) <;> omega) ?_
          refine fr_iadd 114 dX7_layStretches_113 rfl ?_
          refine fr_iconst 115 dX7_layStretches_114 rfl ?_
          refine fr_isub 116 dX7_layStretches_115 rfl ?_
          refine fr_dup2 117 dX7_layStretches_116 rfl ?_
          refine fr_iald 118 dX7_layStretches_117 rfl fs_l8 (by omega) ?_
          refine fr_top (y := 0) (by unfold fs_u; (repeat' split) <;> omega) ?_
          refine fr_iconst 119 dX7_layStretches_118 rfl ?_
          refine fr_iadd 120 dX7_layStretches_119 rfl ?_
          refine fr_iast 121 dX7_layStretches_120 rfl fs_l8 (by omega) ?_
          refine fr_iinc 124 [_, _, _] dX7_layStretches_121 rfl rfl rfl ?_
          refine fr_goto 16 dX7_layStretches_124 rfl ?_
          obtain ⟨g1, g2⟩ := fr (v + 1) (fs_u (fs_u (fs_u (fs_u τ 7 (64 * f + s) v) 8 (64 * f + s) 0) 9 f (s + 1)) 8 (64 * f + (s + 1) - 1) (0 + 1)) (fun k i a b => by unfold fs_u; (repeat' split) <;> omega)
          refine ih f (v + 1) _ h0 h1 (by omega) (by omega) (by omega) g1 g2 ?_ kk
          rw [show fs_u (fs_u (fs_u (fs_u τ 7 (64 * f + s) v) 8 (64 * f + s) 0) 9 f (s + 1)) 8 (64 * f + (s + 1) - 1) (0 + 1) 9 f = s + 1 by unfold fs_u; (repeat' split) <;> omega]
          rw [hs] at hS
          exact hS.new h2 (fun j a b => by unfold fs_u; (repeat' split) <;> omega) (fun j a b => by unfold fs_u; (repeat' split) <;> omega) (by unfold fs_u; (repeat' split) <;> omega) (by unfold fs_u; (repeat' split) <;> omega)
        · have t1 := hO f v h0 h1 h2 (by omega)
          have t2 := hO f (v - 1) h0 h1 (by omega) (by omega)
          rw [← hF 6 _ (by decide) (by decide) (by decide)] at t1 t2
          rw [show 64 * f + (v - 1) = 64 * f + v - 1 by omega] at t2
          have l1 := tkm_lt hw f v v
          have l2 := tkm_lt hw f (v - 1) (v - 1)
          refine fr_aload_n 29 dX7_layStretches_28 rfl rfl ?_
          refine fr_getr 32 6 dX7_layStretches_29 rfl fs_kX7_32 fs_l0 rfl ?_
          refine fr_bipush 34 dX7_layStretches_32 rfl (by decide) ?_
          refine fr_iload_n 35 dX7_layStretches_34 rfl rfl ?_
          refine fr_imul 36 dX7_layStretches_35 rfl ?_
          refine fr_iload_n 37 dX7_layStretches_36 rfl rfl ?_
          refine fr_iadd 38 dX7_layStretches_37 rfl ?_
          refine fr_iald 39 dX7_layStretches_38 rfl fs_l6 (by omega) ?_
          refine fr_aload_n 40 dX7_layStretches_39 rfl rfl ?_
          refine fr_getr 43 6 dX7_layStretches_40 rfl fs_kX7_32 fs_l0 rfl ?_
          refine fr_bipush 45 dX7_layStretches_43 rfl (by decide) ?_
          refine fr_iload_n 46 dX7_layStretches_45 rfl rfl ?_
          refine fr_imul 47 dX7_layStretches_46 rfl ?_
          refine fr_iload_n 48 dX7_layStretches_47 rfl rfl ?_
          refine fr_iadd 49 dX7_layStretches_48 rfl ?_
          refine fr_iconst 50 dX7_layStretches_49 rfl ?_
          refine fr_isub 51 dX7_layStretches_50 rfl ?_
          refine fr_iald 52 dX7_layStretches_51 rfl fs_l6 (by omega) ?_
          refine fr_icmp_eq 99 55 dX7_layStretches_52 rfl rfl (by omega) (by omega) (fun h52 => ?_) (fun h52 => ?_)
          · have hs2 := hS.2.1 (by omega)
            rw [hs] at hs2
            refine fr_aload_n 100 dX7_layStretches_99 rfl rfl ?_
            refine fr_getr 103 8 dX7_layStretches_100 rfl fs_kX7_38 fs_l0 rfl ?_
            refine fr_bipush 105 dX7_layStretches_103 rfl (by decide) ?_
            refine fr_iload_n 106 dX7_layStretches_105 rfl rfl ?_
            refine fr_imul 107 dX7_layStretches_106 rfl ?_
            refine fr_aload_n 108 dX7_layStretches_107 rfl rfl ?_
            refine fr_getr 111 9 dX7_layStretches_108 rfl fs_kX7_41 fs_l0 rfl ?_
            refine fr_iload_n 112 dX7_layStretches_111 rfl rfl ?_
            refine fr_iald 113 dX7_layStretches_112 rfl fs_l9 (by omega) ?_
            refine fr_top hs ?_
            refine fr_iadd 114 dX7_layStretches_113 rfl ?_
            refine fr_iconst 115 dX7_layStretches_114 rfl ?_
            refine fr_isub 116 dX7_layStretches_115 rfl ?_
            refine fr_dup2 117 dX7_layStretches_116 rfl ?_
            refine fr_iald 118 dX7_layStretches_117 rfl fs_l8 (by omega) ?_
            refine fr_iconst 119 dX7_layStretches_118 rfl ?_
            refine fr_iadd 120 dX7_layStretches_119 rfl ?_
            refine fr_iast 121 dX7_layStretches_120 rfl fs_l8 (by omega) ?_
            refine fr_iinc 124 [_, _, _] dX7_layStretches_121 rfl rfl rfl ?_
            refine fr_goto 16 dX7_layStretches_124 rfl ?_
            obtain ⟨g1, g2⟩ := fr (v + 1) (fs_u τ 8 (64 * f + s - 1) (τ 8 (64 * f + s - 1) + 1)) (fun k i a b => by unfold fs_u; (repeat' split) <;> omega)
            refine ih f (v + 1) _ h0 h1 (by omega) (by omega) (by omega) g1 g2 ?_ kk
            rw [show fs_u τ 8 (64 * f + s - 1) (τ 8 (64 * f + s - 1) + 1) 9 f = s by unfold fs_u; (repeat' split) <;> omega]
            rw [hs] at hS
            refine hS.more (by omega) (fun j a b => by unfold fs_u; (repeat' split) <;> omega) (fun j a b => by unfold fs_u; (repeat' split) <;> omega) ?_ (by omega)
            show fs_u τ 8 (64 * f + s - 1) (τ 8 (64 * f + s - 1) + 1) 8 (64 * f + (s - 1)) = τ 8 (64 * f + (s - 1)) + 1
            rw [show 64 * f + (s - 1) = 64 * f + s - 1 by omega]
            exact fs_u_eq _ _ _ _
          · first | skip
            refine fr_aload_n 56 dX7_layStretches_55 rfl rfl ?_
            refine fr_getr 59 7 dX7_layStretches_56 rfl fs_kX7_35 fs_l0 rfl ?_
            refine fr_bipush 61 dX7_layStretches_59 rfl (by decide) ?_
            refine fr_iload_n 62 dX7_layStretches_61 rfl rfl ?_
            refine fr_imul 63 dX7_layStretches_62 rfl ?_
            refine fr_aload_n 64 dX7_layStretches_63 rfl rfl ?_
            refine fr_getr 67 9 dX7_layStretches_64 rfl fs_kX7_41 fs_l0 rfl ?_
            refine fr_iload_n 68 dX7_layStretches_67 rfl rfl ?_
            refine fr_iald 69 dX7_layStretches_68 rfl fs_l9 (by omega) ?_
            refine fr_top hs ?_
            refine fr_iadd 70 dX7_layStretches_69 rfl ?_
            refine fr_iload_n 71 dX7_layStretches_70 rfl rfl ?_
            refine fr_iast 72 dX7_layStretches_71 rfl fs_l7 (by omega) ?_
            refine fr_aload_n 73 dX7_layStretches_72 rfl rfl ?_
            refine fr_getr 76 8 dX7_layStretches_73 rfl fs_kX7_38 fs_l0 rfl ?_
            refine fr_bipush 78 dX7_layStretches_76 rfl (by decide) ?_
            refine fr_iload_n 79 dX7_layStretches_78 rfl rfl ?_
            refine fr_imul 80 dX7_layStretches_79 rfl ?_
            refine fr_aload_n 81 dX7_layStretches_80 rfl rfl ?_
            refine fr_getr 84 9 dX7_layStretches_81 rfl fs_kX7_41 fs_l0 rfl ?_
            refine fr_iload_n 85 dX7_layStretches_84 rfl rfl ?_
            refine fr_iald 86 dX7_layStretches_85 rfl fs_l9 (by omega) ?_
            refine fr_top (y := s) (by unfold fs_u; (repeat' split) <;> omega) ?_
            refine fr_iadd 87 dX7_layStretches_86 rfl ?_
            refine fr_iconst 88 dX7_layStretches_87 rfl ?_
            refine fr_iast 89 dX7_layStretches_88 rfl fs_l8 (by omega) ?_
            refine fr_aload_n 90 dX7_layStretches_89 rfl rfl ?_
            refine fr_getr 93 9 dX7_layStretches_90 rfl fs_kX7_41 fs_l0 rfl ?_
            refine fr_iload_n 94 dX7_layStretches_93 rfl rfl ?_
            refine fr_dup2 95 dX7_layStretches_94 rfl ?_
            refine fr_iald 96 dX7_layStretches_95 rfl fs_l9 (by omega) ?_
            refine fr_top (y := s) (by unfold fs_u; (repeat' split) <;> omega) ?_
            refine fr_iconst 97 dX7_layStretches_96 rfl ?_
            refine fr_iadd 98 dX7_layStretches_97 rfl ?_
            refine fr_iast 99 dX7_layStretches_98 rfl fs_l9 (by omega) ?_
            refine fr_aload_n 100 dX7_layStretches_99 rfl rfl ?_
            refine fr_getr 103 8 dX7_layStretches_100 rfl fs_kX7_38 fs_l0 rfl ?_
            refine fr_bipush 105 dX7_layStretches_103 rfl (by decide) ?_
            refine fr_iload_n 106 dX7_layStretches_105 rfl rfl ?_
            refine fr_imul 107 dX7_layStretches_106 rfl ?_
            refine fr_aload_n 108 dX7_layStretches_107 rfl rfl ?_
            refine fr_getr 111 9 dX7_layStretches_108 rfl fs_kX7_41 fs_l0 rfl ?_
            refine fr_iload_n 112 dX7_layStretches_111 rfl rfl ?_
            refine fr_iald 113 dX7_layStretches_112 rfl fs_l9 (by omega) ?_
            refine fr_top (y := s + 1) (by unfold fs_u; (repeat' split) <;> omega) ?_
            refine fr_iadd 114 dX7_layStretches_113 rfl ?_
            refine fr_iconst 115 dX7_layStretches_114 rfl ?_
            refine fr_isub 116 dX7_layStretches_115 rfl ?_
            refine fr_dup2 117 dX7_layStretches_116 rfl ?_
            refine fr_iald 118 dX7_layStretches_117 rfl fs_l8 (by omega) ?_
            refine fr_top (y := 0) (by unfold fs_u; (repeat' split) <;> omega) ?_
            refine fr_iconst 119 dX7_layStretches_118 rfl ?_
            refine fr_iadd 120 dX7_layStretches_119 rfl ?_
            refine fr_iast 121 dX7_layStretches_120 rfl fs_l8 (by omega) ?_
            refine fr_iinc 124 [_, _, _] dX7_layStretches_121 rfl rfl rfl ?_
            refine fr_goto 16 dX7_layStretches_124 rfl ?_
            obtain ⟨g1, g2⟩ := fr (v + 1) (fs_u (fs_u (fs_u (fs_u τ 7 (64 * f + s) v) 8 (64 * f + s) 0) 9 f (s + 1)) 8 (64 * f + (s + 1) - 1) (0 + 1)) (fun k i a b => by unfold fs_u; (repeat' split) <;> omega)
            refine ih f (v + 1) _ h0 h1 (by omega) (by omega) (by omega) g1 g2 ?_ kk
            rw [show fs_u (fs_u (fs_u (fs_u τ 7 (64 * f + s) v) 8 (64 * f + s) 0) 9 f (s + 1)) 8 (64 * f + (s + 1) - 1) (0 + 1) 9 f = s + 1 by unfold fs_u; (repeat' split) <;> omega]
            rw [hs] at hS
            exact hS.new h2 (fun j a b => by unfold fs_u; (repeat' split) <;> omega) (fun j a b => by unfold fs_u; (repeat' split) <;> omega) (by unfold fs_u; (repeat' split) <;> omega) (by unfold fs_u; (repeat' split) <;> omega)
  have k1 : ∀ (m : Nat) (f : Int) (τ : fs_S) (y : Option fs_V), 0 ≤ f → f ≤ 4 → 4 - f < m → (∀ k i, k ≠ 7 → k ≠ 8 → k ≠ 9 → τ k i = σ k i) → (∀ f', 0 ≤ f' → f' < f → SL t f' (gr f' + 1) (τ 9 f') (fun j => τ 7 (64 * f' + j)) (fun j => τ 8 (64 * f' + j))) →
      fs_W (fs_Γ 2 (Q_lay t σ)) mX7_layStretches 2 [some (.inr 0), some (.inl f), y] [] τ := by
    intro m
    induction m with
    | zero => intro f τ y h0 h1 h2; omega
    | succ m ih =>
      intro f τ y h0 h1 h2 hF hA
      have hg := gr_r f
      refine fr_iload_n 3 dX7_layStretches_2 rfl rfl ?_
      refine fr_iconst 4 dX7_layStretches_3 rfl ?_
      refine fr_icmp_ge 133 7 dX7_layStretches_4 rfl rfl (by omega) (by omega) (fun h4 => ?_) (fun h4 => ?_)
      · refine fr_vret dX7_layStretches_133 rfl ?_
        exact ⟨rfl, fun f' a b => hA f' a (by omega), hF⟩
      · refine fr_aload_n 8 dX7_layStretches_7 rfl rfl ?_
        refine fr_getr 11 9 dX7_layStretches_8 rfl fs_kX7_41 fs_l0 rfl ?_
        refine fr_iload_n 12 dX7_layStretches_11 rfl rfl ?_
        refine fr_iconst 13 dX7_layStretches_12 rfl ?_
        refine fr_iast 14 dX7_layStretches_13 rfl fs_l9 (by omega) ?_
        refine fr_iconst 15 dX7_layStretches_14 rfl ?_
        refine fr_istore_n 16 [_, _, _] dX7_layStretches_15 rfl (Nat.le_of_ble_eq_true rfl) rfl ?_
        refine k2 ((gr f + 1).toNat + 1) f 0 _ h0 (by omega) (by omega) (by omega) (by omega) (fun k i a b c => by rw [fs_u_ne _ (by omega)]; exact hF k i a b c) (fun f' a b => ?_) ?_ (fun τ' y' hF' hA' => ?_)
        · rw [fs_u_ne _ (by omega)]
          exact hA f' a b
        · rw [fs_u_eq]
          exact SL.zero t f _ _
        · show fs_W _ _ _ _ _ _
          refine fr_iinc 130 [_, _, _] dX7_layStretches_127 rfl rfl rfl ?_
          refine fr_goto 2 dX7_layStretches_130 rfl ?_
          exact ih (f + 1) _ _ (by omega) (by omega) (by omega) hF' hA'
  refine fr_iconst 1 dX7_layStretches_0 rfl ?_
  refine fr_istore_n 2 [_, _, _] dX7_layStretches_1 rfl (Nat.le_of_ble_eq_true rfl) rfl ?_
  exact k1 5 0 σ _ (by omega) (by omega) (by omega) (fun _ _ _ _ _ => rfl) (fun f' a b => by omega)
/-- the counts of a sweep so far, as a functional of what is counted -/
def AC (τ : fs_S) (t : rt) (Acc : (Nat → Int) → Int) : Prop := (∀ r, 0 ≤ r → r < 16 → τ 10 r = Acc (gW t r)) ∧ (∀ r, 0 ≤ r → r < 16 → 0 ≤ Acc (gN t r) ∧ (0 < Acc (gN t r) → τ 11 r = 1) ∧ (Acc (gN t r) = 0 → τ 11 r = 0)) ∧ (∀ x, 0 ≤ x → x ≤ 10 → τ 12 x = Acc (gD t x))
theorem AC.eq {σ τ : fs_S} {t : rt} {Acc : (Nat → Int) → Int} (h : AC σ t Acc) (e : ∀ k i, k = 10 ∨ k = 11 ∨ k = 12 → τ k i = σ k i) : AC τ t Acc := by
  refine ⟨fun r a b => ?_, fun r a b => ?_, fun x a b => ?_⟩
  · rw [e _ _ (by omega)]; exact h.1 r a b
  · rw [e _ _ (by omega)]; exact h.2.1 r a b
  · rw [e _ _ (by omega)]; exact h.2.2 x a b
theorem AC.congr {τ : fs_S} {t : rt} {A B : (Nat → Int) → Int} (h : AC τ t A) (e : ∀ g, A g = B g) : AC τ t B := by
  have : A = B := funext e
  rw [← this]; exact h
abbrev frMeet (σ τ : fs_S) : Prop := ∀ k i, k ≠ 10 → k ≠ 11 → k ≠ 12 → τ k i = σ k i
set_option maxRecDepth 100000 in
set_option maxHeartbeats 4000000 in
theorem cM_meet {σ : fs_S} {t : rt} {m : Nat} {w : Int} {Acc : (Nat → Int) → Int} (hw : twf t) (hR : RM σ t) (hO : ∀ p, 0 ≤ p → p < tn t → σ 5 p = tod t p) (hm : m < 65536) (hb : ∀ i, m.testBit i = true → (i : Int) < tn t) (hw1 : 1 ≤ w) (hA : AC σ t Acc) : fs_C mX7_meet 2 [.inr 0, .inl (m : Int), .inl w] σ (fun x τ => x = none ∧ AC τ t (fun g => Acc g + w * g m) ∧ frMeet σ τ) := by
  refine fs_C.intro [some (.inr 0), some (.inl (m : Int)), some (.inl w), none, none, none] fs_oX7_meet (Nat.le_of_ble_eq_true rfl) rfl ?_
  have hn := hw.1
  obtain ⟨a1, a2, a3⟩ := id hA
  by_cases h0 : m = 0
  · subst h0
    refine fr_iload_n 1 dX7_meet_0 rfl rfl ?_
    refine fr_if_ne 16 4 dX7_meet_1 rfl rfl (by omega) (fun h1 => ?_) (fun h1 => ?_)
    · exact absurd rfl h1
    · refine fr_aload_n 5 dX7_meet_4 rfl rfl ?_
      refine fr_getr 8 12 dX7_meet_5 rfl fs_kX7_51 fs_l0 rfl ?_
      refine fr_bipush 10 dX7_meet_8 rfl (by decide) ?_
      refine fr_dup2 11 dX7_meet_10 rfl ?_
      refine fr_iald 12 dX7_meet_11 rfl fs_l12 (by omega) ?_
      refine fr_iload_n 13 dX7_meet_12 rfl rfl ?_
      refine fr_iadd 14 dX7_meet_13 rfl ?_
      refine fr_iast 15 dX7_meet_14 rfl fs_l12 (by omega) ?_
      refine fr_vret dX7_meet_15 rfl ?_
      refine ⟨rfl, ⟨fun r a b => ?_, fun r a b => ?_, fun x a b => ?_⟩, fun k i a b c => fs_u_ne _ (by omega)⟩
      · dsimp only; rw [fs_u_ne _ (by omega), a1 r a b, show gW t r 0 = 0 from if_neg (by simp)]; omega
      · dsimp only; rw [fs_u_ne _ (by omega), show gN t r 0 = 0 from if_neg (by simp), show Acc (gN t r) + w * 0 = Acc (gN t r) by omega]; exact a2 r a b
      · dsimp only
        by_cases e : x = 10
        · subst e
          rw [fs_u_eq, a3 10 (by omega) (by omega), show gD t 10 0 = 1 from if_pos (Or.inl ⟨rfl, rfl⟩)]; omega
        · rw [fs_u_ne _ (by omega), a3 x a b, show gD t x 0 = 0 from if_neg (by simp; omega)]; omega
  · obtain ⟨j, ej, hj, hjb, -⟩ := lowb_spec hm h0
    have hjn := hb j hjb
    have hod := tod_r (t := t) (p := (j : Int)) (by omega) hjn
    obtain ⟨r, hr⟩ : ∃ r, tod t (lowb m) = r := ⟨_, rfl⟩
    have hr2 : tod t (j : Int) = r := by rw [← ej]; exact hr
    rw [hr2] at hod
    have hac := (hw.2.2 r hod.1 hod.2.1).2
    have eac := (hR.2.2 r hod.1 hod.2.1).2
    have hrs := rs_lt hm h0
    have gWe : ∀ x, gW t x m = if x = r then 1 else 0 := fun x => by
      unfold gW
      by_cases e : x = r
      · rw [if_pos ⟨h0, by rw [hr, e]⟩, if_pos e]
      · rw [if_neg (fun z => e (by rw [← z.2, hr])), if_neg e]
    have gDe : ∀ x, gD t x m = if x = tac t r then 1 else 0 := fun x => by
      unfold gD
      by_cases e : x = tac t r
      · rw [if_pos (Or.inr ⟨h0, by rw [hr, e]⟩), if_pos e]
      · rw [if_neg (fun z => z.elim (fun z => h0 z.1) (fun z => e (by rw [← z.2, hr]))), if_neg e]
    have fin : ∀ (τ : fs_S) (nd : Int), (nd = 0 ∨ nd = 1) → gN t r m = nd → (∀ k i, k ≠ 10 → k ≠ 11 → k ≠ 12 → τ k i = σ k i) → (τ 10 r = σ 10 r + w) → (∀ x, x ≠ r → τ 10 x = σ 10 x) → (τ 12 (tac t r) = σ 12 (tac t r) + w) → (∀ x, x ≠ tac t r → τ 12 x = σ 12 x) → (nd = 1 → τ 11 r = 1) → (∀ x, (x ≠ r ∨ nd = 0) → τ 11 x = σ 11 x) → AC τ t (fun g => Acc g + w * g m) ∧ frMeet σ τ := by
      intro τ nd hnd hN hF f1 f1' f2 f2' f3 f3'
      refine ⟨⟨fun x a b => ?_, fun x a b => ?_, fun x a b => ?_⟩, hF⟩
      · dsimp only
        have q := a1 x a b
        have q2 := gWe x
        by_cases e : x = r
        · subst e
          rw [if_pos rfl] at q2
          rw [f1, q2]; omega
        · rw [if_neg e] at q2
          rw [f1' x e, q2]; omega
      · dsimp only
        have q := a2 x a b
        by_cases e : x = r
        · subst e
          rw [hN]
          rcases hnd with rfl | rfl
          · rw [f3' x (Or.inr rfl), show Acc (gN t x) + w * 0 = Acc (gN t x) by omega]; exact q
          · exact ⟨by omega, fun _ => f3 rfl, fun z => by omega⟩
        · rw [f3' x (Or.inl e), show gN t x m = 0 from if_neg (fun z => e (by rw [← z.2.1, hr])), show Acc (gN t x) + w * 0 = Acc (gN t x) by omega]; exact q
      · dsimp only
        have q := a3 x a b
        have q2 := gDe x
        by_cases e : x = tac t r
        · subst e
          rw [if_pos rfl] at q2
          rw [f2, q2]; omega
        · rw [if_neg e] at q2
          rw [f2' x e, q2]; omega
    obtain ⟨S0, eS0⟩ : ∃ S, S = fs_u (fs_u σ 10 r (σ 10 r + w)) 12 (tac t r) (fs_u σ 10 r (σ 10 r + w) 12 (tac t r) + w) := ⟨_, rfl⟩
    have s10 : S0 10 r = σ 10 r + w := by rw [eS0, fs_u_k _ _ (by decide), fs_u_eq]
    have s10' : ∀ x, x ≠ r → S0 10 x = σ 10 x := fun x hx => by rw [eS0, fs_u_k _ _ (by decide), fs_u_i _ hx]
    have s12 : S0 12 (tac t r) = σ 12 (tac t r) + w := by rw [eS0, fs_u_eq, fs_u_k _ _ (by decide)]
    have s12' : ∀ x, x ≠ tac t r → S0 12 x = σ 12 x := fun x hx => by rw [eS0, fs_u_i _ hx, fs_u_k _ _ (by decide)]
    have s11 : ∀ x, S0 11 x = σ 11 x := fun x => by rw [eS0, fs_u_k _ _ (by decide), fs_u_k _ _ (by decide)]
    have sF : ∀ k i, k ≠ 10 → k ≠ 11 → k ≠ 12 → S0 k i = σ k i := fun k i a b c => by rw [eS0, fs_u_k _ _ c, fs_u_k _ _ a]
    have fin0 : gN t r m = 0 → AC S0 t (fun g => Acc g + w * g m) ∧ frMeet σ S0 := fun h => fin S0 0 (Or.inl rfl) h sF s10 s10' s12 s12' (fun z => by omega) (fun x _ => s11 x)
    have fin1 : gN t r m = 1 → AC (fs_u S0 11 r 1) t (fun g => Acc g + w * g m) ∧ frMeet σ (fs_u S0 11 r 1) := fun h => fin _ 1 (Or.inr rfl) h (fun k i a b c => by rw [fs_u_k _ _ b]; exact sF k i a b c) (by rw [fs_u_k _ _ (by decide)]; exact s10) (fun x hx => by rw [fs_u_k _ _ (by decide)]; exact s10' x hx) (by rw [fs_u_k _ _ (by decide)]; exact s12) (fun x hx => by rw [fs_u_k _ _ (by decide)]; exact s12' x hx) (fun _ => fs_u_eq _ _ _ _) (fun x hx => by rw [fs_u_i _ (by omega)]; exact s11 x)
    rw [eS0] at fin0 fin1
    have e1 : ∀ v, fs_u σ 10 r v 4 r = tac t r := fun v => by rw [fs_u_ne _ (by omega)]; exact eac
    refine fr_iload_n 1 dX7_meet_0 rfl rfl ?_
    refine fr_if_ne 16 4 dX7_meet_1 rfl rfl (by omega) (fun h1 => ?_) (fun h1 => ?_)
    · refine fr_iload_n 17 dX7_meet_16 rfl rfl ?_
      refine fr_callSi 20 (M2 := mX7_lowest) [_] dX7_meet_17 rfl fs_mX7_158 fs_oX7_lowest fs_sX7_lowest rfl (fs_Γ_rm (d := 1) (by decide)) (Nat.le_of_ble_eq_true rfl) rfl ?_
      first
      | refine (cM_lowest hm).ci ?_
      | refine (cM_lowest hrs).ci ?_
      refine fr_istore_n 21 [_, _, _, _, _, _] dX7_meet_20 rfl (Nat.le_of_ble_eq_true rfl) rfl ?_
      refine fr_iload_n 22 dX7_meet_21 rfl rfl ?_
      refine fr_iconst 23 dX7_meet_22 rfl ?_
      refine fr_iload_n 24 dX7_meet_23 rfl rfl ?_
      refine fr_ishl 25 dX7_meet_24 rfl ?_
      refine fr_iconst 26 dX7_meet_25 rfl ?_
      refine fr_ixor 27 dX7_meet_26 rfl ?_
      refine fr_iand 28 dX7_meet_27 rfl ?_
      refine fr_top (fm_clear hm h0) ?_
      refine fr_istore 30 [_, _, _, _, _, _] dX7_meet_28 rfl (Nat.le_of_ble_eq_true rfl) rfl ?_
      refine fr_aload_n 31 dX7_meet_30 rfl rfl ?_
      refine fr_getr 34 5 dX7_meet_31 rfl fs_kX7_29 fs_l0 rfl ?_
      refine fr_iload_n 35 dX7_meet_34 rfl rfl ?_
      refine fr_iald 36 dX7_meet_35 rfl fs_l5 (by rw [ej]; omega) ?_
      refine fr_top (y := r) (by rw [hO _ (by omega) (by omega), hr]) ?_
      refine fr_istore 38 [_, _, _, _, _, _] dX7_meet_36 rfl (Nat.le_of_ble_eq_true rfl) rfl ?_
      refine fr_aload_n 39 dX7_meet_38 rfl rfl ?_
      refine fr_getr 42 10 dX7_meet_39 rfl fs_kX7_44 fs_l0 rfl ?_
      refine fr_iload 44 dX7_meet_42 rfl rfl ?_
      refine fr_dup2 45 dX7_meet_44 rfl ?_
      refine fr_iald 46 dX7_meet_45 rfl fs_l10 (by omega) ?_
      refine fr_iload_n 47 dX7_meet_46 rfl rfl ?_
      refine fr_iadd 48 dX7_meet_47 rfl ?_
      refine fr_iast 49 dX7_meet_48 rfl fs_l10 (by omega) ?_
      refine fr_aload_n 50 dX7_meet_49 rfl rfl ?_
      refine fr_getr 53 12 dX7_meet_50 rfl fs_kX7_51 fs_l0 rfl ?_
      refine fr_aload_n 54 dX7_meet_53 rfl rfl ?_
      refine fr_getr 57 4 dX7_meet_54 rfl fs_kX7_19 fs_l0 rfl ?_
      refine fr_iload 59 dX7_meet_57 rfl rfl ?_
      refine fr_iald 60 dX7_meet_59 rfl fs_l4 (by omega) ?_
      refine fr_top (e1 _) ?_
      refine fr_dup2 61 dX7_meet_60 rfl ?_
      refine fr_iald 62 dX7_meet_61 rfl fs_l12 (by omega) ?_
      refine fr_iload_n 63 dX7_meet_62 rfl rfl ?_
      refine fr_iadd 64 dX7_meet_63 rfl ?_
      refine fr_iast 65 dX7_meet_64 rfl fs_l12 (by omega) ?_
      refine fr_iload 67 dX7_meet_65 rfl rfl ?_
      refine fr_if_eq 95 70 dX7_meet_67 rfl rfl (by omega) (fun h67 => ?_) (fun h67 => ?_)
      · refine fr_aload_n 96 dX7_meet_95 rfl rfl ?_
        refine fr_getr 99 11 dX7_meet_96 rfl fs_kX7_47 fs_l0 rfl ?_
        refine fr_iload 101 dX7_meet_99 rfl rfl ?_
        refine fr_iconst 102 dX7_meet_101 rfl ?_
        refine fr_zast 103 dX7_meet_102 rfl fs_l11 (by omega) (by omega) ?_
        refine fr_vret dX7_meet_103 rfl ?_
        refine ⟨rfl, ?_⟩
        first
        | exact fin1 (if_pos ⟨h0, hr, Or.inl (by omega)⟩)
        | exact fin1 (if_pos ⟨h0, hr, Or.inr (by rw [ej2]; exact h92)⟩)
        | exact fin0 (if_neg (fun z => z.2.2.elim (fun z => by omega) (fun z => z (by rw [ej2]; exact h92))))
      · obtain ⟨j2, ej2, hj2, hjb2, -⟩ := lowb_spec hrs (by omega)
        have hjn2 : (j2 : Int) < tn t := hb j2 (by rw [rs_bit hm h0] at hjb2; simp only [Bool.and_eq_true] at hjb2; exact hjb2.1)
        have hod2 := tod_r (t := t) (p := (j2 : Int)) (by omega) hjn2
        have hac2 := (hw.2.2 _ hod2.1 hod2.2.1).2
        have eac2 := (hR.2.2 _ hod2.1 hod2.2.1).2
        refine fr_aload_n 71 dX7_meet_70 rfl rfl ?_
        refine fr_getr 74 4 dX7_meet_71 rfl fs_kX7_19 fs_l0 rfl ?_
        refine fr_aload_n 75 dX7_meet_74 rfl rfl ?_
        refine fr_getr 78 5 dX7_meet_75 rfl fs_kX7_29 fs_l0 rfl ?_
        refine fr_iload 80 dX7_meet_78 rfl rfl ?_
        refine fr_callSi 83 (M2 := mX7_lowest) [_] dX7_meet_80 rfl fs_mX7_158 fs_oX7_lowest fs_sX7_lowest rfl (fs_Γ_rm (d := 1) (by decide)) (Nat.le_of_ble_eq_true rfl) rfl ?_
        first
        | refine (cM_lowest hm).ci ?_
        | refine (cM_lowest hrs).ci ?_
        refine fr_iald 84 dX7_meet_83 rfl fs_l5 (by rw [ej2]; omega) ?_
        refine fr_top (y := tod t (j2 : Int)) (by rw [fs_u_k _ _ (by decide), fs_u_k _ _ (by decide), ej2]; exact hO _ (by omega) (by omega)) ?_
        refine fr_iald 85 dX7_meet_84 rfl fs_l4 (by omega) ?_
        refine fr_top (y := tac t (tod t (j2 : Int))) (by rw [fs_u_k _ _ (by decide), fs_u_k _ _ (by decide)]; exact eac2) ?_
        refine fr_aload_n 86 dX7_meet_85 rfl rfl ?_
        refine fr_getr 89 4 dX7_meet_86 rfl fs_kX7_19 fs_l0 rfl ?_
        refine fr_iload 91 dX7_meet_89 rfl rfl ?_
        refine fr_iald 92 dX7_meet_91 rfl fs_l4 (by omega) ?_
        refine fr_top (y := tac t r) (by rw [fs_u_k _ _ (by decide), fs_u_k _ _ (by decide)]; exact eac) ?_
        refine fr_icmp_eq 103 95 dX7_meet_92 rfl rfl (by omega) (by omega) (fun h92 => ?_) (fun h92 => ?_)
        · refine fr_vret dX7_meet_103 rfl ?_
          refine ⟨rfl, ?_⟩
          first
          | exact fin1 (if_pos ⟨h0, hr, Or.inl (by omega)⟩)
          | exact fin1 (if_pos ⟨h0, hr, Or.inr (by rw [ej2]; exact h92)⟩)
          | exact fin0 (if_neg (fun z => z.2.2.elim (fun z => by omega) (fun z => z (by rw [ej2]; exact h92))))
        · refine fr_aload_n 96 dX7_meet_95 rfl rfl ?_
          refine fr_getr 99 11 dX7_meet_96 rfl fs_kX7_47 fs_l0 rfl ?_
          refine fr_iload 101 dX7_meet_99 rfl rfl ?_
          refine fr_iconst 102 dX7_meet_101 rfl ?_
          refine fr_zast 103 dX7_meet_102 rfl fs_l11 (by omega) (by omega) ?_
          refine fr_vret dX7_meet_103 rfl ?_
          refine ⟨rfl, ?_⟩
          first
          | exact fin1 (if_pos ⟨h0, hr, Or.inl (by omega)⟩)
          | exact fin1 (if_pos ⟨h0, hr, Or.inr (by rw [ej2]; exact h92)⟩)
          | exact fin0 (if_neg (fun z => z.2.2.elim (fun z => by omega) (fun z => z (by rw [ej2]; exact h92))))
    · exact absurd h1 (by omega)
