/-! ===== the model: stretches, meet, sweep ===== -/
def Q_lay (t : rt) (σ : fs_S) : fs_Q := fun x τ => x = none ∧ (∀ f, 0 ≤ f → f < 4 → SL t f (gr f + 1) (τ 9 f) (fun j => τ 7 (64 * f + j)) (fun j => τ 8 (64 * f + j))) ∧ (∀ k i, k ≠ 7 → k ≠ 8 → k ≠ 9 → τ k i = σ k i)
set_option maxRecDepth 100000 in
set_option maxHeartbeats 4000000 in
theorem cM_layStretches {σ : fs_S} {t : rt} (hw : twf t) (hO : ∀ f v, 0 ≤ f → f < 4 → 0 ≤ v → v ≤ gr f → σ 6 (64 * f + v) = ((tkm t f v v : Nat) : Int)) : fs_C mX7_layStretches 2 [.inr 0] σ (Q_lay t σ) := by
  refine fs_C.intro [some (.inr 0), none, none] fs_oX7_layStretches (Nat.le_of_ble_eq_true rfl) rfl ?_
  have k2 : ∀ (m : Nat) (f v : Int) (τ : fs_S), 0 ≤ f → f < 4 → 0 ≤ v → v ≤ gr f + 1 → gr f + 1 - v < m → (∀ k i, k ≠ 7 → k ≠ 8 → k ≠ 9 → τ k i = σ k i) → (∀ f', 0 ≤ f' → f' < f → SL t f' (gr f' + 1) (τ 9 f') (fun j => τ 7 (64 * f' + j)) (fun j => τ 8 (64 * f' + j))) → SL t f v (τ 9 f) (fun j => τ 7 (64 * f + j)) (fun j => τ 8 (64 * f + j)) →
      (∀ τ' y, (∀ k i, k ≠ 7 → k ≠ 8 → k ≠ 9 → τ' k i = σ k i) → (∀ f', 0 ≤ f' → f' < f + 1 → SL t f' (gr f' + 1) (τ' 9 f') (fun j => τ' 7 (64 * f' + j)) (fun j => τ' 8 (64 * f' + j))) → fs_W (fs_Γ 2 (Q_lay t σ)) mX7_layStretches 127 [some (.inr 0), some (.inl f), y] [] τ') →
      fs_W (fs_Γ 2 (Q_lay t σ)) mX7_layStretches 16 [some (.inr 0), some (.inl f), some (.inl v)] [] τ := by
    intro m
    induction m with
    | zero => intro f v τ h0 h1 h2 h3 h4; omega
    | succ m ih =>
      intro f v τ h0 h1 h2 h3 h4 hF hA hS kk
      have hg := gr_r f
      obtain ⟨s, hs⟩ : ∃ s, τ 9 f = s := ⟨_, rfl⟩
      have hs1 := hS.1
      rw [hs] at hs1
      have fr : ∀ (v' : Int) (τ' : fs_S), (∀ k i, ¬ ((k = 7 ∨ k = 8) ∧ 64 * f ≤ i ∧ i < 64 * f + 64) → ¬ (k = 9 ∧ i = f) → τ' k i = τ k i) → (∀ k i, k ≠ 7 → k ≠ 8 → k ≠ 9 → τ' k i = σ k i) ∧ (∀ f', 0 ≤ f' → f' < f → SL t f' (gr f' + 1) (τ' 9 f') (fun j => τ' 7 (64 * f' + j)) (fun j => τ' 8 (64 * f' + j))) := by
        intro v' τ' h
        refine ⟨fun k i a b c => by rw [h k i (by omega) (by omega)]; exact hF k i a b c, fun f' a b => ?_⟩
        have hq := hA f' a b
        have hg' := gr_r f'
        have hq1 := hq.1
        rw [h 9 f' (by omega) (by omega)]
        exact hq.congr (fun j c d => h 7 _ (by omega) (by omega)) (fun j c d => h 8 _ (by omega) (by omega))
      refine fr_iload_n 17 dX7_layStretches_16 rfl rfl ?_
      refine fr_iload_n 18 dX7_layStretches_17 rfl rfl ?_
      refine fr_callSi 21 (M2 := mX7_most) [_] dX7_layStretches_18 rfl fs_mX7_124 fs_oX7_most fs_sX7_most rfl (fs_Γ_rm (d := 1) (by decide)) (Nat.le_of_ble_eq_true rfl) rfl ?_
      refine (cM_most (by omega)).ci ?_
      refine fr_icmp_gt 127 24 dX7_layStretches_21 rfl rfl (by omega) (by omega) (fun h21 => ?_) (fun h21 => ?_)
      · exact kk _ _ hF (fun f' a b => by
          by_cases e : f' = f
          · subst e; rw [show gr f' + 1 = v by omega]; exact hS
          · exact hA f' a (by omega))
      · refine fr_iload_n 25 dX7_layStretches_24 rfl rfl ?_
        refine fr_if_eq 55 28 dX7_layStretches_25 rfl rfl (by omega) (fun h25 => ?_) (fun h25 => ?_)
        · first | skip
          refine fr_aload_n 56 dX7_layStretches_55 rfl rfl ?_
          refine fr_getr 59 7 dX7_layStretches_56 rfl fs_kX7_35 fs_l0 rfl ?_
          refine fr_bipush 61 dX7_layStretches_59 rfl (by decide) ?_
          refine fr_iload_n 62 dX7_layStretches_61 rfl rfl ?_
          refine fr_imul 63 dX7_layStretches_62 rfl ?_
          refine fr_aload_n 64 dX7_layStretches_63 rfl rfl ?_
          refine fr_getr 67 9 dX7_layStretches_64 rfl fs_kX7_41 fs_l0 rfl ?_
          refine fr_iload_n 68 dX7_layStretches_67 rfl rfl ?_
          refine fr_iald 69 dX7_layStretches_68 rfl fs_l9 (by omega) ?_
          refine fr_top hs ?_
          refine fr_iadd 70 dX7_layStretches_69 rfl ?_
          refine fr_iload_n 71 dX7_layStretches_70 rfl rfl ?_
          refine fr_iast 72 dX7_layStretches_71 rfl fs_l7 (by omega) ?_
          refine fr_aload_n 73 dX7_layStretches_72 rfl rfl ?_
          refine fr_getr 76 8 dX7_layStretches_73 rfl fs_kX7_38 fs_l0 rfl ?_
          refine fr_bipush 78 dX7_layStretches_76 rfl (by decide) ?_
          refine fr_iload_n 79 dX7_layStretches_78 rfl rfl ?_
          refine fr_imul 80 dX7_layStretches_79 rfl ?_
          refine fr_aload_n 81 dX7_layStretches_80 rfl rfl ?_
          refine fr_getr 84 9 dX7_layStretches_81 rfl fs_kX7_41 fs_l0 rfl ?_
          refine fr_iload_n 85 dX7_layStretches_84 rfl rfl ?_
          refine fr_iald 86 dX7_layStretches_85 rfl fs_l9 (by omega) ?_
          refine fr_top (y := s) (by unfold fs_u; (repeat' split) <;> omega) ?_
          refine fr_iadd 87 dX7_layStretches_86 rfl ?_
          refine fr_iconst 88 dX7_layStretches_87 rfl ?_
          refine fr_iast 89 dX7_layStretches_88 rfl fs_l8 (by omega) ?_
          refine fr_aload_n 90 dX7_layStretches_89 rfl rfl ?_
          refine fr_getr 93 9 dX7_layStretches_90 rfl fs_kX7_41 fs_l0 rfl ?_
          refine fr_iload_n 94 dX7_layStretches_93 rfl rfl ?_
          refine fr_dup2 95 dX7_layStretches_94 rfl ?_
          refine fr_iald 96 dX7_layStretches_95 rfl fs_l9 (by omega) ?_
          refine fr_top (y := s) (by unfold fs_u; (repeat' split) <;> omega) ?_
          refine fr_iconst 97 dX7_layStretches_96 rfl ?_
          refine fr_iadd 98 dX7_layStretches_97 rfl ?_
          refine fr_iast 99 dX7_layStretches_98 rfl fs_l9 (by omega) ?_
          refine fr_aload_n 100 dX7_layStretches_99 rfl rfl ?_
          refine fr_getr 103 8 dX7_layStretches_100 rfl fs_kX7_38 fs_l0 rfl ?_
          refine fr_bipush 105 dX7_layStretches_103 rfl (by decide) ?_
          refine fr_iload_n 106 dX7_layStretches_105 rfl rfl ?_
          refine fr_imul 107 dX7_layStretches_106 rfl ?_
          refine fr_aload_n 108 dX7_layStretches_107 rfl rfl ?_
          refine fr_getr 111 9 dX7_layStretches_108 rfl fs_kX7_41 fs_l0 rfl ?_
          refine fr_iload_n 112 dX7_layStretches_111 rfl rfl ?_
          refine fr_iald 113 dX7_layStretches_112 rfl fs_l9 (by omega) ?_
          refine fr_top (y := s + 1) (by unfold fs_u; (repeat' split) <;> omega) ?_
          refine fr_iadd 114 dX7_layStretches_113 rfl ?_
          refine fr_iconst 115 dX7_layStretches_114 rfl ?_
          refine fr_isub 116 dX7_layStretches_115 rfl ?_
          refine fr_dup2 117 dX7_layStretches_116 rfl ?_
          refine fr_iald 118 dX7_layStretches_117 rfl fs_l8 (by omega) ?_
          refine fr_top (y := 0) (by unfold fs_u; (repeat' split) <;> omega) ?_
          refine fr_iconst 119 dX7_layStretches_118 rfl ?_
          refine fr_iadd 120 dX7_layStretches_119 rfl ?_
          refine fr_iast 121 dX7_layStretches_120 rfl fs_l8 (by omega) ?_
          refine fr_iinc 124 [_, _, _] dX7_layStretches_121 rfl rfl rfl ?_
          refine fr_goto 16 dX7_layStretches_124 rfl ?_
          obtain ⟨g1, g2⟩ := fr (v + 1) (fs_u (fs_u (fs_u (fs_u τ 7 (64 * f + s) v) 8 (64 * f + s) 0) 9 f (s + 1)) 8 (64 * f + (s + 1) - 1) (0 + 1)) (fun k i a b => by unfold fs_u; (repeat' split) <;> omega)
          refine ih f (v + 1) _ h0 h1 (by omega) (by omega) (by omega) g1 g2 ?_ kk
          rw [show fs_u (fs_u (fs_u (fs_u τ 7 (64 * f + s) v) 8 (64 * f + s) 0) 9 f (s + 1)) 8 (64 * f + (s + 1) - 1) (0 + 1) 9 f = s + 1 by unfold fs_u; (repeat' split) <;> omega]
          rw [hs] at hS
          exact hS.new h2 (fun j a b => by unfold fs_u; (repeat' split) <;> omega) (fun j a b => by unfold fs_u; (repeat' split) <;> omega) (by unfold fs_u; (repeat' split) <;> omega) (by unfold fs_u; (repeat' split) <;> omega)
        · have t1 := hO f v h0 h1 h2 (by omega)
          have t2 := hO f (v - 1) h0 h1 (by omega) (by omega)
          rw [← hF 6 _ (by decide) (by decide) (by decide)] at t1 t2
          rw [show 64 * f + (v - 1) = 64 * f + v - 1 by omega] at t2
          have l1 := tkm_lt hw f v v
          have l2 := tkm_lt hw f (v - 1) (v - 1)
          refine fr_aload_n 29 dX7_layStretches_28 rfl rfl ?_
          refine fr_getr 32 6 dX7_layStretches_29 rfl fs_kX7_32 fs_l0 rfl ?_
          refine fr_bipush 34 dX7_layStretches_32 rfl (by decide) ?_
          refine fr_iload_n 35 dX7_layStretches_34 rfl rfl ?_
          refine fr_imul 36 dX7_layStretches_35 rfl ?_
          refine fr_iload_n 37 dX7_layStretches_36 rfl rfl ?_
          refine fr_iadd 38 dX7_layStretches_37 rfl ?_
          refine fr_iald 39 dX7_layStretches_38 rfl fs_l6 (by omega) ?_
          refine fr_aload_n 40 dX7_layStretches_39 rfl rfl ?_
          refine fr_getr 43 6 dX7_layStretches_40 rfl fs_kX7_32 fs_l0 rfl ?_
          refine fr_bipush 45 dX7_layStretches_43 rfl (by decide) ?_
          refine fr_iload_n 46 dX7_layStretches_45 rfl rfl ?_
          refine fr_imul 47 dX7_layStretches_46 rfl ?_
          refine fr_iload_n 48 dX7_layStretches_47 rfl rfl ?_
          refine fr_iadd 49 dX7_layStretches_48 rfl ?_
          refine fr_iconst 50 dX7_layStretches_49 rfl ?_
          refine fr_isub 51 dX7_layStretches_50 rfl ?_
          refine fr_iald 52 dX7_layStretches_51 rfl fs_l6 (by omega) ?_
          refine fr_icmp_eq 99 55 dX7_layStretches_52 rfl rfl (by omega) (by omega) (fun h52 => ?_) (fun h52 => ?_)
          · have hs2 := hS.2.1 (by omega)
            rw [hs] at hs2
            refine fr_aload_n 100 dX7_layStretches_99 rfl rfl ?_
            refine fr_getr 103 8 dX7_layStretches_100 rfl fs_kX7_38 fs_l0 rfl ?_
            refine fr_bipush 105 dX7_layStretches_103 rfl (by decide) ?_
            refine fr_iload_n 106 dX7_layStretches_105 rfl rfl ?_
            refine fr_imul 107 dX7_layStretches_106 rfl ?_
            refine fr_aload_n 108 dX7_layStretches_107 rfl rfl ?_
            refine fr_getr 111 9 dX7_layStretches_108 rfl fs_kX7_41 fs_l0 rfl ?_
            refine fr_iload_n 112 dX7_layStretches_111 rfl rfl ?_
            refine fr_iald 113 dX7_layStretches_112 rfl fs_l9 (by omega) ?_
            refine fr_top hs ?_
            refine fr_iadd 114 dX7_layStretches_113 rfl ?_
            refine fr_iconst 115 dX7_layStretches_114 rfl ?_
            refine fr_isub 116 dX7_layStretches_115 rfl ?_
            refine fr_dup2 117 dX7_layStretches_116 rfl ?_
            refine fr_iald 118 dX7_layStretches_117 rfl fs_l8 (by omega) ?_
            refine fr_iconst 119 dX7_layStretches_118 rfl ?_
            refine fr_iadd 120 dX7_layStretches_119 rfl ?_
            refine fr_iast 121 dX7_layStretches_120 rfl fs_l8 (by omega) ?_
            refine fr_iinc 124 [_, _, _] dX7_layStretches_121 rfl rfl rfl ?_
            refine fr_goto 16 dX7_layStretches_124 rfl ?_
            obtain ⟨g1, g2⟩ := fr (v + 1) (fs_u τ 8 (64 * f + s - 1) (τ 8 (64 * f + s - 1) + 1)) (fun k i a b => by unfold fs_u; (repeat' split) <;> omega)
            refine ih f (v + 1) _ h0 h1 (by omega) (by omega) (by omega) g1 g2 ?_ kk
            rw [show fs_u τ 8 (64 * f + s - 1) (τ 8 (64 * f + s - 1) + 1) 9 f = s by unfold fs_u; (repeat' split) <;> omega]
            rw [hs] at hS
            refine hS.more (by omega) (fun j a b => by unfold fs_u; (repeat' split) <;> omega) (fun j a b => by unfold fs_u; (repeat' split) <;> omega) ?_ (by omega)
            show fs_u τ 8 (64 * f + s - 1) (τ 8 (64 * f + s - 1) + 1) 8 (64 * f + (s - 1)) = τ 8 (64 * f + (s - 1)) + 1
            rw [show 64 * f + (s - 1) = 64 * f + s - 1 by omega]
            exact fs_u_eq _ _ _ _
          · first | skip
            refine fr_aload_n 56 dX7_layStretches_55 rfl rfl ?_
            refine fr_getr 59 7 dX7_layStretches_56 rfl fs_kX7_35 fs_l0 rfl ?_
            refine fr_bipush 61 dX7_layStretches_59 rfl (by decide) ?_
            refine fr_iload_n 62 dX7_layStretches_61 rfl rfl ?_
            refine fr_imul 63 dX7_layStretches_62 rfl ?_
            refine fr_aload_n 64 dX7_layStretches_63 rfl rfl ?_
            refine fr_getr 67 9 dX7_layStretches_64 rfl fs_kX7_41 fs_l0 rfl ?_
            refine fr_iload_n 68 dX7_layStretches_67 rfl rfl ?_
            refine fr_iald 69 dX7_layStretches_68 rfl fs_l9 (by omega) ?_
            refine fr_top hs ?_
            refine fr_iadd 70 dX7_layStretches_69 rfl ?_
            refine fr_iload_n 71 dX7_layStretches_70 rfl rfl ?_
            refine fr_iast 72 dX7_layStretches_71 rfl fs_l7 (by omega) ?_
            refine fr_aload_n 73 dX7_layStretches_72 rfl rfl ?_
            refine fr_getr 76 8 dX7_layStretches_73 rfl fs_kX7_38 fs_l0 rfl ?_
            refine fr_bipush 78 dX7_layStretches_76 rfl (by decide) ?_
            refine fr_iload_n 79 dX7_layStretches_78 rfl rfl ?_
            refine fr_imul 80 dX7_layStretches_79 rfl ?_
            refine fr_aload_n 81 dX7_layStretches_80 rfl rfl ?_
            refine fr_getr 84 9 dX7_layStretches_81 rfl fs_kX7_41 fs_l0 rfl ?_
            refine fr_iload_n 85 dX7_layStretches_84 rfl rfl ?_
            refine fr_iald 86 dX7_layStretches_85 rfl fs_l9 (by omega) ?_
            refine fr_top (y := s) (by unfold fs_u; (repeat' split) <;> omega) ?_
            refine fr_iadd 87 dX7_layStretches_86 rfl ?_
            refine fr_iconst 88 dX7_layStretches_87 rfl ?_
            refine fr_iast 89 dX7_layStretches_88 rfl fs_l8 (by omega) ?_
            refine fr_aload_n 90 dX7_layStretches_89 rfl rfl ?_
            refine fr_getr 93 9 dX7_layStretches_90 rfl fs_kX7_41 fs_l0 rfl ?_
            refine fr_iload_n 94 dX7_layStretches_93 rfl rfl ?_
            refine fr_dup2 95 dX7_layStretches_94 rfl ?_
            refine fr_iald 96 dX7_layStretches_95 rfl fs_l9 (by omega) ?_
            refine fr_top (y := s) (by unfold fs_u; (repeat' split) <;> omega) ?_
            refine fr_iconst 97 dX7_layStretches_96 rfl ?_
            refine fr_iadd 98 dX7_layStretches_97 rfl ?_
            refine fr_iast 99 dX7_layStretches_98 rfl fs_l9 (by omega) ?_
            refine fr_aload_n 100 dX7_layStretches_99 rfl rfl ?_
            refine fr_getr 103 8 dX7_layStretches_100 rfl fs_kX7_38 fs_l0 rfl ?_
            refine fr_bipush 105 dX7_layStretches_103 rfl (by decide) ?_
            refine fr_iload_n 106 dX7_layStretches_105 rfl rfl ?_
            refine fr_imul 107 dX7_layStretches_106 rfl ?_
            refine fr_aload_n 108 dX7_layStretches_107 rfl rfl ?_
            refine fr_getr 111 9 dX7_layStretches_108 rfl fs_kX7_41 fs_l0 rfl ?_
            refine fr_iload_n 112 dX7_layStretches_111 rfl rfl ?_
            refine fr_iald 113 dX7_layStretches_112 rfl fs_l9 (by omega) ?_
            refine fr_top (y := s + 1) (by unfold fs_u; (repeat' split) <;> omega) ?_
            refine fr_iadd 114 dX7_layStretches_113 rfl ?_
            refine fr_iconst 115 dX7_layStretches_114 rfl ?_
            refine fr_isub 116 dX7_layStretches_115 rfl ?_
            refine fr_dup2 117 dX7_layStretches_116 rfl ?_
            refine fr_iald 118 dX7_layStretches_117 rfl fs_l8 (by omega) ?_
            refine fr_top (y := 0) (by unfold fs_u; (repeat' split) <;> omega) ?_
            refine fr_iconst 119 dX7_layStretches_118 rfl ?_
            refine fr_iadd 120 dX7_layStretches_119 rfl ?_
            refine fr_iast 121 dX7_layStretches_120 rfl fs_l8 (by omega) ?_
            refine fr_iinc 124 [_, _, _] dX7_layStretches_121 rfl rfl rfl ?_
            refine fr_goto 16 dX7_layStretches_124 rfl ?_
            obtain ⟨g1, g2⟩ := fr (v + 1) (fs_u (fs_u (fs_u (fs_u τ 7 (64 * f + s) v) 8 (64 * f + s) 0) 9 f (s + 1)) 8 (64 * f + (s + 1) - 1) (0 + 1)) (fun k i a b => by unfold fs_u; (repeat' split) <;> omega)
            refine ih f (v + 1) _ h0 h1 (by omega) (by omega) (by omega) g1 g2 ?_ kk
            rw [show fs_u (fs_u (fs_u (fs_u τ 7 (64 * f + s) v) 8 (64 * f + s) 0) 9 f (s + 1)) 8 (64 * f + (s + 1) - 1) (0 + 1) 9 f = s + 1 by unfold fs_u; (repeat' split) <;> omega]
            rw [hs] at hS
            exact hS.new h2 (fun j a b => by unfold fs_u; (repeat' split) <;> omega) (fun j a b => by unfold fs_u; (repeat' split) <;> omega) (by unfold fs_u; (repeat' split) <;> omega) (by unfold fs_u; (repeat' split) <;> omega)
  have k1 : ∀ (m : Nat) (f : Int) (τ : fs_S) (y : Option fs_V), 0 ≤ f → f ≤ 4 → 4 - f < m → (∀ k i, k ≠ 7 → k ≠ 8 → k ≠ 9 → τ k i = σ k i) → (∀ f', 0 ≤ f' → f' < f → SL t f' (gr f' + 1) (τ 9 f') (fun j => τ 7 (64 * f' + j)) (fun j => τ 8 (64 * f' + j))) →
      fs_W (fs_Γ 2 (Q_lay t σ)) mX7_layStretches 2 [some (.inr 0), some (.inl f), y] [] τ := by
    intro m
    induction m with
    | zero => intro f τ y h0 h1 h2; omega
    | succ m ih =>
      intro f τ y h0 h1 h2 hF hA
      have hg := gr_r f
      refine fr_iload_n 3 dX7_layStretches_2 rfl rfl ?_
      refine fr_iconst 4 dX7_layStretches_3 rfl ?_
      refine fr_icmp_ge 133 7 dX7_layStretches_4 rfl rfl (by omega) (by omega) (fun h4 => ?_) (fun h4 => ?_)
      · refine fr_vret dX7_layStretches_133 rfl ?_
        exact ⟨rfl, fun f' a b => hA f' a (by omega), hF⟩
      · refine fr_aload_n 8 dX7_layStretches_7 rfl rfl ?_
        refine fr_getr 11 9 dX7_layStretches_8 rfl fs_kX7_41 fs_l0 rfl ?_
        refine fr_iload_n 12 dX7_layStretches_11 rfl rfl ?_
        refine fr_iconst 13 dX7_layStretches_12 rfl ?_
        refine fr_iast 14 dX7_layStretches_13 rfl fs_l9 (by omega) ?_
        refine fr_iconst 15 dX7_layStretches_14 rfl ?_
        refine fr_istore_n 16 [_, _, _] dX7_layStretches_15 rfl (Nat.le_of_ble_eq_true rfl) rfl ?_
        refine k2 ((gr f + 1).toNat + 1) f 0 _ h0 (by omega) (by omega) (by omega) (by omega) (fun k i a b c => by rw [fs_u_ne _ (by omega)]; exact hF k i a b c) (fun f' a b => ?_) ?_ (fun τ' y' hF' hA' => ?_)
        · rw [fs_u_ne _ (by omega)]
          exact hA f' a b
        · rw [fs_u_eq]
          exact SL.zero t f _ _
        · show fs_W _ _ _ _ _ _
          refine fr_iinc 130 [_, _, _] dX7_layStretches_127 rfl rfl rfl ?_
          refine fr_goto 2 dX7_layStretches_130 rfl ?_
          exact ih (f + 1) _ _ (by omega) (by omega) (by omega) hF' hA'
  refine fr_iconst 1 dX7_layStretches_0 rfl ?_
  refine fr_istore_n 2 [_, _, _] dX7_layStretches_1 rfl (Nat.le_of_ble_eq_true rfl) rfl ?_
  exact k1 5 0 σ _ (by omega) (by omega) (by omega) (fun _ _ _ _ _ => rfl) (fun f' a b => by omega)
/-- the counts of a sweep so far, as a functional of what is counted -/
def AC (τ : fs_S) (t : rt) (Acc : (Nat → Int) → Int) : Prop := (∀ r, 0 ≤ r → r < 16 → τ 10 r = Acc (gW t r)) ∧ (∀ r, 0 ≤ r → r < 16 → 0 ≤ Acc (gN t r) ∧ (0 < Acc (gN t r) → τ 11 r = 1) ∧ (Acc (gN t r) = 0 → τ 11 r = 0)) ∧ (∀ x, 0 ≤ x → x ≤ 10 → τ 12 x = Acc (gD t x))
theorem AC.eq {σ τ : fs_S} {t : rt} {Acc : (Nat → Int) → Int} (h : AC σ t Acc) (e : ∀ k i, k = 10 ∨ k = 11 ∨ k = 12 → τ k i = σ k i) : AC τ t Acc := by
  refine ⟨fun r a b => ?_, fun r a b => ?_, fun x a b => ?_⟩
  · rw [e _ _ (by omega)]; exact h.1 r a b
  · rw [e _ _ (by omega)]; exact h.2.1 r a b
  · rw [e _ _ (by omega)]; exact h.2.2 x a b
theorem AC.congr {τ : fs_S} {t : rt} {A B : (Nat → Int) → Int} (h : AC τ t A) (e : ∀ g, A g = B g) : AC τ t B := by
  have : A = B := funext e
  rw [← this]; exact h
abbrev frMeet (σ τ : fs_S) : Prop := ∀ k i, k ≠ 10 → k ≠ 11 → k ≠ 12 → τ k i = σ k i
set_option maxRecDepth 100000 in
set_option maxHeartbeats 4000000 in
theorem cM_meet {σ : fs_S} {t : rt} {m : Nat} {w : Int} {Acc : (Nat → Int) → Int} (hw : twf t) (hR : RM σ t) (hO : ∀ p, 0 ≤ p → p < tn t → σ 5 p = tod t p) (hm : m < 65536) (hb : ∀ i, m.testBit i = true → (i : Int) < tn t) (hw1 : 1 ≤ w) (hA : AC σ t Acc) : fs_C mX7_meet 2 [.inr 0, .inl (m : Int), .inl w] σ (fun x τ => x = none ∧ AC τ t (fun g => Acc g + w * g m) ∧ frMeet σ τ) := by
  refine fs_C.intro [some (.inr 0), some (.inl (m : Int)), some (.inl w), none, none, none] fs_oX7_meet (Nat.le_of_ble_eq_true rfl) rfl ?_
  have hn := hw.1
  obtain ⟨a1, a2, a3⟩ := id hA
  by_cases h0 : m = 0
  · subst h0
    refine fr_iload_n 1 dX7_meet_0 rfl rfl ?_
    refine fr_if_ne 16 4 dX7_meet_1 rfl rfl (by omega) (fun h1 => ?_) (fun h1 => ?_)
    · exact absurd rfl h1
    · refine fr_aload_n 5 dX7_meet_4 rfl rfl ?_
      refine fr_getr 8 12 dX7_meet_5 rfl fs_kX7_51 fs_l0 rfl ?_
      refine fr_bipush 10 dX7_meet_8 rfl (by decide) ?_
      refine fr_dup2 11 dX7_meet_10 rfl ?_
      refine fr_iald 12 dX7_meet_11 rfl fs_l12 (by omega) ?_
      refine fr_iload_n 13 dX7_meet_12 rfl rfl ?_
      refine fr_iadd 14 dX7_meet_13 rfl ?_
      refine fr_iast 15 dX7_meet_14 rfl fs_l12 (by omega) ?_
      refine fr_vret dX7_meet_15 rfl ?_
      refine ⟨rfl, ⟨fun r a b => ?_, fun r a b => ?_, fun x a b => ?_⟩, fun k i a b c => fs_u_ne _ (by omega)⟩
      · dsimp only; rw [fs_u_ne _ (by omega), a1 r a b, show gW t r 0 = 0 from if_neg (by simp)]; omega
      · dsimp only; rw [fs_u_ne _ (by omega), show gN t r 0 = 0 from if_neg (by simp), show Acc (gN t r) + w * 0 = Acc (gN t r) by omega]; exact a2 r a b
      · dsimp only
        by_cases e : x = 10
        · subst e
          rw [fs_u_eq, a3 10 (by omega) (by omega), show gD t 10 0 = 1 from if_pos (Or.inl ⟨rfl, rfl⟩)]; omega
        · rw [fs_u_ne _ (by omega), a3 x a b, show gD t x 0 = 0 from if_neg (by simp; omega)]; omega
  · obtain ⟨j, ej, hj, hjb, -⟩ := lowb_spec hm h0
    have hjn := hb j hjb
    have hod := tod_r (t := t) (p := (j : Int)) (by omega) hjn
    obtain ⟨r, hr⟩ : ∃ r, tod t (lowb m) = r := ⟨_, rfl⟩
    have hr2 : tod t (j : Int) = r := by rw [← ej]; exact hr
    rw [hr2] at hod
    have hac := (hw.2.2 r hod.1 hod.2.1).2
    have eac := (hR.2.2 r hod.1 hod.2.1).2
    have hrs := rs_lt hm h0
    have gWe : ∀ x, gW t x m = if x = r then 1 else 0 := fun x => by
      unfold gW
      by_cases e : x = r
      · rw [if_pos ⟨h0, by rw [hr, e]⟩, if_pos e]
      · rw [if_neg (fun z => e (by rw [← z.2, hr])), if_neg e]
    have gDe : ∀ x, gD t x m = if x = tac t r then 1 else 0 := fun x => by
      unfold gD
      by_cases e : x = tac t r
      · rw [if_pos (Or.inr ⟨h0, by rw [hr, e]⟩), if_pos e]
      · rw [if_neg (fun z => z.elim (fun z => h0 z.1) (fun z => e (by rw [← z.2, hr]))), if_neg e]
    have fin : ∀ (τ : fs_S) (nd : Int), (nd = 0 ∨ nd = 1) → gN t r m = nd → (∀ k i, k ≠ 10 → k ≠ 11 → k ≠ 12 → τ k i = σ k i) → (τ 10 r = σ 10 r + w) → (∀ x, x ≠ r → τ 10 x = σ 10 x) → (τ 12 (tac t r) = σ 12 (tac t r) + w) → (∀ x, x ≠ tac t r → τ 12 x = σ 12 x) → (nd = 1 → τ 11 r = 1) → (∀ x, (x ≠ r ∨ nd = 0) → τ 11 x = σ 11 x) → AC τ t (fun g => Acc g + w * g m) ∧ frMeet σ τ := by
      intro τ nd hnd hN hF f1 f1' f2 f2' f3 f3'
      refine ⟨⟨fun x a b => ?_, fun x a b => ?_, fun x a b => ?_⟩, hF⟩
      · dsimp only
        have q := a1 x a b
        have q2 := gWe x
        by_cases e : x = r
        · subst e
          rw [if_pos rfl] at q2
          rw [f1, q2]; omega
        · rw [if_neg e] at q2
          rw [f1' x e, q2]; omega
      · dsimp only
        have q := a2 x a b
        by_cases e : x = r
        · subst e
          rw [hN]
          rcases hnd with rfl | rfl
          · rw [f3' x (Or.inr rfl), show Acc (gN t x) + w * 0 = Acc (gN t x) by omega]; exact q
          · exact ⟨by omega, fun _ => f3 rfl, fun z => by omega⟩
        · rw [f3' x (Or.inl e), show gN t x m = 0 from if_neg (fun z => e (by rw [← z.2.1, hr])), show Acc (gN t x) + w * 0 = Acc (gN t x) by omega]; exact q
      · dsimp only
        have q := a3 x a b
        have q2 := gDe x
        by_cases e : x = tac t r
        · subst e
          rw [if_pos rfl] at q2
          rw [f2, q2]; omega
        · rw [if_neg e] at q2
          rw [f2' x e, q2]; omega
    obtain ⟨S0, eS0⟩ : ∃ S, S = fs_u (fs_u σ 10 r (σ 10 r + w)) 12 (tac t r) (fs_u σ 10 r (σ 10 r + w) 12 (tac t r) + w) := ⟨_, rfl⟩
    have s10 : S0 10 r = σ 10 r + w := by rw [eS0, fs_u_k _ _ (by decide), fs_u_eq]
    have s10' : ∀ x, x ≠ r → S0 10 x = σ 10 x := fun x hx => by rw [eS0, fs_u_k _ _ (by decide), fs_u_i _ hx]
    have s12 : S0 12 (tac t r) = σ 12 (tac t r) + w := by rw [eS0, fs_u_eq, fs_u_k _ _ (by decide)]
    have s12' : ∀ x, x ≠ tac t r → S0 12 x = σ 12 x := fun x hx => by rw [eS0, fs_u_i _ hx, fs_u_k _ _ (by decide)]
    have s11 : ∀ x, S0 11 x = σ 11 x := fun x => by rw [eS0, fs_u_k _ _ (by decide), fs_u_k _ _ (by decide)]
    have sF : ∀ k i, k ≠ 10 → k ≠ 11 → k ≠ 12 → S0 k i = σ k i := fun k i a b c => by rw [eS0, fs_u_k _ _ c, fs_u_k _ _ a]
    have fin0 : gN t r m = 0 → AC S0 t (fun g => Acc g + w * g m) ∧ frMeet σ S0 := fun h => fin S0 0 (Or.inl rfl) h sF s10 s10' s12 s12' (fun z => by omega) (fun x _ => s11 x)
    have fin1 : gN t r m = 1 → AC (fs_u S0 11 r 1) t (fun g => Acc g + w * g m) ∧ frMeet σ (fs_u S0 11 r 1) := fun h => fin _ 1 (Or.inr rfl) h (fun k i a b c => by rw [fs_u_k _ _ b]; exact sF k i a b c) (by rw [fs_u_k _ _ (by decide)]; exact s10) (fun x hx => by rw [fs_u_k _ _ (by decide)]; exact s10' x hx) (by rw [fs_u_k _ _ (by decide)]; exact s12) (fun x hx => by rw [fs_u_k _ _ (by decide)]; exact s12' x hx) (fun _ => fs_u_eq _ _ _ _) (fun x hx => by rw [fs_u_i _ (by omega)]; exact s11 x)
    rw [eS0] at fin0 fin1
    have e1 : ∀ v, fs_u σ 10 r v 4 r = tac t r := fun v => by rw [fs_u_ne _ (by omega)]; exact eac
    refine fr_iload_n 1 dX7_meet_0 rfl rfl ?_
    refine fr_if_ne 16 4 dX7_meet_1 rfl rfl (by omega) (fun h1 => ?_) (fun h1 => ?_)
    · refine fr_iload_n 17 dX7_meet_16 rfl rfl ?_
      refine fr_callSi 20 (M2 := mX7_lowest) [_] dX7_meet_17 rfl fs_mX7_158 fs_oX7_lowest fs_sX7_lowest rfl (fs_Γ_rm (d := 1) (by decide)) (Nat.le_of_ble_eq_true rfl) rfl ?_
      first
      | refine (cM_lowest hm).ci ?_
      | refine (cM_lowest hrs).ci ?_
      refine fr_istore_n 21 [_, _, _, _, _, _] dX7_meet_20 rfl (Nat.le_of_ble_eq_true rfl) rfl ?_
      refine fr_iload_n 22 dX7_meet_21 rfl rfl ?_
      refine fr_iconst 23 dX7_meet_22 rfl ?_
      refine fr_iload_n 24 dX7_meet_23 rfl rfl ?_
      refine fr_ishl 25 dX7_meet_24 rfl ?_
      refine fr_iconst 26 dX7_meet_25 rfl ?_
      refine fr_ixor 27 dX7_meet_26 rfl ?_
      refine fr_iand 28 dX7_meet_27 rfl ?_
      refine fr_top (fm_clear hm h0) ?_
      refine fr_istore 30 [_, _, _, _, _, _] dX7_meet_28 rfl (Nat.le_of_ble_eq_true rfl) rfl ?_
      refine fr_aload_n 31 dX7_meet_30 rfl rfl ?_
      refine fr_getr 34 5 dX7_meet_31 rfl fs_kX7_29 fs_l0 rfl ?_
      refine fr_iload_n 35 dX7_meet_34 rfl rfl ?_
      refine fr_iald 36 dX7_meet_35 rfl fs_l5 (by rw [ej]; omega) ?_
      refine fr_top (y := r) (by rw [hO _ (by omega) (by omega), hr]) ?_
      refine fr_istore 38 [_, _, _, _, _, _] dX7_meet_36 rfl (Nat.le_of_ble_eq_true rfl) rfl ?_
      refine fr_aload_n 39 dX7_meet_38 rfl rfl ?_
      refine fr_getr 42 10 dX7_meet_39 rfl fs_kX7_44 fs_l0 rfl ?_
      refine fr_iload 44 dX7_meet_42 rfl rfl ?_
      refine fr_dup2 45 dX7_meet_44 rfl ?_
      refine fr_iald 46 dX7_meet_45 rfl fs_l10 (by omega) ?_
      refine fr_iload_n 47 dX7_meet_46 rfl rfl ?_
      refine fr_iadd 48 dX7_meet_47 rfl ?_
      refine fr_iast 49 dX7_meet_48 rfl fs_l10 (by omega) ?_
      refine fr_aload_n 50 dX7_meet_49 rfl rfl ?_
      refine fr_getr 53 12 dX7_meet_50 rfl fs_kX7_51 fs_l0 rfl ?_
      refine fr_aload_n 54 dX7_meet_53 rfl rfl ?_
      refine fr_getr 57 4 dX7_meet_54 rfl fs_kX7_19 fs_l0 rfl ?_
      refine fr_iload 59 dX7_meet_57 rfl rfl ?_
      refine fr_iald 60 dX7_meet_59 rfl fs_l4 (by omega) ?_
      refine fr_top (e1 _) ?_
      refine fr_dup2 61 dX7_meet_60 rfl ?_
      refine fr_iald 62 dX7_meet_61 rfl fs_l12 (by omega) ?_
      refine fr_iload_n 63 dX7_meet_62 rfl rfl ?_
      refine fr_iadd 64 dX7_meet_63 rfl ?_
      refine fr_iast 65 dX7_meet_64 rfl fs_l12 (by omega) ?_
      refine fr_iload 67 dX7_meet_65 rfl rfl ?_
      refine fr_if_eq 95 70 dX7_meet_67 rfl rfl (by omega) (fun h67 => ?_) (fun h67 => ?_)
      · refine fr_aload_n 96 dX7_meet_95 rfl rfl ?_
        refine fr_getr 99 11 dX7_meet_96 rfl fs_kX7_47 fs_l0 rfl ?_
        refine fr_iload 101 dX7_meet_99 rfl rfl ?_
        refine fr_iconst 102 dX7_meet_101 rfl ?_
        refine fr_zast 103 dX7_meet_102 rfl fs_l11 (by omega) (by omega) ?_
        refine fr_vret dX7_meet_103 rfl ?_
        refine ⟨rfl, ?_⟩
        first
        | exact fin1 (if_pos ⟨h0, hr, Or.inl (by omega)⟩)
        | exact fin1 (if_pos ⟨h0, hr, Or.inr (by rw [ej2]; exact h92)⟩)
        | exact fin0 (if_neg (fun z => z.2.2.elim (fun z => by omega) (fun z => z (by rw [ej2]; exact h92))))
      · obtain ⟨j2, ej2, hj2, hjb2, -⟩ := lowb_spec hrs (by omega)
        have hjn2 : (j2 : Int) < tn t := hb j2 (by rw [rs_bit hm h0] at hjb2; simp only [Bool.and_eq_true] at hjb2; exact hjb2.1)
        have hod2 := tod_r (t := t) (p := (j2 : Int)) (by omega) hjn2
        have hac2 := (hw.2.2 _ hod2.1 hod2.2.1).2
        have eac2 := (hR.2.2 _ hod2.1 hod2.2.1).2
        refine fr_aload_n 71 dX7_meet_70 rfl rfl ?_
        refine fr_getr 74 4 dX7_meet_71 rfl fs_kX7_19 fs_l0 rfl ?_
        refine fr_aload_n 75 dX7_meet_74 rfl rfl ?_
        refine fr_getr 78 5 dX7_meet_75 rfl fs_kX7_29 fs_l0 rfl ?_
        refine fr_iload 80 dX7_meet_78 rfl rfl ?_
        refine fr_callSi 83 (M2 := mX7_lowest) [_] dX7_meet_80 rfl fs_mX7_158 fs_oX7_lowest fs_sX7_lowest rfl (fs_Γ_rm (d := 1) (by decide)) (Nat.le_of_ble_eq_true rfl) rfl ?_
        first
        | refine (cM_lowest hm).ci ?_
        | refine (cM_lowest hrs).ci ?_
        refine fr_iald 84 dX7_meet_83 rfl fs_l5 (by rw [ej2]; omega) ?_
        refine fr_top (y := tod t (j2 : Int)) (by rw [fs_u_k _ _ (by decide), fs_u_k _ _ (by decide), ej2]; exact hO _ (by omega) (by omega)) ?_
        refine fr_iald 85 dX7_meet_84 rfl fs_l4 (by omega) ?_
        refine fr_top (y := tac t (tod t (j2 : Int))) (by rw [fs_u_k _ _ (by decide), fs_u_k _ _ (by decide)]; exact eac2) ?_
        refine fr_aload_n 86 dX7_meet_85 rfl rfl ?_
        refine fr_getr 89 4 dX7_meet_86 rfl fs_kX7_19 fs_l0 rfl ?_
        refine fr_iload 91 dX7_meet_89 rfl rfl ?_
        refine fr_iald 92 dX7_meet_91 rfl fs_l4 (by omega) ?_
        refine fr_top (y := tac t r) (by rw [fs_u_k _ _ (by decide), fs_u_k _ _ (by decide)]; exact eac) ?_
        refine fr_icmp_eq 103 95 dX7_meet_92 rfl rfl (by omega) (by omega) (fun h92 => ?_) (fun h92 => ?_)
        · refine fr_vret dX7_meet_103 rfl ?_
          refine ⟨rfl, ?_⟩
          first
          | exact fin1 (if_pos ⟨h0, hr, Or.inl (by omega)⟩)
          | exact fin1 (if_pos ⟨h0, hr, Or.inr (by rw [ej2]; exact h92)⟩)
          | exact fin0 (if_neg (fun z => z.2.2.elim (fun z => by omega) (fun z => z (by rw [ej2]; exact h92))))
        · refine fr_aload_n 96 dX7_meet_95 rfl rfl ?_
          refine fr_getr 99 11 dX7_meet_96 rfl fs_kX7_47 fs_l0 rfl ?_
          refine fr_iload 101 dX7_meet_99 rfl rfl ?_
          refine fr_iconst 102 dX7_meet_101 rfl ?_
          refine fr_zast 103 dX7_meet_102 rfl fs_l11 (by omega) (by omega) ?_
          refine fr_vret dX7_meet_103 rfl ?_
          refine ⟨rfl, ?_⟩
          first
          | exact fin1 (if_pos ⟨h0, hr, Or.inl (by omega)⟩)
          | exact fin1 (if_pos ⟨h0, hr, Or.inr (by rw [ej2]; exact h92)⟩)
          | exact fin0 (if_neg (fun z => z.2.2.elim (fun z => by omega) (fun z => z (by rw [ej2]; exact h92))))
    · exact absurd h1 (by omega)
abbrev frS (σ τ : fs_S) : Prop := ∀ k i, ¬ (5 ≤ k ∧ k ≤ 12) → ¬ (k = 0 ∧ (i = 7 ∨ i = 8)) → τ k i = σ k i
def Q_sw (t : rt) (σ : fs_S) : fs_Q := fun x τ => x = none ∧ AC τ t (S4 t) ∧ OV τ t ∧ τ 0 7 = 1 ∧ τ 0 8 = 1 ∧ frS σ τ
def swT (t : rt) (ρ : fs_S) (a b c d : Int) (g : Nat → Int) : Int := ρ 8 (64 * 0 + a) * ρ 8 (64 * 1 + b) * ρ 8 (64 * 2 + c) * ρ 8 (64 * 3 + d) * g (tkm t 0 (ρ 7 (64 * 0 + a)) (ρ 7 (64 * 0 + a)) &&& tkm t 1 (ρ 7 (64 * 1 + b)) (ρ 7 (64 * 1 + b)) &&& tkm t 2 (ρ 7 (64 * 2 + c)) (ρ 7 (64 * 2 + c)) &&& tkm t 3 (ρ 7 (64 * 3 + d)) (ρ 7 (64 * 3 + d)))
def swA (t : rt) (ρ : fs_S) (i c d : Int) (g : Nat → Int) : Int := smI (fun i' => smI (fun c' => smI (fun d' => swT t ρ (i' / ρ 9 1) (i' % ρ 9 1) c' d' g) (ρ 9 3)) (ρ 9 2)) i + smI (fun c' => smI (fun d' => swT t ρ (i / ρ 9 1) (i % ρ 9 1) c' d' g) (ρ 9 3)) c + smI (fun d' => swT t ρ (i / ρ 9 1) (i % ρ 9 1) c d' g) d
theorem OV.eq {σ τ : fs_S} {t : rt} (h : OV σ t) (e : ∀ k i, k = 5 ∨ k = 6 → τ k i = σ k i) : OV τ t := ⟨fun p a b => by rw [e _ _ (by omega)]; exact h.1 p a b, fun f v a b c d => by rw [e _ _ (by omega)]; exact h.2 f v a b c d⟩
set_option maxRecDepth 100000 in
set_option maxHeartbeats 1500000 in
theorem cM_sweepL {σ ρ : fs_S} {t : rt} (hw : twf t) (hR : RM ρ t) (hO : OV ρ t) (h7 : ρ 0 7 = 1) (h8 : ρ 0 8 = 1) (hF0 : frS σ ρ) (hS : ∀ f, 0 ≤ f → f < 4 → SL t f (gr f + 1) (ρ 9 f) (fun j => ρ 7 (64 * f + j)) (fun j => ρ 8 (64 * f + j))) (hA0 : AC ρ t (fun _ => 0)) :
    ∀ (y2 y3 y4 y5 y6 y7 : Option fs_V), fs_W (fs_Γ 3 (Q_sw t σ)) mX7_sweep 72 [some (.inr 0), some (.inl 0), y2, y3, y4, y5, y6, y7] [] ρ := by
  have hn := hw.1
  obtain ⟨s0, es0⟩ : ∃ s, ρ 9 0 = s := ⟨_, rfl⟩
  obtain ⟨s1, es1⟩ : ∃ s, ρ 9 1 = s := ⟨_, rfl⟩
  obtain ⟨s2, es2⟩ : ∃ s, ρ 9 2 = s := ⟨_, rfl⟩
  obtain ⟨s3, es3⟩ : ∃ s, ρ 9 3 = s := ⟨_, rfl⟩
  have g0 : gr 0 + 1 = 64 := rfl
  have g1 : gr 1 + 1 = 64 := rfl
  have g2 : gr 2 + 1 = 64 := rfl
  have g3 : gr 3 + 1 = 4 := rfl
  have S0 := hS 0 (by omega) (by omega)
  have S1 := hS 1 (by omega) (by omega)
  have S2 := hS 2 (by omega) (by omega)
  have S3 := hS 3 (by omega) (by omega)
  rw [g0, es0] at S0
  rw [g1, es1] at S1
  rw [g2, es2] at S2
  rw [g3, es3] at S3
  have b0 := S0.1
  have b1 := S1.1
  have b2 := S2.1
  have b3 := S3.1
  have p0 := (S0.2.1 (by omega)).1
  have p1 := (S1.2.1 (by omega)).1
  have p2 := (S2.2.1 (by omega)).1
  have p3 := (S3.2.1 (by omega)).1
  have kD : ∀ (m : Nat) (i c d : Int) (τ : fs_S) (y7 : Option fs_V), 0 ≤ i → i < s0 * s1 → 0 ≤ c → c < s2 → 0 ≤ d → d ≤ s3 → s3 - d < m → frMeet ρ τ → AC τ t (swA t ρ i c d) →
      (∀ (τ' : fs_S) (y6' y7' : Option fs_V), frMeet ρ τ' → AC τ' t (swA t ρ i (c + 1) 0) → fs_W (fs_Γ 3 (Q_sw t σ)) mX7_sweep 261 [some (.inr 0), some (.inl i), some (.inl (i / s1)), some (.inl (64 + i % s1)), some (.inl ((tkm t 0 (ρ 7 (64 * 0 + i / s1)) (ρ 7 (64 * 0 + i / s1)) &&& tkm t 1 (ρ 7 (64 * 1 + i % s1)) (ρ 7 (64 * 1 + i % s1)) : Nat) : Int)), some (.inl c), y6', y7'] [] τ') →
      fs_W (fs_Γ 3 (Q_sw t σ)) mX7_sweep 155 [some (.inr 0), some (.inl i), some (.inl (i / s1)), some (.inl (64 + i % s1)), some (.inl ((tkm t 0 (ρ 7 (64 * 0 + i / s1)) (ρ 7 (64 * 0 + i / s1)) &&& tkm t 1 (ρ 7 (64 * 1 + i % s1)) (ρ 7 (64 * 1 + i % s1)) : Nat) : Int)), some (.inl c), some (.inl d), y7] [] τ := by
    intro m
    induction m with
    | zero => intro i c d τ y7 h0 h1 h2 h3 h4 h5 h6; omega
    | succ m ih =>
      intro i c d τ y7 h0 h1 h2 h3 h4 h5 h6 hF hA kk
      have a0 : 0 ≤ i / s1 := Int.ediv_nonneg h0 (by omega)
      have a1 : i / s1 < s0 := Int.ediv_lt_of_lt_mul (by omega) h1
      have q0 : 0 ≤ i % s1 := Int.emod_nonneg _ (by omega)
      have q1 : i % s1 < s1 := Int.emod_lt_of_pos _ (by omega)
      have f7 : ∀ x, τ 7 x = ρ 7 x := fun x => hF 7 x (by decide) (by decide) (by decide)
      have f8 : ∀ x, τ 8 x = ρ 8 x := fun x => hF 8 x (by decide) (by decide) (by decide)
      have f9 : ∀ x, τ 9 x = ρ 9 x := fun x => hF 9 x (by decide) (by decide) (by decide)
      have f6 : ∀ x, τ 6 x = ρ 6 x := fun x => hF 6 x (by decide) (by decide) (by decide)
      have e3 : τ 9 3 = s3 := (f9 3).trans es3
      have l0 := tkm_lt hw 0 (ρ 7 (64 * 0 + i / s1)) (ρ 7 (64 * 0 + i / s1))
      have l1 := tkm_lt hw 1 (ρ 7 (64 * 1 + i % s1)) (ρ 7 (64 * 1 + i % s1))
      have l2 := tkm_lt hw 2 (ρ 7 (64 * 2 + c)) (ρ 7 (64 * 2 + c))
      have l3 := tkm_lt hw 3 (ρ 7 (64 * 3 + d)) (ρ 7 (64 * 3 + d))
      have l01 : tkm t 0 (ρ 7 (64 * 0 + i / s1)) (ρ 7 (64 * 0 + i / s1)) &&& tkm t 1 (ρ 7 (64 * 1 + i % s1)) (ρ 7 (64 * 1 + i % s1)) < 65536 := Nat.lt_of_le_of_lt Nat.and_le_left l0
      have z0 := S0.2.2.1 (i / s1) a0 a1
      have z1 := S1.2.2.1 (i % s1) q0 q1
      have z2 := S2.2.2.1 c h2 h3
      dsimp only at z0 z1 z2
      have w0 : τ 8 (i / s1) = ρ 8 (64 * 0 + i / s1) := by rw [f8]; congr 1; omega
      have w1 : τ 8 (64 + i % s1) = ρ 8 (64 * 1 + i % s1) := f8 _
      have w2 : τ 8 (128 + c) = ρ 8 (64 * 2 + c) := f8 _
      have w3 : τ 8 (192 + d) = ρ 8 (64 * 3 + d) := f8 _
      have v2 : τ 7 (128 + c) = ρ 7 (64 * 2 + c) := f7 _
      have v3 : τ 7 (192 + d) = ρ 7 (64 * 3 + d) := f7 _
      have t2 := hO.2 2 (ρ 7 (64 * 2 + c)) (by omega) (by omega) z2.1.1 (by omega)
      rw [← f6] at t2
      refine fr_iload 157 dX7_sweep_155 rfl rfl ?_
      refine fr_aload_n 158 dX7_sweep_157 rfl rfl ?_
      refine fr_getr 161 9 dX7_sweep_158 rfl fs_kX7_41 fs_l0 rfl ?_
      refine fr_iconst 162 dX7_sweep_161 rfl ?_
      refine fr_iald 163 dX7_sweep_162 rfl fs_l9 (by omega) ?_
      refine fr_icmp_ge 261 166 dX7_sweep_163 rfl rfl (by omega) (by omega) (fun h163 => ?_) (fun h163 => ?_)
      · exact kk _ _ _ hF (hA.congr (fun g => by
          unfold swA
          rw [smI_s _ h2, smI_0, show d = ρ 9 3 by omega]
          omega))
      · have z3 := S3.2.2.1 d h4 (by omega)
        dsimp only at z3
        have t3 := hO.2 3 (ρ 7 (64 * 3 + d)) (by omega) (by omega) z3.1.1 (by omega)
        rw [← f6] at t3
        have hpos : 1 ≤ ρ 8 (64 * 0 + i / s1) * ρ 8 (64 * 1 + i % s1) * ρ 8 (64 * 2 + c) * ρ 8 (64 * 3 + d) := Int.mul_pos (Int.mul_pos (Int.mul_pos z0.2 z1.2) z2.2) z3.2
        refine fr_iload 168 dX7_sweep_166 rfl rfl ?_
        refine fr_aload_n 169 dX7_sweep_168 rfl rfl ?_
        refine fr_getr 172 6 dX7_sweep_169 rfl fs_kX7_32 fs_l0 rfl ?_
        refine fr_sipush 175 dX7_sweep_172 rfl (by decide) ?_
        refine fr_aload_n 176 dX7_sweep_175 rfl rfl ?_
        refine fr_getr 179 7 dX7_sweep_176 rfl fs_kX7_35 fs_l0 rfl ?_
        refine fr_sipush 182 dX7_sweep_179 rfl (by decide) ?_
        refine fr_iload 184 dX7_sweep_182 rfl rfl ?_
        refine fr_iadd 185 dX7_sweep_184 rfl ?_
        refine fr_iald 186 dX7_sweep_185 rfl fs_l7 (by omega) ?_
        refine fr_top v2 ?_
        refine fr_iadd 187 dX7_sweep_186 rfl ?_
        refine fr_iald 188 dX7_sweep_187 rfl fs_l6 (by omega) ?_
        refine fr_top (y := ((tkm t 2 (ρ 7 (64 * 2 + c)) (ρ 7 (64 * 2 + c)) : Nat) : Int)) t2 ?_
        refine fr_iand 189 dX7_sweep_188 rfl ?_
        refine fr_top (fm_and (by omega) (by omega)) ?_
        refine fr_aload_n 190 dX7_sweep_189 rfl rfl ?_
        refine fr_getr 193 6 dX7_sweep_190 rfl fs_kX7_32 fs_l0 rfl ?_
        refine fr_sipush 196 dX7_sweep_193 rfl (by decide) ?_
        refine fr_aload_n 197 dX7_sweep_196 rfl rfl ?_
        refine fr_getr 200 7 dX7_sweep_197 rfl fs_kX7_35 fs_l0 rfl ?_
        refine fr_sipush 203 dX7_sweep_200 rfl (by decide) ?_
        refine fr_iload 205 dX7_sweep_203 rfl rfl ?_
        refine fr_iadd 206 dX7_sweep_205 rfl ?_
        refine fr_iald 207 dX7_sweep_206 rfl fs_l7 (by omega) ?_
        refine fr_top v3 ?_
        refine fr_iadd 208 dX7_sweep_207 rfl ?_
        refine fr_iald 209 dX7_sweep_208 rfl fs_l6 (by omega) ?_
        refine fr_top (y := ((tkm t 3 (ρ 7 (64 * 3 + d)) (ρ 7 (64 * 3 + d)) : Nat) : Int)) t3 ?_
        refine fr_iand 210 dX7_sweep_209 rfl ?_
        refine fr_top (fm_and (Nat.lt_of_le_of_lt Nat.and_le_left (by omega)) (by omega)) ?_
        refine fr_istore 212 [_, _, _, _, _, _, _, _] dX7_sweep_210 rfl (Nat.le_of_ble_eq_true rfl) rfl ?_
        refine fr_aload_n 213 dX7_sweep_212 rfl rfl ?_
        refine fr_iload 215 dX7_sweep_213 rfl rfl ?_
        refine fr_aload_n 216 dX7_sweep_215 rfl rfl ?_
        refine fr_getr 219 8 dX7_sweep_216 rfl fs_kX7_38 fs_l0 rfl ?_
        refine fr_iload_n 220 dX7_sweep_219 rfl rfl ?_
        refine fr_iald 221 dX7_sweep_220 rfl fs_l8 (by omega) ?_
        refine fr_top w0 ?_
        refine fr_aload_n 222 dX7_sweep_221 rfl rfl ?_
        refine fr_getr 225 8 dX7_sweep_222 rfl fs_kX7_38 fs_l0 rfl ?_
        refine fr_iload_n 226 dX7_sweep_225 rfl rfl ?_
        refine fr_iald 227 dX7_sweep_226 rfl fs_l8 (by omega) ?_
        refine fr_top w1 ?_
        refine fr_imul 228 dX7_sweep_227 rfl ?_
        refine fr_aload_n 229 dX7_sweep_228 rfl rfl ?_
        refine fr_getr 232 8 dX7_sweep_229 rfl fs_kX7_38 fs_l0 rfl ?_
        refine fr_sipush 235 dX7_sweep_232 rfl (by decide) ?_
        refine fr_iload 237 dX7_sweep_235 rfl rfl ?_
        refine fr_iadd 238 dX7_sweep_237 rfl ?_
        refine fr_iald 239 dX7_sweep_238 rfl fs_l8 (by omega) ?_
        refine fr_top w2 ?_
        refine fr_imul 240 dX7_sweep_239 rfl ?_
        refine fr_aload_n 241 dX7_sweep_240 rfl rfl ?_
        refine fr_getr 244 8 dX7_sweep_241 rfl fs_kX7_38 fs_l0 rfl ?_
        refine fr_sipush 247 dX7_sweep_244 rfl (by decide) ?_
        refine fr_iload 249 dX7_sweep_247 rfl rfl ?_
        refine fr_iadd 250 dX7_sweep_249 rfl ?_
        refine fr_iald 251 dX7_sweep_250 rfl fs_l8 (by omega) ?_
        refine fr_top w3 ?_
        refine fr_imul 252 dX7_sweep_251 rfl ?_
        refine fr_callVv 255 (M2 := mX7_meet) [_, _] dX7_sweep_252 rfl fs_mX7_164 fs_oX7_meet fs_iX7_meet fs_l0 rfl rfl (fs_Γ_rm (d := 2) (by decide)) (Nat.le_of_ble_eq_true rfl) rfl ?_
        refine (cM_meet hw (hR.eq hw (hF _ _ (by decide) (by decide) (by decide)) (fun k i a b _ _ => hF k i (by omega) (by omega) (by omega))) (fun p a b => by rw [hF _ _ (by decide) (by decide) (by decide)]; exact hO.1 p a b) (Nat.lt_of_le_of_lt Nat.and_le_left (Nat.lt_of_le_of_lt Nat.and_le_left l01)) (fun x hx => ?_) hpos hA).mono ?_
        · rw [Nat.testBit_and, Nat.testBit_and, Nat.testBit_and] at hx
          simp only [Bool.and_eq_true] at hx
          exact (tkm_bit t 0 _ _ x hx.1.1.1).1
        rintro _ τ' ⟨rfl, hA', hF'⟩
        refine ⟨rfl, ?_⟩
        refine fr_iinc 258 [_, _, _, _, _, _, _, _] dX7_sweep_255 rfl rfl rfl ?_
        refine fr_goto 155 dX7_sweep_258 rfl ?_
        refine ih i c (d + 1) _ _ h0 h1 h2 h3 (by omega) (by omega) (by omega) (fun k x a b c' => (hF' k x a b c').trans (hF k x a b c')) (hA'.congr (fun g => ?_)) kk
        unfold swA
        rw [smI_s _ h4]
        unfold swT
        rw [es1]
        omega
  have kC : ∀ (m : Nat) (i c : Int) (τ : fs_S) (y6 y7 : Option fs_V), 0 ≤ i → i < s0 * s1 → 0 ≤ c → c ≤ s2 → s2 - c < m → frMeet ρ τ → AC τ t (swA t ρ i c 0) →
      (∀ (τ' : fs_S) (y2' y3' y4' y5' y6' y7' : Option fs_V), frMeet ρ τ' → AC τ' t (swA t ρ (i + 1) 0 0) → fs_W (fs_Γ 3 (Q_sw t σ)) mX7_sweep 267 [some (.inr 0), some (.inl i), y2', y3', y4', y5', y6', y7'] [] τ') →
      fs_W (fs_Γ 3 (Q_sw t σ)) mX7_sweep 141 [some (.inr 0), some (.inl i), some (.inl (i / s1)), some (.inl (64 + i % s1)), some (.inl ((tkm t 0 (ρ 7 (64 * 0 + i / s1)) (ρ 7 (64 * 0 + i / s1)) &&& tkm t 1 (ρ 7 (64 * 1 + i % s1)) (ρ 7 (64 * 1 + i % s1)) : Nat) : Int)), some (.inl c), y6, y7] [] τ := by
    intro m
    induction m with
    | zero => intro i c τ y6 y7 h0 h1 h2 h3 h4; omega
    | succ m ih =>
      intro i c τ y6 y7 h0 h1 h2 h3 h4 hF hA kk
      have e2 : τ 9 2 = s2 := (hF 9 2 (by decide) (by decide) (by decide)).trans es2
      refine fr_iload 143 dX7_sweep_141 rfl rfl ?_
      refine fr_aload_n 144 dX7_sweep_143 rfl rfl ?_
      refine fr_getr 147 9 dX7_sweep_144 rfl fs_kX7_41 fs_l0 rfl ?_
      refine fr_iconst 148 dX7_sweep_147 rfl ?_
      refine fr_iald 149 dX7_sweep_148 rfl fs_l9 (by omega) ?_
      refine fr_icmp_ge 267 152 dX7_sweep_149 rfl rfl (by omega) (by omega) (fun h149 => ?_) (fun h149 => ?_)
      · exact kk _ _ _ _ _ _ _ hF (hA.congr (fun g => by
          unfold swA
          rw [smI_s _ h0, smI_0, smI_0, smI_0, show c = ρ 9 2 by omega]
          omega))
      · refine fr_iconst 153 dX7_sweep_152 rfl ?_
        refine fr_istore 155 [_, _, _, _, _, _, _, _] dX7_sweep_153 rfl (Nat.le_of_ble_eq_true rfl) rfl ?_
        refine kD (s3.toNat + 1) i c 0 _ _ h0 h1 h2 (by omega) (by omega) (by omega) (by omega) hF hA (fun τ' y6' y7' hF' hA' => ?_)
        refine fr_iinc 264 [_, _, _, _, _, _, _, _] dX7_sweep_261 rfl rfl rfl ?_
        refine fr_goto 141 dX7_sweep_264 rfl ?_
        exact ih i (c + 1) _ _ _ h0 h1 (by omega) (by omega) (by omega) hF' hA' kk
  have kI : ∀ (m : Nat) (i : Int) (τ : fs_S) (y2 y3 y4 y5 y6 y7 : Option fs_V), 0 ≤ i → i ≤ s0 * s1 → s0 * s1 - i < m → frMeet ρ τ → AC τ t (swA t ρ i 0 0) →
      fs_W (fs_Γ 3 (Q_sw t σ)) mX7_sweep 72 [some (.inr 0), some (.inl i), y2, y3, y4, y5, y6, y7] [] τ := by
    intro m
    induction m with
    | zero => intro i τ y2 y3 y4 y5 y6 y7 h0 h1 h2; omega
    | succ m ih =>
      intro i τ y2 y3 y4 y5 y6 y7 h0 h1 h2 hF hA
      have e0 : τ 9 0 = s0 := (hF 9 0 (by decide) (by decide) (by decide)).trans es0
      have e1 : τ 9 1 = s1 := (hF 9 1 (by decide) (by decide) (by decide)).trans es1
      have hb : s0 * s1 ≤ 64 * 64 := Int.mul_le_mul b0.2 b1.2 (by omega) (by omega)
      refine fr_iload_n 73 dX7_sweep_72 rfl rfl ?_
      refine fr_aload_n 74 dX7_sweep_73 rfl rfl ?_
      refine fr_getr 77 9 dX7_sweep_74 rfl fs_kX7_41 fs_l0 rfl ?_
      refine fr_iconst 78 dX7_sweep_77 rfl ?_
      refine fr_iald 79 dX7_sweep_78 rfl fs_l9 (by omega) ?_
      refine fr_top e0 ?_
      refine fr_aload_n 80 dX7_sweep_79 rfl rfl ?_
      refine fr_getr 83 9 dX7_sweep_80 rfl fs_kX7_41 fs_l0 rfl ?_
      refine fr_iconst 84 dX7_sweep_83 rfl ?_
      refine fr_iald 85 dX7_sweep_84 rfl fs_l9 (by omega) ?_
      refine fr_top e1 ?_
      refine fr_imul 86 dX7_sweep_85 rfl ?_
      refine fr_icmp_ge 273 89 dX7_sweep_86 rfl rfl (by omega) (by omega) (fun h86 => ?_) (fun h86 => ?_)
      · refine fr_vret dX7_sweep_273 rfl ?_
        refine ⟨rfl, hA.congr (fun g => ?_), hO.eq (fun k x h => hF k x (by omega) (by omega) (by omega)), (hF _ _ (by decide) (by decide) (by decide)).trans h7, (hF _ _ (by decide) (by decide) (by decide)).trans h8, fun k x a b => (hF k x (by omega) (by omega) (by omega)).trans (hF0 k x a b)⟩
        unfold swA
        rw [smI_0, smI_0, show i = s0 * ρ 9 1 by rw [es1]; omega, smI_rect (fun a b => smI (fun c' => smI (fun d' => swT t ρ a b c' d' g) (ρ 9 3)) (ρ 9 2)) (by omega) (by omega), ← es0]
        have := SL.sum hS g
        unfold swT
        rw [this]
        omega
      · have a0 : 0 ≤ i / s1 := Int.ediv_nonneg h0 (by omega)
        have a1 : i / s1 < s0 := Int.ediv_lt_of_lt_mul (by omega) h86
        have q0 : 0 ≤ i % s1 := Int.emod_nonneg _ (by omega)
        have q1 : i % s1 < s1 := Int.emod_lt_of_pos _ (by omega)
        have f7 : ∀ x, τ 7 x = ρ 7 x := fun x => hF 7 x (by decide) (by decide) (by decide)
        have f6 : ∀ x, τ 6 x = ρ 6 x := fun x => hF 6 x (by decide) (by decide) (by decide)
        have z0 := S0.2.2.1 (i / s1) a0 a1
        have z1 := S1.2.2.1 (i % s1) q0 q1
        dsimp only at z0 z1
        have v0 : τ 7 (i / s1) = ρ 7 (64 * 0 + i / s1) := by rw [f7]; congr 1; omega
        have v1 : τ 7 (64 + i % s1) = ρ 7 (64 * 1 + i % s1) := f7 _
        have t0 := hO.2 0 (ρ 7 (64 * 0 + i / s1)) (by omega) (by omega) z0.1.1 (by omega)
        have t1 := hO.2 1 (ρ 7 (64 * 1 + i % s1)) (by omega) (by omega) z1.1.1 (by omega)
        rw [← f6] at t0 t1
        have t0' : τ 6 (ρ 7 (64 * 0 + i / s1)) = ((tkm t 0 (ρ 7 (64 * 0 + i / s1)) (ρ 7 (64 * 0 + i / s1)) : Nat) : Int) := by rw [← t0]; congr 1; omega
        have l0 := tkm_lt hw 0 (ρ 7 (64 * 0 + i / s1)) (ρ 7 (64 * 0 + i / s1))
        have l1 := tkm_lt hw 1 (ρ 7 (64 * 1 + i % s1)) (ρ 7 (64 * 1 + i % s1))
        refine fr_iload_n 90 dX7_sweep_89 rfl rfl ?_
        refine fr_aload_n 91 dX7_sweep_90 rfl rfl ?_
        refine fr_getr 94 9 dX7_sweep_91 rfl fs_kX7_41 fs_l0 rfl ?_
        refine fr_iconst 95 dX7_sweep_94 rfl ?_
        refine fr_iald 96 dX7_sweep_95 rfl fs_l9 (by omega) ?_
        refine fr_top e1 ?_
        refine fr_idiv 97 dX7_sweep_96 rfl (by omega) (by omega) ?_
        refine fr_istore_n 98 [_, _, _, _, _, _, _, _] dX7_sweep_97 rfl (Nat.le_of_ble_eq_true rfl) rfl ?_
        refine fr_bipush 100 dX7_sweep_98 rfl (by decide) ?_
        refine fr_iload_n 101 dX7_sweep_100 rfl rfl ?_
        refine fr_aload_n 102 dX7_sweep_101 rfl rfl ?_
        refine fr_getr 105 9 dX7_sweep_102 rfl fs_kX7_41 fs_l0 rfl ?_
        refine fr_iconst 106 dX7_sweep_105 rfl ?_
        refine fr_iald 107 dX7_sweep_106 rfl fs_l9 (by omega) ?_
        refine fr_top e1 ?_
        refine fr_irem 108 dX7_sweep_107 rfl (by omega) (by omega) ?_
        refine fr_iadd 109 dX7_sweep_108 rfl ?_
        refine fr_istore_n 110 [_, _, _, _, _, _, _, _] dX7_sweep_109 rfl (Nat.le_of_ble_eq_true rfl) rfl ?_
        refine fr_aload_n 111 dX7_sweep_110 rfl rfl ?_
        refine fr_getr 114 6 dX7_sweep_111 rfl fs_kX7_32 fs_l0 rfl ?_
        refine fr_aload_n 115 dX7_sweep_114 rfl rfl ?_
        refine fr_getr 118 7 dX7_sweep_115 rfl fs_kX7_35 fs_l0 rfl ?_
        refine fr_iload_n 119 dX7_sweep_118 rfl rfl ?_
        refine fr_iald 120 dX7_sweep_119 rfl fs_l7 (by omega) ?_
        refine fr_top v0 ?_
        refine fr_iald 121 dX7_sweep_120 rfl fs_l6 (by omega) ?_
        refine fr_top t0' ?_
        refine fr_aload_n 122 dX7_sweep_121 rfl rfl ?_
        refine fr_getr 125 6 dX7_sweep_122 rfl fs_kX7_32 fs_l0 rfl ?_
        refine fr_bipush 127 dX7_sweep_125 rfl (by decide) ?_
        refine fr_aload_n 128 dX7_sweep_127 rfl rfl ?_
        refine fr_getr 131 7 dX7_sweep_128 rfl fs_kX7_35 fs_l0 rfl ?_
        refine fr_iload_n 132 dX7_sweep_131 rfl rfl ?_
        refine fr_iald 133 dX7_sweep_132 rfl fs_l7 (by omega) ?_
        refine fr_top v1 ?_
        refine fr_iadd 134 dX7_sweep_133 rfl ?_
        refine fr_iald 135 dX7_sweep_134 rfl fs_l6 (by omega) ?_
        refine fr_top (y := ((tkm t 1 (ρ 7 (64 * 1 + i % s1)) (ρ 7 (64 * 1 + i % s1)) : Nat) : Int)) t1 ?_
        refine fr_iand 136 dX7_sweep_135 rfl ?_
        refine fr_top (fm_and (by omega) (by omega)) ?_
        refine fr_istore 138 [_, _, _, _, _, _, _, _] dX7_sweep_136 rfl (Nat.le_of_ble_eq_true rfl) rfl ?_
        refine fr_iconst 139 dX7_sweep_138 rfl ?_
        refine fr_istore 141 [_, _, _, _, _, _, _, _] dX7_sweep_139 rfl (Nat.le_of_ble_eq_true rfl) rfl ?_
        refine kC (s2.toNat + 1) i 0 _ _ _ h0 h86 (by omega) (by omega) (by omega) hF hA (fun τ' y2' y3' y4' y5' y6' y7' hF' hA' => ?_)
        refine fr_iinc 270 [_, _, _, _, _, _, _, _] dX7_sweep_267 rfl rfl rfl ?_
        refine fr_goto 72 dX7_sweep_270 rfl ?_
        exact ih (i + 1) _ _ _ _ _ _ _ (by omega) (by omega) (by omega) hF' hA'
  intro y2 y3 y4 y5 y6 y7
  have hb : 0 ≤ s0 * s1 := Int.mul_nonneg b0.1 b1.1
  refine kI ((s0 * s1).toNat + 1) 0 ρ y2 y3 y4 y5 y6 y7 (by omega) (by omega) (by omega) (fun _ _ _ _ _ => rfl) (hA0.congr (fun g => ?_))
  unfold swA
  rw [smI_0, smI_0, smI_0]
  rfl
