/-! ===== the model: growing the tree ===== -/
abbrev frB (σ τ : fs_S) (ln : Int) : Prop := ∀ k j, ¬ ((k = 20 ∨ k = 21) ∧ j = ln) → ¬ ((k = 18 ∨ k = 19) ∧ 4 * ln ≤ j ∧ j < 4 * ln + 4) → ¬ (k = 0 ∧ j = 25) → τ k j = σ k j
set_option maxRecDepth 100000 in
set_option maxHeartbeats 3000000 in
theorem cM_addBelow {σ : fs_S} {t : rt} {N : nd} {i f ln : Int} {h : Nat} (hw : twf t) (hR : RM σ t) (hO : ∀ p, 0 ≤ p → p < tn t → σ 5 p = tod t p) (hN : NM σ i N) (hg : gdN N) (hi : 0 ≤ i ∧ i < ln) (hln : ln < 511) (hnd : σ 0 25 = ln) (hf : 0 ≤ f ∧ f < 4) (hh : h = 0 ∨ h = 1) (hp : N.2.1 f < 2 ^ wN f) : fs_C mX7_addBelow 2 [.inr 0, .inl i, .inl f, .inl (h : Int)] σ (fun x τ => x = none ∧ NM τ ln (kid t N f h) ∧ τ 0 25 = ln + 1 ∧ frB σ τ ln) := by
  refine fs_C.intro [some (.inr 0), some (.inl i), some (.inl f), some (.inl (h : Int)), none, none, none] fs_oX7_addBelow (Nat.le_of_ble_eq_true rfl) rfl ?_
  have key : ∀ (m : Nat) (g : Int) (τ : fs_S) (y5 y6 : Option fs_V), 0 ≤ g → g ≤ 4 → 4 - g < m → τ 0 25 = ln → τ 20 ln = ((hlf t N f h : Nat) : Int) → τ 21 ln = N.2.2 + 1 → (∀ k j, ¬ ((k = 20 ∨ k = 21) ∧ j = ln) → ¬ ((k = 18 ∨ k = 19) ∧ 4 * ln ≤ j ∧ j < 4 * ln + 4) → τ k j = σ k j) → (∀ g', 0 ≤ g' → g' < g → τ 18 (4 * ln + g') = ((ploN (wN g') ((kid t N f h).2.1 g') : Nat) : Int) ∧ τ 19 (4 * ln + g') = ((phiN (wN g') ((kid t N f h).2.1 g') : Nat) : Int)) →
      fs_W (fs_Γ 2 (fun x τ => x = none ∧ NM τ ln (kid t N f h) ∧ τ 0 25 = ln + 1 ∧ frB σ τ ln)) mX7_addBelow 36 [some (.inr 0), some (.inl i), some (.inl f), some (.inl (h : Int)), some (.inl g), y5, y6] [] τ := by
    intro m
    induction m with
    | zero => intro g τ y5 y6 h0 h1 h2; omega
    | succ m ih =>
      intro g τ y5 y6 h0 h1 h2 e25 e20 e21 hF hA
      have step : ∀ (lo hi' : Int) (y5 y6 : Option fs_V), g < 4 → lo = ((ploN (wN g) ((kid t N f h).2.1 g) : Nat) : Int) → hi' = ((phiN (wN g) ((kid t N f h).2.1 g) : Nat) : Int) → fs_W (fs_Γ 2 (fun x τ => x = none ∧ NM τ ln (kid t N f h) ∧ τ 0 25 = ln + 1 ∧ frB σ τ ln)) mX7_addBelow 36 [some (.inr 0), some (.inl i), some (.inl f), some (.inl (h : Int)), some (.inl (g + 1)), y5, y6] [] (fs_u (fs_u τ 18 (4 * ln + g) lo) 19 (4 * ln + g) hi') := by
        intro lo hi' y5 y6 hg4 elo ehi
        refine ih (g + 1) _ y5 y6 (by omega) (by omega) (by omega) ?_ ?_ ?_ (fun k j b1 b2 => ?_) (fun g' b1 b2 => ?_)
        · rw [fs_u_k _ _ (by decide), fs_u_k _ _ (by decide)]; exact e25
        · rw [fs_u_k _ _ (by decide), fs_u_k _ _ (by decide)]; exact e20
        · rw [fs_u_k _ _ (by decide), fs_u_k _ _ (by decide)]; exact e21
        · rw [fs_u_ne _ (by omega), fs_u_ne _ (by omega)]; exact hF k j b1 b2
        · by_cases eg : g' = g
          · subst eg
            exact ⟨by rw [fs_u_k _ _ (by decide), fs_u_eq]; exact elo, by rw [fs_u_eq]; exact ehi⟩
          · rw [fs_u_k _ _ (by decide), fs_u_i _ (by omega), fs_u_i _ (by omega), fs_u_k _ _ (by decide)]; exact hA g' b1 (by omega)
      clear ih
      have q := fun (z : g < 4) => hN.2.2 g h0 z
      have q18 : τ 18 (4 * i + g) = σ 18 (4 * i + g) ∨ ¬ g < 4 := by
        by_cases z : g < 4
        · exact Or.inl (hF _ _ (by omega) (by omega))
        · exact Or.inr z
      have q19 : τ 19 (4 * i + g) = σ 19 (4 * i + g) ∨ ¬ g < 4 := by
        by_cases z : g < 4
        · exact Or.inl (hF _ _ (by omega) (by omega))
        · exact Or.inr z
      have kp : (kid t N f h).2.1 g = if g = f then 2 * N.2.1 f + h else N.2.1 g := rfl
      by_cases hg4 : g < 4
      · have qq := q hg4
        have r18 : τ 18 (4 * i + g) = ((ploN (wN g) (N.2.1 g) : Nat) : Int) := by rcases q18 with z | z; (· rw [z]; exact qq.1); (· exact absurd hg4 z)
        have r19 : τ 19 (4 * i + g) = ((phiN (wN g) (N.2.1 g) : Nat) : Int) := by rcases q19 with z | z; (· rw [z]; exact qq.2); (· exact absurd hg4 z)
        have gk := hg.2.1 g h0 hg4
        have ca := part_all (wN g) (wN_r _) (N.2.1 g) gk.1 gk.2
        have c7 : 2 ^ wN g ≤ 64 := by rcases wN_r g with e | e <;> rw [e] <;> decide
        by_cases efg : g = f
        · subst efg
          rw [if_pos rfl] at kp
          rw [kp] at step
          obtain ⟨⟨c1, c2⟩, ⟨c3, c4⟩, c5⟩ := part_cut (wN g) (wN_r g) (N.2.1 g) gk.1 hp
          obtain ⟨lo, elo⟩ : ∃ lo, ploN (wN g) (N.2.1 g) = lo := ⟨_, rfl⟩
          obtain ⟨hi', ehi⟩ : ∃ hi, phiN (wN g) (N.2.1 g) = hi := ⟨_, rfl⟩
          rw [elo] at c1 r18
          rw [ehi] at c4 r19
          rw [elo, ehi] at c2 c3 c5 ca
          have e25' : ∀ v, fs_u τ 18 (4 * ln + g) v 0 25 = ln := fun v => by rw [fs_u_k _ _ (by decide)]; exact e25
          rcases hh with rfl | rfl
          · rw [show 2 * N.2.1 g + 0 = 2 * N.2.1 g by omega, c1, c2] at step
            refine fr_iload 38 dX7_addBelow_36 rfl rfl ?_
            refine fr_iconst 39 dX7_addBelow_38 rfl ?_
            refine fr_icmp_ge 149 42 dX7_addBelow_39 rfl rfl (by omega) (by omega) (fun h39 => ?_) (fun h39 => ?_)
            · exact absurd h39 (by omega)
            · refine fr_aload_n 43 dX7_addBelow_42 rfl rfl ?_
              refine fr_getr 46 18 dX7_addBelow_43 rfl fs_kX7_69 fs_l0 rfl ?_
              refine fr_iconst 47 dX7_addBelow_46 rfl ?_
              refine fr_iload_n 48 dX7_addBelow_47 rfl rfl ?_
              refine fr_imul 49 dX7_addBelow_48 rfl ?_
              refine fr_iload 51 dX7_addBelow_49 rfl rfl ?_
              refine fr_iadd 52 dX7_addBelow_51 rfl ?_
              refine fr_iald 53 dX7_addBelow_52 rfl fs_l18 (by omega) ?_
              refine fr_top r18 ?_
              refine fr_istore 55 [_, _, _, _, _, _, _] dX7_addBelow_53 rfl (Nat.le_of_ble_eq_true rfl) rfl ?_
              refine fr_aload_n 56 dX7_addBelow_55 rfl rfl ?_
              refine fr_getr 59 19 dX7_addBelow_56 rfl fs_kX7_72 fs_l0 rfl ?_
              refine fr_iconst 60 dX7_addBelow_59 rfl ?_
              refine fr_iload_n 61 dX7_addBelow_60 rfl rfl ?_
              refine fr_imul 62 dX7_addBelow_61 rfl ?_
              refine fr_iload 64 dX7_addBelow_62 rfl rfl ?_
              refine fr_iadd 65 dX7_addBelow_64 rfl ?_
              refine fr_iald 66 dX7_addBelow_65 rfl fs_l19 (by omega) ?_
              refine fr_top r19 ?_
              refine fr_istore 68 [_, _, _, _, _, _, _] dX7_addBelow_66 rfl (Nat.le_of_ble_eq_true rfl) rfl ?_
              refine fr_aload_n 69 dX7_addBelow_68 rfl rfl ?_
              refine fr_getr 72 18 dX7_addBelow_69 rfl fs_kX7_69 fs_l0 rfl ?_
              refine fr_iconst 73 dX7_addBelow_72 rfl ?_
              refine fr_aload_n 74 dX7_addBelow_73 rfl rfl ?_
              refine fr_geti 77 25 dX7_addBelow_74 rfl fs_kX7_221 rfl fs_l0 rfl ?_
              refine fr_top e25 ?_
              refine fr_imul 78 dX7_addBelow_77 rfl ?_
              refine fr_iload 80 dX7_addBelow_78 rfl rfl ?_
              refine fr_iadd 81 dX7_addBelow_80 rfl ?_
              refine fr_iload 83 dX7_addBelow_81 rfl rfl ?_
              refine fr_iload_n 84 dX7_addBelow_83 rfl rfl ?_
              refine fr_icmp_ne 104 87 dX7_addBelow_84 rfl rfl (by omega) (by omega) (fun h84 => ?_) (fun h84 => ?_)
              · exact absurd rfl h84
              · refine fr_iload_n 88 dX7_addBelow_87 rfl rfl ?_
                refine fr_iconst 89 dX7_addBelow_88 rfl ?_
                refine fr_icmp_ne 104 92 dX7_addBelow_89 rfl rfl (by omega) (by omega) (fun h89 => ?_) (fun h89 => ?_)
                · refine fr_iload 106 dX7_addBelow_104 rfl rfl ?_
                  refine fr_iast 107 dX7_addBelow_106 rfl fs_l18 (by omega) ?_
                  refine fr_aload_n 108 dX7_addBelow_107 rfl rfl ?_
                  refine fr_getr 111 19 dX7_addBelow_108 rfl fs_kX7_72 fs_l0 rfl ?_
                  refine fr_iconst 112 dX7_addBelow_111 rfl ?_
                  refine fr_aload_n 113 dX7_addBelow_112 rfl rfl ?_
                  refine fr_geti 116 25 dX7_addBelow_113 rfl fs_kX7_221 rfl fs_l0 rfl ?_
                  refine fr_top (e25' _) ?_
                  refine fr_imul 117 dX7_addBelow_116 rfl ?_
                  refine fr_iload 119 dX7_addBelow_117 rfl rfl ?_
                  refine fr_iadd 120 dX7_addBelow_119 rfl ?_
                  refine fr_iload 122 dX7_addBelow_120 rfl rfl ?_
                  refine fr_iload_n 123 dX7_addBelow_122 rfl rfl ?_
                  refine fr_icmp_ne 140 126 dX7_addBelow_123 rfl rfl (by omega) (by omega) (fun h123 => ?_) (fun h123 => ?_)
                  · exact absurd rfl h123
                  · refine fr_iload_n 127 dX7_addBelow_126 rfl rfl ?_
                    refine fr_if_ne 140 130 dX7_addBelow_127 rfl rfl (by omega) (fun h127 => ?_) (fun h127 => ?_)
                    · exact absurd rfl h127
                    · refine fr_iload 132 dX7_addBelow_130 rfl rfl ?_
                      refine fr_iload 134 dX7_addBelow_132 rfl rfl ?_
                      refine fr_iadd 135 dX7_addBelow_134 rfl ?_
                      refine fr_iconst 136 dX7_addBelow_135 rfl ?_
                      refine fr_idiv 137 dX7_addBelow_136 rfl (by omega) (by omega) ?_
                      refine fr_goto 142 dX7_addBelow_137 rfl ?_
                      refine fr_iast 143 dX7_addBelow_142 rfl fs_l19 (by omega) ?_
                      refine fr_iinc 146 [_, _, _, _, _, _, _] dX7_addBelow_143 rfl rfl rfl ?_
                      refine fr_goto 36 dX7_addBelow_146 rfl ?_
                      exact step _ _ _ _ hg4 rfl (by omega)
                · exact absurd h89 (by decide)
          · rw [c3, c4] at step
            refine fr_iload 38 dX7_addBelow_36 rfl rfl ?_
            refine fr_iconst 39 dX7_addBelow_38 rfl ?_
            refine fr_icmp_ge 149 42 dX7_addBelow_39 rfl rfl (by omega) (by omega) (fun h39 => ?_) (fun h39 => ?_)
            · exact absurd h39 (by omega)
            · refine fr_aload_n 43 dX7_addBelow_42 rfl rfl ?_
              refine fr_getr 46 18 dX7_addBelow_43 rfl fs_kX7_69 fs_l0 rfl ?_
              refine fr_iconst 47 dX7_addBelow_46 rfl ?_
              refine fr_iload_n 48 dX7_addBelow_47 rfl rfl ?_
              refine fr_imul 49 dX7_addBelow_48 rfl ?_
              refine fr_iload 51 dX7_addBelow_49 rfl rfl ?_
              refine fr_iadd 52 dX7_addBelow_51 rfl ?_
              refine fr_iald 53 dX7_addBelow_52 rfl fs_l18 (by omega) ?_
              refine fr_top r18 ?_
              refine fr_istore 55 [_, _, _, _, _, _, _] dX7_addBelow_53 rfl (Nat.le_of_ble_eq_true rfl) rfl ?_
              refine fr_aload_n 56 dX7_addBelow_55 rfl rfl ?_
              refine fr_getr 59 19 dX7_addBelow_56 rfl fs_kX7_72 fs_l0 rfl ?_
              refine fr_iconst 60 dX7_addBelow_59 rfl ?_
              refine fr_iload_n 61 dX7_addBelow_60 rfl rfl ?_
              refine fr_imul 62 dX7_addBelow_61 rfl ?_
              refine fr_iload 64 dX7_addBelow_62 rfl rfl ?_
              refine fr_iadd 65 dX7_addBelow_64 rfl ?_
              refine fr_iald 66 dX7_addBelow_65 rfl fs_l19 (by omega) ?_
              refine fr_top r19 ?_
              refine fr_istore 68 [_, _, _, _, _, _, _] dX7_addBelow_66 rfl (Nat.le_of_ble_eq_true rfl) rfl ?_
              refine fr_aload_n 69 dX7_addBelow_68 rfl rfl ?_
              refine fr_getr 72 18 dX7_addBelow_69 rfl fs_kX7_69 fs_l0 rfl ?_
              refine fr_iconst 73 dX7_addBelow_72 rfl ?_
              refine fr_aload_n 74 dX7_addBelow_73 rfl rfl ?_
              refine fr_geti 77 25 dX7_addBelow_74 rfl fs_kX7_221 rfl fs_l0 rfl ?_
              refine fr_top e25 ?_
              refine fr_imul 78 dX7_addBelow_77 rfl ?_
              refine fr_iload 80 dX7_addBelow_78 rfl rfl ?_
              refine fr_iadd 81 dX7_addBelow_80 rfl ?_
              refine fr_iload 83 dX7_addBelow_81 rfl rfl ?_
              refine fr_iload_n 84 dX7_addBelow_83 rfl rfl ?_
              refine fr_icmp_ne 104 87 dX7_addBelow_84 rfl rfl (by omega) (by omega) (fun h84 => ?_) (fun h84 => ?_)
              · exact absurd rfl h84
              · refine fr_iload_n 88 dX7_addBelow_87 rfl rfl ?_
                refine fr_iconst 89 dX7_addBelow_88 rfl ?_
                refine fr_icmp_ne 104 92 dX7_addBelow_89 rfl rfl (by omega) (by omega) (fun h89 => ?_) (fun h89 => ?_)
                · exact absurd rfl h89
                · refine fr_iload 94 dX7_addBelow_92 rfl rfl ?_
                  refine fr_iload 96 dX7_addBelow_94 rfl rfl ?_
                  refine fr_iadd 97 dX7_addBelow_96 rfl ?_
                  refine fr_iconst 98 dX7_addBelow_97 rfl ?_
                  refine fr_idiv 99 dX7_addBelow_98 rfl (by omega) (by omega) ?_
                  refine fr_iconst 100 dX7_addBelow_99 rfl ?_
                  refine fr_iadd 101 dX7_addBelow_100 rfl ?_
                  refine fr_goto 106 dX7_addBelow_101 rfl ?_
                  refine fr_iast 107 dX7_addBelow_106 rfl fs_l18 (by omega) ?_
                  refine fr_aload_n 108 dX7_addBelow_107 rfl rfl ?_
                  refine fr_getr 111 19 dX7_addBelow_108 rfl fs_kX7_72 fs_l0 rfl ?_
                  refine fr_iconst 112 dX7_addBelow_111 rfl ?_
                  refine fr_aload_n 113 dX7_addBelow_112 rfl rfl ?_
                  refine fr_geti 116 25 dX7_addBelow_113 rfl fs_kX7_221 rfl fs_l0 rfl ?_
                  refine fr_top (e25' _) ?_
                  refine fr_imul 117 dX7_addBelow_116 rfl ?_
                  refine fr_iload 119 dX7_addBelow_117 rfl rfl ?_
                  refine fr_iadd 120 dX7_addBelow_119 rfl ?_
                  refine fr_iload 122 dX7_addBelow_120 rfl rfl ?_
                  refine fr_iload_n 123 dX7_addBelow_122 rfl rfl ?_
                  refine fr_icmp_ne 140 126 dX7_addBelow_123 rfl rfl (by omega) (by omega) (fun h123 => ?_) (fun h123 => ?_)
                  · exact absurd rfl h123
                  · refine fr_iload_n 127 dX7_addBelow_126 rfl rfl ?_
                    refine fr_if_ne 140 130 dX7_addBelow_127 rfl rfl (by omega) (fun h127 => ?_) (fun h127 => ?_)
                    · refine fr_iload 142 dX7_addBelow_140 rfl rfl ?_
                      refine fr_iast 143 dX7_addBelow_142 rfl fs_l19 (by omega) ?_
                      refine fr_iinc 146 [_, _, _, _, _, _, _] dX7_addBelow_143 rfl rfl rfl ?_
                      refine fr_goto 36 dX7_addBelow_146 rfl ?_
                      exact step _ _ _ _ hg4 (by omega) rfl
                    · exact absurd h127 (by decide)
        · rw [if_neg efg] at kp
          rw [kp] at step
          have e25' : ∀ v, fs_u τ 18 (4 * ln + g) v 0 25 = ln := fun v => by rw [fs_u_k _ _ (by decide)]; exact e25
          refine fr_iload 38 dX7_addBelow_36 rfl rfl ?_
          refine fr_iconst 39 dX7_addBelow_38 rfl ?_
          refine fr_icmp_ge 149 42 dX7_addBelow_39 rfl rfl (by omega) (by omega) (fun h39 => ?_) (fun h39 => ?_)
          · exact absurd h39 (by omega)
          · refine fr_aload_n 43 dX7_addBelow_42 rfl rfl ?_
            refine fr_getr 46 18 dX7_addBelow_43 rfl fs_kX7_69 fs_l0 rfl ?_
            refine fr_iconst 47 dX7_addBelow_46 rfl ?_
            refine fr_iload_n 48 dX7_addBelow_47 rfl rfl ?_
            refine fr_imul 49 dX7_addBelow_48 rfl ?_
            refine fr_iload 51 dX7_addBelow_49 rfl rfl ?_
            refine fr_iadd 52 dX7_addBelow_51 rfl ?_
            refine fr_iald 53 dX7_addBelow_52 rfl fs_l18 (by omega) ?_
            refine fr_top r18 ?_
            refine fr_istore 55 [_, _, _, _, _, _, _] dX7_addBelow_53 rfl (Nat.le_of_ble_eq_true rfl) rfl ?_
            refine fr_aload_n 56 dX7_addBelow_55 rfl rfl ?_
            refine fr_getr 59 19 dX7_addBelow_56 rfl fs_kX7_72 fs_l0 rfl ?_
            refine fr_iconst 60 dX7_addBelow_59 rfl ?_
            refine fr_iload_n 61 dX7_addBelow_60 rfl rfl ?_
            refine fr_imul 62 dX7_addBelow_61 rfl ?_
            refine fr_iload 64 dX7_addBelow_62 rfl rfl ?_
            refine fr_iadd 65 dX7_addBelow_64 rfl ?_
            refine fr_iald 66 dX7_addBelow_65 rfl fs_l19 (by omega) ?_
            refine fr_top r19 ?_
            refine fr_istore 68 [_, _, _, _, _, _, _] dX7_addBelow_66 rfl (Nat.le_of_ble_eq_true rfl) rfl ?_
            refine fr_aload_n 69 dX7_addBelow_68 rfl rfl ?_
            refine fr_getr 72 18 dX7_addBelow_69 rfl fs_kX7_69 fs_l0 rfl ?_
            refine fr_iconst 73 dX7_addBelow_72 rfl ?_
            refine fr_aload_n 74 dX7_addBelow_73 rfl rfl ?_
            refine fr_geti 77 25 dX7_addBelow_74 rfl fs_kX7_221 rfl fs_l0 rfl ?_
            refine fr_top e25 ?_
            refine fr_imul 78 dX7_addBelow_77 rfl ?_
            refine fr_iload 80 dX7_addBelow_78 rfl rfl ?_
            refine fr_iadd 81 dX7_addBelow_80 rfl ?_
            refine fr_iload 83 dX7_addBelow_81 rfl rfl ?_
            refine fr_iload_n 84 dX7_addBelow_83 rfl rfl ?_
            refine fr_icmp_ne 104 87 dX7_addBelow_84 rfl rfl (by omega) (by omega) (fun h84 => ?_) (fun h84 => ?_)
            · refine fr_iload 106 dX7_addBelow_104 rfl rfl ?_
              refine fr_iast 107 dX7_addBelow_106 rfl fs_l18 (by omega) ?_
              refine fr_aload_n 108 dX7_addBelow_107 rfl rfl ?_
              refine fr_getr 111 19 dX7_addBelow_108 rfl fs_kX7_72 fs_l0 rfl ?_
              refine fr_iconst 112 dX7_addBelow_111 rfl ?_
              refine fr_aload_n 113 dX7_addBelow_112 rfl rfl ?_
              refine fr_geti 116 25 dX7_addBelow_113 rfl fs_kX7_221 rfl fs_l0 rfl ?_
              refine fr_top (e25' _) ?_
              refine fr_imul 117 dX7_addBelow_116 rfl ?_
              refine fr_iload 119 dX7_addBelow_117 rfl rfl ?_
              refine fr_iadd 120 dX7_addBelow_119 rfl ?_
              refine fr_iload 122 dX7_addBelow_120 rfl rfl ?_
              refine fr_iload_n 123 dX7_addBelow_122 rfl rfl ?_
              refine fr_icmp_ne 140 126 dX7_addBelow_123 rfl rfl (by omega) (by omega) (fun h123 => ?_) (fun h123 => ?_)
              · refine fr_iload 142 dX7_addBelow_140 rfl rfl ?_
                refine fr_iast 143 dX7_addBelow_142 rfl fs_l19 (by omega) ?_
                refine fr_iinc 146 [_, _, _, _, _, _, _] dX7_addBelow_143 rfl rfl rfl ?_
                refine fr_goto 36 dX7_addBelow_146 rfl ?_
                exact step _ _ _ _ hg4 rfl rfl
              · exact absurd h123 efg
            · exact absurd h84 efg
      · refine fr_iload 38 dX7_addBelow_36 rfl rfl ?_
        refine fr_iconst 39 dX7_addBelow_38 rfl ?_
        refine fr_icmp_ge 149 42 dX7_addBelow_39 rfl rfl (by omega) (by omega) (fun h39 => ?_) (fun h39 => ?_)
        · refine fr_aload_n 150 dX7_addBelow_149 rfl rfl ?_
          refine fr_dup 151 dX7_addBelow_150 rfl ?_
          refine fr_geti 154 25 dX7_addBelow_151 rfl fs_kX7_221 rfl fs_l0 rfl ?_
          refine fr_top e25 ?_
          refine fr_iconst 155 dX7_addBelow_154 rfl ?_
          refine fr_iadd 156 dX7_addBelow_155 rfl ?_
          refine fr_puti 159 25 dX7_addBelow_156 rfl fs_kX7_221 fs_pX7_25 rfl fs_l0 rfl ?_
          refine fr_vret dX7_addBelow_159 rfl ?_
          refine ⟨rfl, ⟨?_, ?_, fun g' b1 b2 => ?_⟩, fs_u_eq _ _ _ _, fun k j b1 b2 b3 => by rw [fs_u_ne _ b3]; exact hF k j b1 b2⟩
          · rw [fs_u_k _ _ (by decide)]; exact e20
          · rw [fs_u_k _ _ (by decide)]; exact e21
          · rw [fs_u_k _ _ (by decide), fs_u_k _ _ (by decide)]; exact hA g' b1 (by omega)
        · exact absurd h39 (by omega)
  refine fr_aload_n 1 dX7_addBelow_0 rfl rfl ?_
  refine fr_getr 4 20 dX7_addBelow_1 rfl fs_kX7_75 fs_l0 rfl ?_
  refine fr_aload_n 5 dX7_addBelow_4 rfl rfl ?_
  refine fr_geti 8 25 dX7_addBelow_5 rfl fs_kX7_221 rfl fs_l0 rfl ?_
  refine fr_top hnd ?_
  refine fr_aload_n 9 dX7_addBelow_8 rfl rfl ?_
  refine fr_iload_n 10 dX7_addBelow_9 rfl rfl ?_
  refine fr_iload_n 11 dX7_addBelow_10 rfl rfl ?_
  refine fr_iload_n 12 dX7_addBelow_11 rfl rfl ?_
  refine fr_callVi 15 (M2 := mX7_halved) [_, _, _] dX7_addBelow_12 rfl fs_mX7_218 fs_oX7_halved fs_iX7_halved fs_l0 rfl rfl (fs_Γ_rm (d := 1) (by decide)) (Nat.le_of_ble_eq_true rfl) rfl ?_
  refine (cM_halved hw hR hO hN hg (by omega) hf hh hp).ci ?_
  refine fr_iast 16 dX7_addBelow_15 rfl fs_l20 (by omega) ?_
  refine fr_aload_n 17 dX7_addBelow_16 rfl rfl ?_
  refine fr_getr 20 21 dX7_addBelow_17 rfl fs_kX7_78 fs_l0 rfl ?_
  refine fr_aload_n 21 dX7_addBelow_20 rfl rfl ?_
  refine fr_geti 24 25 dX7_addBelow_21 rfl fs_kX7_221 rfl fs_l0 rfl ?_
  refine fr_top (y := ln) (by rw [fs_u_k _ _ (by decide)]; exact hnd) ?_
  refine fr_aload_n 25 dX7_addBelow_24 rfl rfl ?_
  refine fr_getr 28 21 dX7_addBelow_25 rfl fs_kX7_78 fs_l0 rfl ?_
  refine fr_iload_n 29 dX7_addBelow_28 rfl rfl ?_
  refine fr_iald 30 dX7_addBelow_29 rfl fs_l21 (by omega) ?_
  refine fr_top (y := N.2.2) (by rw [fs_u_k _ _ (by decide)]; exact hN.2.1) ?_
  refine fr_iconst 31 dX7_addBelow_30 rfl ?_
  refine fr_iadd 32 dX7_addBelow_31 rfl ?_
  refine fr_iast 33 dX7_addBelow_32 rfl fs_l21 (by omega) ?_
  refine fr_iconst 34 dX7_addBelow_33 rfl ?_
  refine fr_istore 36 [_, _, _, _, _, _, _] dX7_addBelow_34 rfl (Nat.le_of_ble_eq_true rfl) rfl ?_
  refine key 5 0 _ _ _ (by omega) (by omega) (by omega) ?_ ?_ (fs_u_eq _ _ _ _) (fun k j b1 b2 => ?_) (fun g' b1 b2 => by omega)
  · rw [fs_u_k _ _ (by decide), fs_u_k _ _ (by decide)]; exact hnd
  · rw [fs_u_k _ _ (by decide), fs_u_eq]
  · rw [fs_u_ne _ (by omega), fs_u_ne _ (by omega)]
