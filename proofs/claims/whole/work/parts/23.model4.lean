/-! ===== the model: draft, rule, drop, rank, told, overlap, covered ===== -/
abbrev frC (σ τ : fs_S) : Prop := ∀ k i, 26 ≤ k → τ k i = σ k i
set_option maxRecDepth 100000 in
set_option maxHeartbeats 8000000 in
theorem cM_draft {σ : fs_S} {A : ab} {f lo hi : Int} (hI : IMc σ A) (hw : awf A) (hf : rg f) (hlo : rg lo) (hhi : rg hi) : fs_C mX7_draft 2 [.inr 0, .inl f, .inl lo, .inl hi] σ (fun x τ => x = some (aDraft f lo hi) ∧ IMc τ (sDraft A f lo hi) ∧ (∀ k i, ¬ ((k = 1 ∨ k = 2) ∧ 64 ≤ i ∧ i < 68) → τ k i = σ k i)) := by
  refine fs_C.intro [some (.inr 0), some (.inl f), some (.inl lo), some (.inl hi)] fs_oX7_draft (Nat.le_of_ble_eq_true rfl) rfl ?_
  have hg := gr_r f
  refine fr_iload_n 1 dX7_draft_0 rfl rfl ?_
  refine fr_callSi 4 (M2 := mX7_isField) [_] dX7_draft_1 rfl fs_mX7_127 fs_oX7_isField fs_sX7_isField rfl (fs_Γ_rm (d := 1) (by decide)) (Nat.le_of_ble_eq_true rfl) rfl ?_
  refine (cM_isField hf).ci ?_
  refine fr_if_ne 9 7 dX7_draft_4 rfl rfl (by omega) (fun h4 => ?_) (fun h4 => ?_)
  · refine fr_iload_n 10 dX7_draft_9 rfl rfl ?_
    refine fr_iconst 11 dX7_draft_10 rfl ?_
    refine fr_iload_n 12 dX7_draft_11 rfl rfl ?_
    refine fr_callSi 15 (M2 := mX7_most) [_] dX7_draft_12 rfl fs_mX7_124 fs_oX7_most fs_sX7_most rfl (fs_Γ_rm (d := 1) (by decide)) (Nat.le_of_ble_eq_true rfl) rfl ?_
    refine (cM_most hf).ci ?_
    refine fr_callSi 18 (M2 := mX7_in) [_, _, _] dX7_draft_15 rfl fs_mX7_100 fs_oX7_in fs_sX7_in rfl (fs_Γ_rm (d := 0) (by decide)) (Nat.le_of_ble_eq_true rfl) rfl ?_
    refine (cM_in (by omega) (by omega) (by omega)).ci ?_
    refine fr_if_eq 38 21 dX7_draft_18 rfl rfl (by omega) (fun h18 => ?_) (fun h18 => ?_)
    · refine fr_bipush 40 dX7_draft_38 rfl (by decide) ?_
      refine fr_iret dX7_draft_40 rfl ?_
      exact ⟨congrArg some (by unfold aDraft; rw [if_pos (by omega), if_neg (by omega)]), by unfold sDraft; rw [if_neg (by omega)]; exact hI, fun _ _ _ => rfl⟩
    · refine fr_iload_n 22 dX7_draft_21 rfl rfl ?_
      refine fr_iconst 23 dX7_draft_22 rfl ?_
      refine fr_iload_n 24 dX7_draft_23 rfl rfl ?_
      refine fr_callSi 27 (M2 := mX7_most) [_] dX7_draft_24 rfl fs_mX7_124 fs_oX7_most fs_sX7_most rfl (fs_Γ_rm (d := 1) (by decide)) (Nat.le_of_ble_eq_true rfl) rfl ?_
      refine (cM_most hf).ci ?_
      refine fr_callSi 30 (M2 := mX7_in) [_, _, _] dX7_draft_27 rfl fs_mX7_100 fs_oX7_in fs_sX7_in rfl (fs_Γ_rm (d := 0) (by decide)) (Nat.le_of_ble_eq_true rfl) rfl ?_
      refine (cM_in (by omega) (by omega) (by omega)).ci ?_
      refine fr_if_eq 38 33 dX7_draft_30 rfl rfl (by omega) (fun h30 => ?_) (fun h30 => ?_)
      · refine fr_bipush 40 dX7_draft_38 rfl (by decide) ?_
        refine fr_iret dX7_draft_40 rfl ?_
        exact ⟨congrArg some (by unfold aDraft; rw [if_pos (by omega), if_neg (by omega)]), by unfold sDraft; rw [if_neg (by omega)]; exact hI, fun _ _ _ => rfl⟩
      · refine fr_iload_n 34 dX7_draft_33 rfl rfl ?_
        refine fr_iload_n 35 dX7_draft_34 rfl rfl ?_
        refine fr_icmp_le 41 38 dX7_draft_35 rfl rfl (by omega) (by omega) (fun h35 => ?_) (fun h35 => ?_)
        · refine fr_aload_n 42 dX7_draft_41 rfl rfl ?_
          refine fr_getr 45 1 dX7_draft_42 rfl fs_kX7_7 fs_l0 rfl ?_
          refine fr_bipush 47 dX7_draft_45 rfl (by decide) ?_
          refine fr_iload_n 48 dX7_draft_47 rfl rfl ?_
          refine fr_iadd 49 dX7_draft_48 rfl ?_
          refine fr_iload_n 50 dX7_draft_49 rfl rfl ?_
          refine fr_iast 51 dX7_draft_50 rfl fs_l1 (by omega) ?_
          refine fr_aload_n 52 dX7_draft_51 rfl rfl ?_
          refine fr_getr 55 2 dX7_draft_52 rfl fs_kX7_13 fs_l0 rfl ?_
          refine fr_bipush 57 dX7_draft_55 rfl (by decide) ?_
          refine fr_iload_n 58 dX7_draft_57 rfl rfl ?_
          refine fr_iadd 59 dX7_draft_58 rfl ?_
          refine fr_iload_n 60 dX7_draft_59 rfl rfl ?_
          refine fr_iast 61 dX7_draft_60 rfl fs_l2 (by omega) ?_
          refine fr_iload_n 62 dX7_draft_61 rfl rfl ?_
          refine fr_iload_n 63 dX7_draft_62 rfl rfl ?_
          refine fr_isub 64 dX7_draft_63 rfl ?_
          refine fr_iconst 65 dX7_draft_64 rfl ?_
          refine fr_iadd 66 dX7_draft_65 rfl ?_
          refine fr_iret dX7_draft_66 rfl ?_
          refine ⟨congrArg some (by unfold aDraft; rw [if_pos (by omega), if_pos (by omega)]), ?_, fun k i h => by unfold fs_u; (repeat' split) <;> omega⟩
          unfold sDraft; rw [if_pos (by omega)]
          obtain ⟨a1, a2, a3, a4⟩ := hI
          have hn := hw.1.1
          refine ⟨a1.eq hw.1 (by unfold fs_u; (repeat' split) <;> omega) (fun k i a b c d => by unfold fs_u; (repeat' split) <;> omega), fun x a b => ?_, ⟨a3.1, a3.2⟩, fun k a b => ⟨(a4 k a b).1, fun z => ?_⟩⟩
          · have q := a2 x a b
            by_cases e : x = f
            · subst e
              exact ⟨by rw [fs_u_k _ _ (by decide), fs_u_eq]; exact (if_pos rfl).symm, by rw [fs_u_eq]; exact (if_pos rfl).symm⟩
            · exact ⟨by rw [fs_u_k _ _ (by decide), fs_u_i _ (by omega), q.1]; exact (if_neg e).symm, by rw [fs_u_i _ (by omega), fs_u_k _ _ (by decide), q.2]; exact (if_neg e).symm⟩
          · exact (a4 k a b).2 z
        · refine fr_bipush 40 dX7_draft_38 rfl (by decide) ?_
          refine fr_iret dX7_draft_40 rfl ?_
          exact ⟨congrArg some (by unfold aDraft; rw [if_pos (by omega), if_neg (by omega)]), by unfold sDraft; rw [if_neg (by omega)]; exact hI, fun _ _ _ => rfl⟩
  · refine fr_iconst 8 dX7_draft_7 rfl ?_
    refine fr_iret dX7_draft_8 rfl ?_
    exact ⟨congrArg some (by unfold aDraft; rw [if_neg (by omega)]), by unfold sDraft; rw [if_neg (by omega)]; exact hI, fun _ _ _ => rfl⟩
theorem nRule_wf {A : ab} {rk ac : Int} (hw : awf A) (h1 : 0 ≤ rk ∧ rk ≤ 999) (h2 : 0 ≤ ac ∧ ac ≤ 9) (hn : tn A.1 ≠ 16) : awf (nRule A rk ac) := by
  obtain ⟨a1, a2, a3, a4⟩ := hw
  have hN := a1.1
  refine ⟨⟨⟨?_, ?_⟩, fun r f b1 b2 b3 b4 => ?_, fun r b1 b2 => ?_⟩, fun f b1 b2 => ⟨Int.le_refl _, by have := gr_r f; show (0 : Int) ≤ gr f; omega, Int.le_refl _⟩, a3, a4⟩
  · show 0 ≤ tn A.1 + 1; omega
  · show tn A.1 + 1 ≤ 16; omega
  · change r < tn A.1 + 1 at b2
    show 0 ≤ (if r = tn A.1 then A.2.1.1 f else tlo A.1 r f) ∧ (if r = tn A.1 then A.2.1.1 f else tlo A.1 r f) ≤ (if r = tn A.1 then A.2.1.2 f else thi A.1 r f) ∧ (if r = tn A.1 then A.2.1.2 f else thi A.1 r f) ≤ gr f
    by_cases e : r = tn A.1
    · rw [if_pos e, if_pos e]; exact a2 f b3 b4
    · rw [if_neg e, if_neg e]; exact a1.2.1 r f b1 (by omega) b3 b4
  · change r < tn A.1 + 1 at b2
    show (0 ≤ (if r = tn A.1 then rk else trk A.1 r) ∧ (if r = tn A.1 then rk else trk A.1 r) ≤ 999) ∧ 0 ≤ (if r = tn A.1 then ac else tac A.1 r) ∧ (if r = tn A.1 then ac else tac A.1 r) ≤ 9
    by_cases e : r = tn A.1
    · rw [if_pos e, if_pos e]; exact ⟨h1, h2⟩
    · rw [if_neg e, if_neg e]; exact a1.2.2 r b1 (by omega)
/-- the four flags are down -/
abbrev fl0 (τ : fs_S) : Prop := ∀ i, 7 ≤ i → i ≤ 10 → τ 0 i = 0
set_option maxRecDepth 100000 in
set_option maxHeartbeats 8000000 in
theorem cM_rule {σ : fs_S} {A : ab} {rk ac : Int} (hI : IMc σ A) (hw : awf A) (hrk : rg rk) (hac : rg ac) : fs_C mX7_rule 3 [.inr 0, .inl rk, .inl ac] σ (fun x τ => x = some (aRule A rk ac) ∧ IMc τ (sRule A rk ac) ∧ (τ = σ ∧ sRule A rk ac = A ∨ fl0 τ) ∧ frC σ τ) := by
  refine fs_C.intro [some (.inr 0), some (.inl rk), some (.inl ac), none] fs_oX7_rule (Nat.le_of_ble_eq_true rfl) rfl ?_
  obtain ⟨a1, a2, a3, a4⟩ := id hI
  have hn := hw.1.1
  have hm := a1.1
  obtain ⟨n, en⟩ : ∃ n, tn A.1 = n := ⟨_, rfl⟩
  rw [en] at hn hm
  have key : ∀ (m : Nat) (f : Int) (τ : fs_S), ((0 ≤ rk ∧ rk ≤ 999) ∧ 0 ≤ ac ∧ ac ≤ 9) → n ≠ 16 → 0 ≤ f → f ≤ 4 → 4 - f < m → (∀ k i, ¬ ((k = 1 ∨ k = 2) ∧ 4 * n ≤ i ∧ i < 4 * n + 4) → τ k i = σ k i) → (∀ g, 0 ≤ g → g < f → τ 1 (4 * n + g) = A.2.1.1 g ∧ τ 2 (4 * n + g) = A.2.1.2 g) →
      fs_W (fs_Γ 3 (fun x τ => x = some (aRule A rk ac) ∧ IMc τ (sRule A rk ac) ∧ (τ = σ ∧ sRule A rk ac = A ∨ fl0 τ) ∧ frC σ τ)) mX7_rule 38 [some (.inr 0), some (.inl rk), some (.inl ac), some (.inl f)] [] τ := by
    intro m
    induction m with
    | zero => intro f τ hok hn16 h0 h1 h2; omega
    | succ m ih =>
      intro f τ hok hn16 h0 h1 h2 hF hC
      have e0 : τ 0 0 = n := (hF 0 0 (by omega)).trans hm
      refine fr_iload_n 39 dX7_rule_38 rfl rfl ?_
      refine fr_iconst 40 dX7_rule_39 rfl ?_
      refine fr_icmp_ge 93 43 dX7_rule_40 rfl rfl (by omega) (by omega) (fun h40 => ?_) (fun h40 => ?_)
      · refine fr_aload_n 94 dX7_rule_93 rfl rfl ?_
        refine fr_getr 97 3 dX7_rule_94 rfl fs_kX7_16 fs_l0 rfl ?_
        refine fr_aload_n 98 dX7_rule_97 rfl rfl ?_
        refine fr_geti 101 0 dX7_rule_98 rfl fs_kX7_104 rfl fs_l0 rfl ?_
        refine fr_top e0 ?_
        refine fr_iload_n 102 dX7_rule_101 rfl rfl ?_
        refine fr_iast 103 dX7_rule_102 rfl fs_l3 (by omega) ?_
        refine fr_aload_n 104 dX7_rule_103 rfl rfl ?_
        refine fr_getr 107 4 dX7_rule_104 rfl fs_kX7_19 fs_l0 rfl ?_
        refine fr_aload_n 108 dX7_rule_107 rfl rfl ?_
        refine fr_geti 111 0 dX7_rule_108 rfl fs_kX7_104 rfl fs_l0 rfl ?_
        refine fr_top (y := n) (by rw [fs_u_k _ _ (by decide)]; exact e0) ?_
        refine fr_iload_n 112 dX7_rule_111 rfl rfl ?_
        refine fr_iast 113 dX7_rule_112 rfl fs_l4 (by omega) ?_
        refine fr_aload_n 114 dX7_rule_113 rfl rfl ?_
        refine fr_dup 115 dX7_rule_114 rfl ?_
        refine fr_geti 118 0 dX7_rule_115 rfl fs_kX7_104 rfl fs_l0 rfl ?_
        refine fr_top (y := n) (by rw [fs_u_k _ _ (by decide), fs_u_k _ _ (by decide)]; exact e0) ?_
        refine fr_iconst 119 dX7_rule_118 rfl ?_
        refine fr_iadd 120 dX7_rule_119 rfl ?_
        refine fr_puti 123 0 dX7_rule_120 rfl fs_kX7_104 fs_pX7_0 rfl fs_l0 rfl ?_
        refine fr_aload_n 124 dX7_rule_123 rfl rfl ?_
        refine fr_callVv 127 (M2 := mX7_clearDraft) [] dX7_rule_124 rfl fs_mX7_93 fs_oX7_clearDraft fs_iX7_clearDraft fs_l0 rfl rfl (fs_Γ_rm (d := 2) (by decide)) (Nat.le_of_ble_eq_true rfl) rfl ?_
        refine cM_clearDraft.mono ?_
        rintro _ τ2 ⟨rfl, d1, d2⟩
        refine ⟨rfl, ?_⟩
        refine fr_aload_n 128 dX7_rule_127 rfl rfl ?_
        refine fr_callVv 131 (M2 := mX7_change) [] dX7_rule_128 rfl fs_mX7_131 fs_oX7_change fs_iX7_change fs_l0 rfl rfl (fs_Γ_rm (d := 0) (by decide)) (Nat.le_of_ble_eq_true rfl) rfl ?_
        refine cM_change.mono ?_
        rintro _ τ3 ⟨rfl, c1, c2⟩
        refine ⟨rfl, ?_⟩
        have e3 : τ3 0 0 = n + 1 := by rw [c2 _ _ (by decide), d2 _ _ (by decide), fs_u_eq]
        have fr3 : ∀ k i, ¬ ((k = 1 ∨ k = 2) ∧ 4 * n ≤ i) → ¬ (k = 0 ∧ (i = 0 ∨ 7 ≤ i ∧ i ≤ 10)) → ¬ ((k = 3 ∨ k = 4) ∧ i = n) → τ3 k i = σ k i := fun k i b1 b2 b3 => by
          rw [c2 _ _ (by omega), d2 _ _ (by omega), fs_u_ne _ (by omega), fs_u_ne _ (by omega), fs_u_ne _ (by omega)]
          exact hF k i (by omega)
        refine fr_aload_n 132 dX7_rule_131 rfl rfl ?_
        refine fr_geti 135 0 dX7_rule_132 rfl fs_kX7_104 rfl fs_l0 rfl ?_
        refine fr_top e3 ?_
        refine fr_iconst 136 dX7_rule_135 rfl ?_
        refine fr_isub 137 dX7_rule_136 rfl ?_
        refine fr_iret dX7_rule_137 rfl ?_
        refine ⟨congrArg some ?_, ?_, Or.inr c1, fun k i b1 => fr3 k i (by omega) (by omega) (by omega)⟩
        · unfold aRule; rw [if_pos hok, en, if_neg hn16]; omega
        · unfold sRule; rw [if_pos ⟨hok, by rw [en]; exact hn16⟩]
          refine ⟨⟨?_, fun r f b1 b2 b3 b4 => ?_, fun r b1 b2 => ?_⟩, fun f b1 b2 => ?_, ?_, fun k b1 b2 => ?_⟩
          · show τ3 0 0 = tn A.1 + 1
            rw [e3, en]
          · change r < tn A.1 + 1 at b2
            show τ3 1 (4 * r + f) = (if r = tn A.1 then A.2.1.1 f else tlo A.1 r f) ∧ τ3 2 (4 * r + f) = (if r = tn A.1 then A.2.1.2 f else thi A.1 r f)
            rw [en] at b2 ⊢
            by_cases e : r = n
            · rw [if_pos e, if_pos e, e, c2 _ _ (by omega), d2 _ _ (by omega), fs_u_ne _ (by omega), fs_u_ne _ (by omega), fs_u_ne _ (by omega), c2 _ _ (by omega), d2 _ _ (by omega), fs_u_ne _ (by omega), fs_u_ne _ (by omega), fs_u_ne _ (by omega)]
              exact hC f b3 (by omega)
            · rw [if_neg e, if_neg e, fr3 _ _ (by omega) (by omega) (by omega), fr3 _ _ (by omega) (by omega) (by omega)]
              exact a1.2.1 r f b1 (by omega) b3 b4
          · change r < tn A.1 + 1 at b2
            show τ3 3 r = (if r = tn A.1 then rk else trk A.1 r) ∧ τ3 4 r = (if r = tn A.1 then ac else tac A.1 r)
            rw [en] at b2 ⊢
            by_cases e : r = n
            · rw [if_pos e, if_pos e, e, c2 _ _ (by omega), d2 _ _ (by omega), fs_u_ne _ (by omega), fs_u_ne _ (by omega), fs_u_eq, c2 _ _ (by omega), d2 _ _ (by omega), fs_u_ne _ (by omega), fs_u_eq]
              exact ⟨rfl, rfl⟩
            · rw [if_neg e, if_neg e, fr3 _ _ (by omega) (by omega) (by omega), fr3 _ _ (by omega) (by omega) (by omega)]
              exact a1.2.2 r b1 (by omega)
          · rw [c2 _ _ (by omega), c2 _ _ (by omega)]; exact d1 f b1 b2
          · rw [fr3 _ _ (by omega) (by omega) (by omega), fr3 _ _ (by omega) (by omega) (by omega)]; exact a3
          · rw [fr3 _ _ (by omega) (by omega) (by omega)]
            refine ⟨(a4 k b1 b2).1, fun z => ?_⟩
            obtain ⟨q1, q2, q3, q4, q5⟩ := (a4 k b1 b2).2 z
            refine ⟨by rw [fr3 _ _ (by omega) (by omega) (by omega)]; exact q1, fun r f c d e g => ?_, fun r c d => ?_, by rw [fr3 _ _ (by omega) (by omega) (by omega)]; exact q4, by rw [fr3 _ _ (by omega) (by omega) (by omega)]; exact q5⟩
            · rw [fr3 _ _ (by omega) (by omega) (by omega), fr3 _ _ (by omega) (by omega) (by omega)]; exact q2 r f c d e g
            · rw [fr3 _ _ (by omega) (by omega) (by omega), fr3 _ _ (by omega) (by omega) (by omega)]; exact q3 r c d
      · refine fr_aload_n 44 dX7_rule_43 rfl rfl ?_
        refine fr_getr 47 1 dX7_rule_44 rfl fs_kX7_7 fs_l0 rfl ?_
        refine fr_iconst 48 dX7_rule_47 rfl ?_
        refine fr_aload_n 49 dX7_rule_48 rfl rfl ?_
        refine fr_geti 52 0 dX7_rule_49 rfl fs_kX7_104 rfl fs_l0 rfl ?_
        refine fr_top e0 ?_
        refine fr_imul 53 dX7_rule_52 rfl ?_
        refine fr_iload_n 54 dX7_rule_53 rfl rfl ?_
        refine fr_iadd 55 dX7_rule_54 rfl ?_
        refine fr_aload_n 56 dX7_rule_55 rfl rfl ?_
        refine fr_getr 59 1 dX7_rule_56 rfl fs_kX7_7 fs_l0 rfl ?_
        refine fr_bipush 61 dX7_rule_59 rfl (by decide) ?_
        refine fr_iload_n 62 dX7_rule_61 rfl rfl ?_
        refine fr_iadd 63 dX7_rule_62 rfl ?_
        refine fr_iald 64 dX7_rule_63 rfl fs_l1 (by omega) ?_
        refine fr_iast 65 dX7_rule_64 rfl fs_l1 (by omega) ?_
        refine fr_aload_n 66 dX7_rule_65 rfl rfl ?_
        refine fr_getr 69 2 dX7_rule_66 rfl fs_kX7_13 fs_l0 rfl ?_
        refine fr_iconst 70 dX7_rule_69 rfl ?_
        refine fr_aload_n 71 dX7_rule_70 rfl rfl ?_
        refine fr_geti 74 0 dX7_rule_71 rfl fs_kX7_104 rfl fs_l0 rfl ?_
        refine fr_top (y := n) (by rw [fs_u_k _ _ (by decide)]; exact e0) ?_
        refine fr_imul 75 dX7_rule_74 rfl ?_
        refine fr_iload_n 76 dX7_rule_75 rfl rfl ?_
        refine fr_iadd 77 dX7_rule_76 rfl ?_
        refine fr_aload_n 78 dX7_rule_77 rfl rfl ?_
        refine fr_getr 81 2 dX7_rule_78 rfl fs_kX7_13 fs_l0 rfl ?_
        refine fr_bipush 83 dX7_rule_81 rfl (by decide) ?_
        refine fr_iload_n 84 dX7_rule_83 rfl rfl ?_
        refine fr_iadd 85 dX7_rule_84 rfl ?_
        refine fr_iald 86 dX7_rule_85 rfl fs_l2 (by omega) ?_
        refine fr_iast 87 dX7_rule_86 rfl fs_l2 (by omega) ?_
        refine fr_iinc 90 [_, _, _, _] dX7_rule_87 rfl rfl rfl ?_
        refine fr_goto 38 dX7_rule_90 rfl ?_
        have q := a2 f h0 (by omega)
        refine ih (f + 1) _ hok hn16 (by omega) (by omega) (by omega) (fun k i h => ?_) (fun g a b => ?_)
        · rw [fs_u_ne _ (by omega), fs_u_ne _ (by omega)]; exact hF k i h
        · by_cases e : g = f
          · subst e
            refine ⟨?_, ?_⟩
            · rw [fs_u_k _ _ (by decide), fs_u_eq, hF 1 _ (by omega)]; exact q.1
            · rw [fs_u_eq, fs_u_k _ _ (by decide), hF 2 _ (by omega)]; exact q.2
          · rw [fs_u_k _ _ (by decide), fs_u_i _ (by omega), fs_u_i _ (by omega), fs_u_k _ _ (by decide)]; exact hC g a (by omega)
  refine fr_iload_n 1 dX7_rule_0 rfl rfl ?_
  refine fr_iconst 2 dX7_rule_1 rfl ?_
  refine fr_sipush 5 dX7_rule_2 rfl (by decide) ?_
  refine fr_callSi 8 (M2 := mX7_in) [_, _, _] dX7_rule_5 rfl fs_mX7_100 fs_oX7_in fs_sX7_in rfl (fs_Γ_rm (d := 0) (by decide)) (Nat.le_of_ble_eq_true rfl) rfl ?_
  refine (cM_in (by omega) (by omega) (by omega)).ci ?_
  refine fr_if_eq 21 11 dX7_rule_8 rfl rfl (by omega) (fun h8 => ?_) (fun h8 => ?_)
  · refine fr_bipush 23 dX7_rule_21 rfl (by decide) ?_
    refine fr_iret dX7_rule_23 rfl ?_
    have no : ¬ ((0 ≤ rk ∧ rk ≤ 999) ∧ 0 ≤ ac ∧ ac ≤ 9) := by omega
    have es : sRule A rk ac = A := if_neg (fun z => no z.1)
    exact ⟨congrArg some (by unfold aRule; rw [if_neg no]), by rw [es]; exact hI, Or.inl ⟨rfl, es⟩, fun _ _ _ => rfl⟩
  · refine fr_iload_n 12 dX7_rule_11 rfl rfl ?_
    refine fr_iconst 13 dX7_rule_12 rfl ?_
    refine fr_bipush 15 dX7_rule_13 rfl (by decide) ?_
    refine fr_callSi 18 (M2 := mX7_in) [_, _, _] dX7_rule_15 rfl fs_mX7_100 fs_oX7_in fs_sX7_in rfl (fs_Γ_rm (d := 0) (by decide)) (Nat.le_of_ble_eq_true rfl) rfl ?_
    refine (cM_in (by omega) (by omega) (by omega)).ci ?_
    refine fr_if_ne 24 21 dX7_rule_18 rfl rfl (by omega) (fun h18 => ?_) (fun h18 => ?_)
    · refine fr_aload_n 25 dX7_rule_24 rfl rfl ?_
      refine fr_geti 28 0 dX7_rule_25 rfl fs_kX7_104 rfl fs_l0 rfl ?_
      refine fr_bipush 30 dX7_rule_28 rfl (by decide) ?_
      refine fr_icmp_ne 36 33 dX7_rule_30 rfl rfl (by omega) (by omega) (fun h30 => ?_) (fun h30 => ?_)
      · refine fr_iconst 37 dX7_rule_36 rfl ?_
        refine fr_istore_n 38 [_, _, _, _] dX7_rule_37 rfl (Nat.le_of_ble_eq_true rfl) rfl ?_
        exact key 5 0 σ (by omega) (by omega) (by omega) (by omega) (by omega) (fun _ _ _ => rfl) (fun g a b => by omega)
      · refine fr_bipush 35 dX7_rule_33 rfl (by decide) ?_
        refine fr_iret dX7_rule_35 rfl ?_
        have es : sRule A rk ac = A := if_neg (fun z => z.2 (by omega))
        exact ⟨congrArg some (by unfold aRule; rw [if_pos (by omega), if_pos (by omega)]), by rw [es]; exact hI, Or.inl ⟨rfl, es⟩, fun _ _ _ => rfl⟩
    · refine fr_bipush 23 dX7_rule_21 rfl (by decide) ?_
      refine fr_iret dX7_rule_23 rfl ?_
      have no : ¬ ((0 ≤ rk ∧ rk ≤ 999) ∧ 0 ≤ ac ∧ ac ≤ 9) := by omega
      have es : sRule A rk ac = A := if_neg (fun z => no z.1)
      exact ⟨congrArg some (by unfold aRule; rw [if_neg no]), by rw [es]; exact hI, Or.inl ⟨rfl, es⟩, fun _ _ _ => rfl⟩
