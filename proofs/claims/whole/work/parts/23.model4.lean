/-! ===== the model: draft, rule, drop, rank, told, overlap, covered ===== -/
abbrev frC (σ τ : fs_S) : Prop := ∀ k i, 26 ≤ k → τ k i = σ k i
set_option maxRecDepth 100000 in
set_option maxHeartbeats 1500000 in
theorem cM_draft {σ : fs_S} {A : ab} {f lo hi : Int} (hI : IMc σ A) (hw : awf A) (hf : rg f) (hlo : rg lo) (hhi : rg hi) : fs_C mX7_draft 2 [.inr 0, .inl f, .inl lo, .inl hi] σ (fun x τ => x = some (aDraft f lo hi) ∧ IMc τ (sDraft A f lo hi) ∧ (∀ k i, ¬ ((k = 1 ∨ k = 2) ∧ 64 ≤ i ∧ i < 68) → τ k i = σ k i)) := by
  refine fs_C.intro [some (.inr 0), some (.inl f), some (.inl lo), some (.inl hi)] fs_oX7_draft (Nat.le_of_ble_eq_true rfl) rfl ?_
  have hg := gr_r f
  refine fr_iload_n 1 dX7_draft_0 rfl rfl ?_
  refine fr_callSi 4 (M2 := mX7_isField) [_] dX7_draft_1 rfl fs_mX7_127 fs_oX7_isField fs_sX7_isField rfl (fs_Γ_rm (d := 1) (by decide)) (Nat.le_of_ble_eq_true rfl) rfl ?_
  refine (cM_isField hf).ci ?_
  refine fr_if_ne 9 7 dX7_draft_4 rfl rfl (by omega) (fun h4 => ?_) (fun h4 => ?_)
  · refine fr_iload_n 10 dX7_draft_9 rfl rfl ?_
    refine fr_iconst 11 dX7_draft_10 rfl ?_
    refine fr_iload_n 12 dX7_draft_11 rfl rfl ?_
    refine fr_callSi 15 (M2 := mX7_most) [_] dX7_draft_12 rfl fs_mX7_124 fs_oX7_most fs_sX7_most rfl (fs_Γ_rm (d := 1) (by decide)) (Nat.le_of_ble_eq_true rfl) rfl ?_
    refine (cM_most hf).ci ?_
    refine fr_callSi 18 (M2 := mX7_in) [_, _, _] dX7_draft_15 rfl fs_mX7_100 fs_oX7_in fs_sX7_in rfl (fs_Γ_rm (d := 0) (by decide)) (Nat.le_of_ble_eq_true rfl) rfl ?_
    refine (cM_in (by omega) (by omega) (by omega)).ci ?_
    refine fr_if_eq 38 21 dX7_draft_18 rfl rfl (by omega) (fun h18 => ?_) (fun h18 => ?_)
    · refine fr_bipush 40 dX7_draft_38 rfl (by decide) ?_
      refine fr_iret dX7_draft_40 rfl ?_
      exact ⟨congrArg some (by unfold aDraft; rw [if_pos (by omega), if_neg (by omega)]), by unfold sDraft; rw [if_neg (by omega)]; exact hI, fun _ _ _ => rfl⟩
    · refine fr_iload_n 22 dX7_draft_21 rfl rfl ?_
      refine fr_iconst 23 dX7_draft_22 rfl ?_
      refine fr_iload_n 24 dX7_draft_23 rfl rfl ?_
      refine fr_callSi 27 (M2 := mX7_most) [_] dX7_draft_24 rfl fs_mX7_124 fs_oX7_most fs_sX7_most rfl (fs_Γ_rm (d := 1) (by decide)) (Nat.le_of_ble_eq_true rfl) rfl ?_
      refine (cM_most hf).ci ?_
      refine fr_callSi 30 (M2 := mX7_in) [_, _, _] dX7_draft_27 rfl fs_mX7_100 fs_oX7_in fs_sX7_in rfl (fs_Γ_rm (d := 0) (by decide)) (Nat.le_of_ble_eq_true rfl) rfl ?_
      refine (cM_in (by omega) (by omega) (by omega)).ci ?_
      refine fr_if_eq 38 33 dX7_draft_30 rfl rfl (by omega) (fun h30 => ?_) (fun h30 => ?_)
      · refine fr_bipush 40 dX7_draft_38 rfl (by decide) ?_
        refine fr_iret dX7_draft_40 rfl ?_
        exact ⟨congrArg some (by unfold aDraft; rw [if_pos (by omega), if_neg (by omega)]), by unfold sDraft; rw [if_neg (by omega)]; exact hI, fun _ _ _ => rfl⟩
      · refine fr_iload_n 34 dX7_draft_33 rfl rfl ?_
        refine fr_iload_n 35 dX7_draft_34 rfl rfl ?_
        refine fr_icmp_le 41 38 dX7_draft_35 rfl rfl (by omega) (by omega) (fun h35 => ?_) (fun h35 => ?_)
        · refine fr_aload_n 42 dX7_draft_41 rfl rfl ?_
          refine fr_getr 45 1 dX7_draft_42 rfl fs_kX7_7 fs_l0 rfl ?_
          refine fr_bipush 47 dX7_draft_45 rfl (by decide) ?_
          refine fr_iload_n 48 dX7_draft_47 rfl rfl ?_
          refine fr_iadd 49 dX7_draft_48 rfl ?_
          refine fr_iload_n 50 dX7_draft_49 rfl rfl ?_
          refine fr_iast 51 dX7_draft_50 rfl fs_l1 (by omega) ?_
          refine fr_aload_n 52 dX7_draft_51 rfl rfl ?_
          refine fr_getr 55 2 dX7_draft_52 rfl fs_kX7_13 fs_l0 rfl ?_
          refine fr_bipush 57 dX7_draft_55 rfl (by decide) ?_
          refine fr_iload_n 58 dX7_draft_57 rfl rfl ?_
          refine fr_iadd 59 dX7_draft_58 rfl ?_
          refine fr_iload_n 60 dX7_draft_59 rfl rfl ?_
          refine fr_iast 61 dX7_draft_60 rfl fs_l2 (by omega) ?_
          refine fr_iload_n 62 dX7_draft_61 rfl rfl ?_
          refine fr_iload_n 63 dX7_draft_62 rfl rfl ?_
          refine fr_isub 64 dX7_draft_63 rfl ?_
          refine fr_iconst 65 dX7_draft_64 rfl ?_
          refine fr_iadd 66 dX7_draft_65 rfl ?_
          refine fr_iret dX7_draft_66 rfl ?_
          refine ⟨congrArg some (by unfold aDraft; rw [if_pos (by omega), if_pos (by omega)]), ?_, fun k i h => by unfold fs_u; (repeat' split) <;> omega⟩
          unfold sDraft; rw [if_pos (by omega)]
          obtain ⟨a1, a2, a3, a4⟩ := hI
          have hn := hw.1.1
          refine ⟨a1.eq hw.1 (by unfold fs_u; (repeat' split) <;> omega) (fun k i a b c d => by unfold fs_u; (repeat' split) <;> omega), fun x a b => ?_, ⟨a3.1, a3.2⟩, fun k a b => ⟨(a4 k a b).1, fun z => ?_⟩⟩
          · have q := a2 x a b
            by_cases e : x = f
            · subst e
              exact ⟨by rw [fs_u_k _ _ (by decide), fs_u_eq]; exact (if_pos rfl).symm, by rw [fs_u_eq]; exact (if_pos rfl).symm⟩
            · exact ⟨by rw [fs_u_k _ _ (by decide), fs_u_i _ (by omega), q.1]; exact (if_neg e).symm, by rw [fs_u_i _ (by omega), fs_u_k _ _ (by decide), q.2]; exact (if_neg e).symm⟩
          · exact (a4 k a b).2 z
        · refine fr_bipush 40 dX7_draft_38 rfl (by decide) ?_
          refine fr_iret dX7_draft_40 rfl ?_
          exact ⟨congrArg some (by unfold aDraft; rw [if_pos (by omega), if_neg (by omega)]), by unfold sDraft; rw [if_neg (by omega)]; exact hI, fun _ _ _ => rfl⟩
  · refine fr_iconst 8 dX7_draft_7 rfl ?_
    refine fr_iret dX7_draft_8 rfl ?_
    exact ⟨congrArg some (by unfold aDraft; rw [if_neg (by omega)]), by unfold sDraft; rw [if_neg (by omega)]; exact hI, fun _ _ _ => rfl⟩
theorem nRule_wf {A : ab} {rk ac : Int} (hw : awf A) (h1 : 0 ≤ rk ∧ rk ≤ 999) (h2 : 0 ≤ ac ∧ ac ≤ 9) (hn : tn A.1 ≠ 16) : awf (nRule A rk ac) := by
  obtain ⟨a1, a2, a3, a4⟩ := hw
  have hN := a1.1
  refine ⟨⟨⟨?_, ?_⟩, fun r f b1 b2 b3 b4 => ?_, fun r b1 b2 => ?_⟩, fun f b1 b2 => ⟨Int.le_refl _, by have := gr_r f; show (0 : Int) ≤ gr f; omega, Int.le_refl _⟩, a3, a4⟩
  · show 0 ≤ tn A.1 + 1; omega
  · show tn A.1 + 1 ≤ 16; omega
  · change r < tn A.1 + 1 at b2
    show 0 ≤ (if r = tn A.1 then A.2.1.1 f else tlo A.1 r f) ∧ (if r = tn A.1 then A.2.1.1 f else tlo A.1 r f) ≤ (if r = tn A.1 then A.2.1.2 f else thi A.1 r f) ∧ (if r = tn A.1 then A.2.1.2 f else thi A.1 r f) ≤ gr f
    by_cases e : r = tn A.1
    · rw [if_pos e, if_pos e]; exact a2 f b3 b4
    · rw [if_neg e, if_neg e]; exact a1.2.1 r f b1 (by omega) b3 b4
  · change r < tn A.1 + 1 at b2
    show (0 ≤ (if r = tn A.1 then rk else trk A.1 r) ∧ (if r = tn A.1 then rk else trk A.1 r) ≤ 999) ∧ 0 ≤ (if r = tn A.1 then ac else tac A.1 r) ∧ (if r = tn A.1 then ac else tac A.1 r) ≤ 9
    by_cases e : r = tn A.1
    · rw [if_pos e, if_pos e]; exact ⟨h1, h2⟩
    · rw [if_neg e, if_neg e]; exact a1.2.2 r b1 (by omega)
/-- the four flags are down -/
abbrev fl0 (τ : fs_S) : Prop := ∀ i, 7 ≤ i → i ≤ 10 → τ 0 i = 0
set_option maxRecDepth 100000 in
set_option maxHeartbeats 1500000 in
theorem cM_rule {σ : fs_S} {A : ab} {rk ac : Int} (hI : IMc σ A) (hw : awf A) (hrk : rg rk) (hac : rg ac) : fs_C mX7_rule 3 [.inr 0, .inl rk, .inl ac] σ (fun x τ => x = some (aRule A rk ac) ∧ IMc τ (sRule A rk ac) ∧ (τ = σ ∧ sRule A rk ac = A ∨ fl0 τ) ∧ frC σ τ) := by
  refine fs_C.intro [some (.inr 0), some (.inl rk), some (.inl ac), none] fs_oX7_rule (Nat.le_of_ble_eq_true rfl) rfl ?_
  obtain ⟨a1, a2, a3, a4⟩ := id hI
  have hn := hw.1.1
  have hm := a1.1
  obtain ⟨n, en⟩ : ∃ n, tn A.1 = n := ⟨_, rfl⟩
  rw [en] at hn hm
  have key : ∀ (m : Nat) (f : Int) (τ : fs_S), ((0 ≤ rk ∧ rk ≤ 999) ∧ 0 ≤ ac ∧ ac ≤ 9) → n ≠ 16 → 0 ≤ f → f ≤ 4 → 4 - f < m → (∀ k i, ¬ ((k = 1 ∨ k = 2) ∧ 4 * n ≤ i ∧ i < 4 * n + 4) → τ k i = σ k i) → (∀ g, 0 ≤ g → g < f → τ 1 (4 * n + g) = A.2.1.1 g ∧ τ 2 (4 * n + g) = A.2.1.2 g) →
      fs_W (fs_Γ 3 (fun x τ => x = some (aRule A rk ac) ∧ IMc τ (sRule A rk ac) ∧ (τ = σ ∧ sRule A rk ac = A ∨ fl0 τ) ∧ frC σ τ)) mX7_rule 38 [some (.inr 0), some (.inl rk), some (.inl ac), some (.inl f)] [] τ := by
    intro m
    induction m with
    | zero => intro f τ hok hn16 h0 h1 h2; omega
    | succ m ih =>
      intro f τ hok hn16 h0 h1 h2 hF hC
      have e0 : τ 0 0 = n := (hF 0 0 (by omega)).trans hm
      refine fr_iload_n 39 dX7_rule_38 rfl rfl ?_
      refine fr_iconst 40 dX7_rule_39 rfl ?_
      refine fr_icmp_ge 93 43 dX7_rule_40 rfl rfl (by omega) (by omega) (fun h40 => ?_) (fun h40 => ?_)
      · refine fr_aload_n 94 dX7_rule_93 rfl rfl ?_
        refine fr_getr 97 3 dX7_rule_94 rfl fs_kX7_16 fs_l0 rfl ?_
        refine fr_aload_n 98 dX7_rule_97 rfl rfl ?_
        refine fr_geti 101 0 dX7_rule_98 rfl fs_kX7_104 rfl fs_l0 rfl ?_
        refine fr_top e0 ?_
        refine fr_iload_n 102 dX7_rule_101 rfl rfl ?_
        refine fr_iast 103 dX7_rule_102 rfl fs_l3 (by omega) ?_
        refine fr_aload_n 104 dX7_rule_103 rfl rfl ?_
        refine fr_getr 107 4 dX7_rule_104 rfl fs_kX7_19 fs_l0 rfl ?_
        refine fr_aload_n 108 dX7_rule_107 rfl rfl ?_
        refine fr_geti 111 0 dX7_rule_108 rfl fs_kX7_104 rfl fs_l0 rfl ?_
        refine fr_top (y := n) (by rw [fs_u_k _ _ (by decide)]; exact e0) ?_
        refine fr_iload_n 112 dX7_rule_111 rfl rfl ?_
        refine fr_iast 113 dX7_rule_112 rfl fs_l4 (by omega) ?_
        refine fr_aload_n 114 dX7_rule_113 rfl rfl ?_
        refine fr_dup 115 dX7_rule_114 rfl ?_
        refine fr_geti 118 0 dX7_rule_115 rfl fs_kX7_104 rfl fs_l0 rfl ?_
        refine fr_top (y := n) (by rw [fs_u_k _ _ (by decide), fs_u_k _ _ (by decide)]; exact e0) ?_
        refine fr_iconst 119 dX7_rule_118 rfl ?_
        refine fr_iadd 120 dX7_rule_119 rfl ?_
        refine fr_puti 123 0 dX7_rule_120 rfl fs_kX7_104 fs_pX7_0 rfl fs_l0 rfl ?_
        refine fr_aload_n 124 dX7_rule_123 rfl rfl ?_
        refine fr_callVv 127 (M2 := mX7_clearDraft) [] dX7_rule_124 rfl fs_mX7_93 fs_oX7_clearDraft fs_iX7_clearDraft fs_l0 rfl rfl (fs_Γ_rm (d := 2) (by decide)) (Nat.le_of_ble_eq_true rfl) rfl ?_
        refine cM_clearDraft.mono ?_
        rintro _ τ2 ⟨rfl, d1, d2⟩
        refine ⟨rfl, ?_⟩
        refine fr_aload_n 128 dX7_rule_127 rfl rfl ?_
        refine fr_callVv 131 (M2 := mX7_change) [] dX7_rule_128 rfl fs_mX7_131 fs_oX7_change fs_iX7_change fs_l0 rfl rfl (fs_Γ_rm (d := 0) (by decide)) (Nat.le_of_ble_eq_true rfl) rfl ?_
        refine cM_change.mono ?_
        rintro _ τ3 ⟨rfl, c1, c2⟩
        refine ⟨rfl, ?_⟩
        have e3 : τ3 0 0 = n + 1 := by rw [c2 _ _ (by decide), d2 _ _ (by decide), fs_u_eq]
        have fr3 : ∀ k i, ¬ ((k = 1 ∨ k = 2) ∧ 4 * n ≤ i) → ¬ (k = 0 ∧ (i = 0 ∨ 7 ≤ i ∧ i ≤ 10)) → ¬ ((k = 3 ∨ k = 4) ∧ i = n) → τ3 k i = σ k i := fun k i b1 b2 b3 => by
          rw [c2 _ _ (by omega), d2 _ _ (by omega), fs_u_ne _ (by omega), fs_u_ne _ (by omega), fs_u_ne _ (by omega)]
          exact hF k i (by omega)
        refine fr_aload_n 132 dX7_rule_131 rfl rfl ?_
        refine fr_geti 135 0 dX7_rule_132 rfl fs_kX7_104 rfl fs_l0 rfl ?_
        refine fr_top e3 ?_
        refine fr_iconst 136 dX7_rule_135 rfl ?_
        refine fr_isub 137 dX7_rule_136 rfl ?_
        refine fr_iret dX7_rule_137 rfl ?_
        refine ⟨congrArg some ?_, ?_, Or.inr c1, fun k i b1 => fr3 k i (by omega) (by omega) (by omega)⟩
        · unfold aRule; rw [if_pos hok, en, if_neg hn16]; omega
        · unfold sRule; rw [if_pos ⟨hok, by rw [en]; exact hn16⟩]
          refine ⟨⟨?_, fun r f b1 b2 b3 b4 => ?_, fun r b1 b2 => ?_⟩, fun f b1 b2 => ?_, ?_, fun k b1 b2 => ?_⟩
          · show τ3 0 0 = tn A.1 + 1
            rw [e3, en]
          · change r < tn A.1 + 1 at b2
            show τ3 1 (4 * r + f) = (if r = tn A.1 then A.2.1.1 f else tlo A.1 r f) ∧ τ3 2 (4 * r + f) = (if r = tn A.1 then A.2.1.2 f else thi A.1 r f)
            rw [en] at b2 ⊢
            by_cases e : r = n
            · rw [if_pos e, if_pos e, e, c2 _ _ (by omega), d2 _ _ (by omega), fs_u_ne _ (by omega), fs_u_ne _ (by omega), fs_u_ne _ (by omega), c2 _ _ (by omega), d2 _ _ (by omega), fs_u_ne _ (by omega), fs_u_ne _ (by omega), fs_u_ne _ (by omega)]
              exact hC f b3 (by omega)
            · rw [if_neg e, if_neg e, fr3 _ _ (by omega) (by omega) (by omega), fr3 _ _ (by omega) (by omega) (by omega)]
              exact a1.2.1 r f b1 (by omega) b3 b4
          · change r < tn A.1 + 1 at b2
            show τ3 3 r = (if r = tn A.1 then rk else trk A.1 r) ∧ τ3 4 r = (if r = tn A.1 then ac else tac A.1 r)
            rw [en] at b2 ⊢
            by_cases e : r = n
            · rw [if_pos e, if_pos e, e, c2 _ _ (by omega), d2 _ _ (by omega), fs_u_ne _ (by omega), fs_u_ne _ (by omega), fs_u_eq, c2 _ _ (by omega), d2 _ _ (by omega), fs_u_ne _ (by omega), fs_u_eq]
              exact ⟨rfl, rfl⟩
            · rw [if_neg e, if_neg e, fr3 _ _ (by omega) (by omega) (by omega), fr3 _ _ (by omega) (by omega) (by omega)]
              exact a1.2.2 r b1 (by omega)
          · rw [c2 _ _ (by omega), c2 _ _ (by omega)]; exact d1 f b1 b2
          · rw [fr3 _ _ (by omega) (by omega) (by omega), fr3 _ _ (by omega) (by omega) (by omega)]; exact a3
          · rw [fr3 _ _ (by omega) (by omega) (by omega)]
            refine ⟨(a4 k b1 b2).1, fun z => ?_⟩
            obtain ⟨q1, q2, q3, q4, q5⟩ := (a4 k b1 b2).2 z
            refine ⟨by rw [fr3 _ _ (by omega) (by omega) (by omega)]; exact q1, fun r f c d e g => ?_, fun r c d => ?_, by rw [fr3 _ _ (by omega) (by omega) (by omega)]; exact q4, by rw [fr3 _ _ (by omega) (by omega) (by omega)]; exact q5⟩
            · rw [fr3 _ _ (by omega) (by omega) (by omega), fr3 _ _ (by omega) (by omega) (by omega)]; exact q2 r f c d e g
            · rw [fr3 _ _ (by omega) (by omega) (by omega), fr3 _ _ (by omega) (by omega) (by omega)]; exact q3 r c d
      · refine fr_aload_n 44 dX7_rule_43 rfl rfl ?_
        refine fr_getr 47 1 dX7_rule_44 rfl fs_kX7_7 fs_l0 rfl ?_
        refine fr_iconst 48 dX7_rule_47 rfl ?_
        refine fr_aload_n 49 dX7_rule_48 rfl rfl ?_
        refine fr_geti 52 0 dX7_rule_49 rfl fs_kX7_104 rfl fs_l0 rfl ?_
        refine fr_top e0 ?_
        refine fr_imul 53 dX7_rule_52 rfl ?_
        refine fr_iload_n 54 dX7_rule_53 rfl rfl ?_
        refine fr_iadd 55 dX7_rule_54 rfl ?_
        refine fr_aload_n 56 dX7_rule_55 rfl rfl ?_
        refine fr_getr 59 1 dX7_rule_56 rfl fs_kX7_7 fs_l0 rfl ?_
        refine fr_bipush 61 dX7_rule_59 rfl (by decide) ?_
        refine fr_iload_n 62 dX7_rule_61 rfl rfl ?_
        refine fr_iadd 63 dX7_rule_62 rfl ?_
        refine fr_iald 64 dX7_rule_63 rfl fs_l1 (by omega) ?_
        refine fr_iast 65 dX7_rule_64 rfl fs_l1 (by omega) ?_
        refine fr_aload_n 66 dX7_rule_65 rfl rfl ?_
        refine fr_getr 69 2 dX7_rule_66 rfl fs_kX7_13 fs_l0 rfl ?_
        refine fr_iconst 70 dX7_rule_69 rfl ?_
        refine fr_aload_n 71 dX7_rule_70 rfl rfl ?_
        refine fr_geti 74 0 dX7_rule_71 rfl fs_kX7_104 rfl fs_l0 rfl ?_
        refine fr_top (y := n) (by rw [fs_u_k _ _ (by decide)]; exact e0) ?_
        refine fr_imul 75 dX7_rule_74 rfl ?_
        refine fr_iload_n 76 dX7_rule_75 rfl rfl ?_
        refine fr_iadd 77 dX7_rule_76 rfl ?_
        refine fr_aload_n 78 dX7_rule_77 rfl rfl ?_
        refine fr_getr 81 2 dX7_rule_78 rfl fs_kX7_13 fs_l0 rfl ?_
        refine fr_bipush 83 dX7_rule_81 rfl (by decide) ?_
        refine fr_iload_n 84 dX7_rule_83 rfl rfl ?_
        refine fr_iadd 85 dX7_rule_84 rfl ?_
        refine fr_iald 86 dX7_rule_85 rfl fs_l2 (by omega) ?_
        refine fr_iast 87 dX7_rule_86 rfl fs_l2 (by omega) ?_
        refine fr_iinc 90 [_, _, _, _] dX7_rule_87 rfl rfl rfl ?_
        refine fr_goto 38 dX7_rule_90 rfl ?_
        have q := a2 f h0 (by omega)
        refine ih (f + 1) _ hok hn16 (by omega) (by omega) (by omega) (fun k i h => ?_) (fun g a b => ?_)
        · rw [fs_u_ne _ (by omega), fs_u_ne _ (by omega)]; exact hF k i h
        · by_cases e : g = f
          · subst e
            refine ⟨?_, ?_⟩
            · rw [fs_u_k _ _ (by decide), fs_u_eq, hF 1 _ (by omega)]; exact q.1
            · rw [fs_u_eq, fs_u_k _ _ (by decide), hF 2 _ (by omega)]; exact q.2
          · rw [fs_u_k _ _ (by decide), fs_u_i _ (by omega), fs_u_i _ (by omega), fs_u_k _ _ (by decide)]; exact hC g a (by omega)
  refine fr_iload_n 1 dX7_rule_0 rfl rfl ?_
  refine fr_iconst 2 dX7_rule_1 rfl ?_
  refine fr_sipush 5 dX7_rule_2 rfl (by decide) ?_
  refine fr_callSi 8 (M2 := mX7_in) [_, _, _] dX7_rule_5 rfl fs_mX7_100 fs_oX7_in fs_sX7_in rfl (fs_Γ_rm (d := 0) (by decide)) (Nat.le_of_ble_eq_true rfl) rfl ?_
  refine (cM_in (by omega) (by omega) (by omega)).ci ?_
  refine fr_if_eq 21 11 dX7_rule_8 rfl rfl (by omega) (fun h8 => ?_) (fun h8 => ?_)
  · refine fr_bipush 23 dX7_rule_21 rfl (by decide) ?_
    refine fr_iret dX7_rule_23 rfl ?_
    have no : ¬ ((0 ≤ rk ∧ rk ≤ 999) ∧ 0 ≤ ac ∧ ac ≤ 9) := by omega
    have es : sRule A rk ac = A := if_neg (fun z => no z.1)
    exact ⟨congrArg some (by unfold aRule; rw [if_neg no]), by rw [es]; exact hI, Or.inl ⟨rfl, es⟩, fun _ _ _ => rfl⟩
  · refine fr_iload_n 12 dX7_rule_11 rfl rfl ?_
    refine fr_iconst 13 dX7_rule_12 rfl ?_
    refine fr_bipush 15 dX7_rule_13 rfl (by decide) ?_
    refine fr_callSi 18 (M2 := mX7_in) [_, _, _] dX7_rule_15 rfl fs_mX7_100 fs_oX7_in fs_sX7_in rfl (fs_Γ_rm (d := 0) (by decide)) (Nat.le_of_ble_eq_true rfl) rfl ?_
    refine (cM_in (by omega) (by omega) (by omega)).ci ?_
    refine fr_if_ne 24 21 dX7_rule_18 rfl rfl (by omega) (fun h18 => ?_) (fun h18 => ?_)
    · refine fr_aload_n 25 dX7_rule_24 rfl rfl ?_
      refine fr_geti 28 0 dX7_rule_25 rfl fs_kX7_104 rfl fs_l0 rfl ?_
      refine fr_bipush 30 dX7_rule_28 rfl (by decide) ?_
      refine fr_icmp_ne 36 33 dX7_rule_30 rfl rfl (by omega) (by omega) (fun h30 => ?_) (fun h30 => ?_)
      · refine fr_iconst 37 dX7_rule_36 rfl ?_
        refine fr_istore_n 38 [_, _, _, _] dX7_rule_37 rfl (Nat.le_of_ble_eq_true rfl) rfl ?_
        exact key 5 0 σ (by omega) (by omega) (by omega) (by omega) (by omega) (fun _ _ _ => rfl) (fun g a b => by omega)
      · refine fr_bipush 35 dX7_rule_33 rfl (by decide) ?_
        refine fr_iret dX7_rule_35 rfl ?_
        have es : sRule A rk ac = A := if_neg (fun z => z.2 (by omega))
        exact ⟨congrArg some (by unfold aRule; rw [if_pos (by omega), if_pos (by omega)]), by rw [es]; exact hI, Or.inl ⟨rfl, es⟩, fun _ _ _ => rfl⟩
    · refine fr_bipush 23 dX7_rule_21 rfl (by decide) ?_
      refine fr_iret dX7_rule_23 rfl ?_
      have no : ¬ ((0 ≤ rk ∧ rk ≤ 999) ∧ 0 ≤ ac ∧ ac ≤ 9) := by omega
      have es : sRule A rk ac = A := if_neg (fun z => no z.1)
      exact ⟨congrArg some (by unfold aRule; rw [if_neg no]), by rw [es]; exact hI, Or.inl ⟨rfl, es⟩, fun _ _ _ => rfl⟩
theorem tDrop_wf {t : rt} {r : Int} (hw : twf t) (h : 0 ≤ r ∧ r < tn t) : twf (tDrop t r) := by
  obtain ⟨a1, a2, a3⟩ := hw
  refine ⟨⟨?_, ?_⟩, fun x f b1 b2 b3 b4 => ?_, fun x b1 b2 => ?_⟩
  · show 0 ≤ tn t - 1; omega
  · show tn t - 1 ≤ 16; omega
  · change x < tn t - 1 at b2
    exact a2 (dx r x) f (by unfold dx; split <;> omega) (by unfold dx; split <;> omega) b3 b4
  · change x < tn t - 1 at b2
    exact a3 (dx r x) (by unfold dx; split <;> omega) (by unfold dx; split <;> omega)
theorem tRank_wf {t : rt} {r k : Int} (hw : twf t) (h : 0 ≤ k ∧ k ≤ 999) : twf (tRank t r k) := by
  obtain ⟨a1, a2, a3⟩ := hw
  refine ⟨a1, a2, fun x b1 b2 => ⟨?_, (a3 x b1 b2).2⟩⟩
  show 0 ≤ (if x = r then k else trk t x) ∧ (if x = r then k else trk t x) ≤ 999
  have := (a3 x b1 b2).1
  split <;> omega
/-- while rules are moved down, from r on, those below k are moved already -/
def dk (r k x : Int) : Int := if r ≤ x ∧ x < k then x + 1 else x
def Q_drop (A : ab) (r : Int) (σ : fs_S) : fs_Q := fun x τ => x = some (aDrop A r) ∧ IMc τ (sDrop A r) ∧ (τ = σ ∧ sDrop A r = A ∨ fl0 τ) ∧ frC σ τ
set_option maxRecDepth 100000 in
set_option maxHeartbeats 1500000 in
theorem cM_drop {σ : fs_S} {A : ab} {r : Int} (hI : IMc σ A) (hw : awf A) (hr : rg r) : fs_C mX7_drop 2 [.inr 0, .inl r] σ (Q_drop A r σ) := by
  refine fs_C.intro [some (.inr 0), some (.inl r), none, none] fs_oX7_drop (Nat.le_of_ble_eq_true rfl) rfl ?_
  obtain ⟨a1, a2, a3, a4⟩ := id hI
  have hn := hw.1.1
  have hm := a1.1
  obtain ⟨n, en⟩ : ∃ n, tn A.1 = n := ⟨_, rfl⟩
  rw [en] at hn hm
  have kF : ∀ (m : Nat) (k f : Int) (τ : fs_S), (0 ≤ r ∧ r < n) → r ≤ k → k < n - 1 → 0 ≤ f → f ≤ 4 → 4 - f < m → τ 0 0 = n - 1 → (∀ k i, k ≠ 1 → k ≠ 2 → k ≠ 3 → k ≠ 4 → ¬ (k = 0 ∧ i = 0) → τ k i = σ k i) → (∀ k i, (k = 1 ∨ k = 2) → 64 ≤ i → τ k i = σ k i) → (∀ x g, 0 ≤ x → x < n → 0 ≤ g → g < 4 → τ 1 (4 * x + g) = tlo A.1 (dk r (if g < f then k + 1 else k) x) g ∧ τ 2 (4 * x + g) = thi A.1 (dk r (if g < f then k + 1 else k) x) g) → (∀ x, 0 ≤ x → x < n → τ 3 x = trk A.1 (dk r k x) ∧ τ 4 x = tac A.1 (dk r k x)) →
      (∀ τ' y, τ' 0 0 = n - 1 → (∀ k i, k ≠ 1 → k ≠ 2 → k ≠ 3 → k ≠ 4 → ¬ (k = 0 ∧ i = 0) → τ' k i = σ k i) → (∀ k i, (k = 1 ∨ k = 2) → 64 ≤ i → τ' k i = σ k i) → (∀ x g, 0 ≤ x → x < n → 0 ≤ g → g < 4 → τ' 1 (4 * x + g) = tlo A.1 (dk r (k + 1) x) g ∧ τ' 2 (4 * x + g) = thi A.1 (dk r (k + 1) x) g) → (∀ x, 0 ≤ x → x < n → τ' 3 x = trk A.1 (dk r k x) ∧ τ' 4 x = tac A.1 (dk r k x)) → fs_W (fs_Γ 2 (Q_drop A r σ)) mX7_drop 87 [some (.inr 0), some (.inl r), some (.inl k), y] [] τ') →
      fs_W (fs_Γ 2 (Q_drop A r σ)) mX7_drop 32 [some (.inr 0), some (.inl r), some (.inl k), some (.inl f)] [] τ := by
    intro m
    induction m with
    | zero => intro k f τ hr h0 h1 h2 h3 h4; omega
    | succ m ih =>
      intro k f τ hrr h0 h1 h2 h3 h4 e0 hF hD hA hB kk
      refine fr_iload_n 33 dX7_drop_32 rfl rfl ?_
      refine fr_iconst 34 dX7_drop_33 rfl ?_
      refine fr_icmp_ge 87 37 dX7_drop_34 rfl rfl (by omega) (by omega) (fun h34 => ?_) (fun h34 => ?_)
      · exact kk _ _ e0 hF hD (fun x g b1 b2 b3 b4 => by have := hA x g b1 b2 b3 b4; rw [if_pos (by omega)] at this; exact this) hB
      · refine fr_aload_n 38 dX7_drop_37 rfl rfl ?_
        refine fr_getr 41 1 dX7_drop_38 rfl fs_kX7_7 fs_l0 rfl ?_
        refine fr_iconst 42 dX7_drop_41 rfl ?_
        refine fr_iload_n 43 dX7_drop_42 rfl rfl ?_
        refine fr_imul 44 dX7_drop_43 rfl ?_
        refine fr_iload_n 45 dX7_drop_44 rfl rfl ?_
        refine fr_iadd 46 dX7_drop_45 rfl ?_
        refine fr_aload_n 47 dX7_drop_46 rfl rfl ?_
        refine fr_getr 50 1 dX7_drop_47 rfl fs_kX7_7 fs_l0 rfl ?_
        refine fr_iconst 51 dX7_drop_50 rfl ?_
        refine fr_iload_n 52 dX7_drop_51 rfl rfl ?_
        refine fr_imul 53 dX7_drop_52 rfl ?_
        refine fr_iconst 54 dX7_drop_53 rfl ?_
        refine fr_iadd 55 dX7_drop_54 rfl ?_
        refine fr_iload_n 56 dX7_drop_55 rfl rfl ?_
        refine fr_iadd 57 dX7_drop_56 rfl ?_
        refine fr_iald 58 dX7_drop_57 rfl fs_l1 (by omega) ?_
        refine fr_iast 59 dX7_drop_58 rfl fs_l1 (by omega) ?_
        refine fr_aload_n 60 dX7_drop_59 rfl rfl ?_
        refine fr_getr 63 2 dX7_drop_60 rfl fs_kX7_13 fs_l0 rfl ?_
        refine fr_iconst 64 dX7_drop_63 rfl ?_
        refine fr_iload_n 65 dX7_drop_64 rfl rfl ?_
        refine fr_imul 66 dX7_drop_65 rfl ?_
        refine fr_iload_n 67 dX7_drop_66 rfl rfl ?_
        refine fr_iadd 68 dX7_drop_67 rfl ?_
        refine fr_aload_n 69 dX7_drop_68 rfl rfl ?_
        refine fr_getr 72 2 dX7_drop_69 rfl fs_kX7_13 fs_l0 rfl ?_
        refine fr_iconst 73 dX7_drop_72 rfl ?_
        refine fr_iload_n 74 dX7_drop_73 rfl rfl ?_
        refine fr_imul 75 dX7_drop_74 rfl ?_
        refine fr_iconst 76 dX7_drop_75 rfl ?_
        refine fr_iadd 77 dX7_drop_76 rfl ?_
        refine fr_iload_n 78 dX7_drop_77 rfl rfl ?_
        refine fr_iadd 79 dX7_drop_78 rfl ?_
        refine fr_iald 80 dX7_drop_79 rfl fs_l2 (by omega) ?_
        refine fr_iast 81 dX7_drop_80 rfl fs_l2 (by omega) ?_
        refine fr_iinc 84 [_, _, _, _] dX7_drop_81 rfl rfl rfl ?_
        refine fr_goto 32 dX7_drop_84 rfl ?_
        have q := hA (k + 1) f (by omega) (by omega) h2 (by omega)
        rw [if_neg (by omega), show dk r k (k + 1) = k + 1 by unfold dk; rw [if_neg (by omega)], show 4 * (k + 1) + f = 4 * k + 4 + f by omega] at q
        refine ih k (f + 1) _ hrr h0 h1 (by omega) (by omega) (by omega) (by rw [fs_u_k _ _ (by decide), fs_u_k _ _ (by decide)]; exact e0) (fun k i b1 b2 b3 b4 b5 => by rw [fs_u_k _ _ b2, fs_u_k _ _ b1]; exact hF k i b1 b2 b3 b4 b5) (fun k' i b1 b2 => by rw [fs_u_ne _ (by omega), fs_u_ne _ (by omega)]; exact hD k' i b1 b2) (fun x g b1 b2 b3 b4 => ?_) (fun x b1 b2 => by rw [fs_u_k _ _ (by decide), fs_u_k _ _ (by decide), fs_u_k _ _ (by decide), fs_u_k _ _ (by decide)]; exact hB x b1 b2) kk
        rw [fs_u_k (k' := 1) _ _ (by decide)]
        by_cases e : x = k ∧ g = f
        · obtain ⟨rfl, rfl⟩ := e
          rw [fs_u_eq, fs_u_eq, fs_u_k _ _ (by decide), if_pos (by omega), show dk r (x + 1) x = x + 1 by unfold dk; rw [if_pos (by omega)]]
          exact q
        · rw [fs_u_i _ (by omega), fs_u_i _ (by omega), fs_u_k _ _ (by decide)]
          have := hA x g b1 b2 b3 b4
          by_cases e2 : g = f
          · subst e2
            rw [if_neg (by omega), show dk r k x = dk r (k + 1) x by unfold dk; split <;> split <;> omega] at this
            rw [if_pos (by omega)]
            exact this
          · by_cases e3 : g < f
            · rw [if_pos e3] at this; rw [if_pos (by omega)]; exact this
            · rw [if_neg e3] at this; rw [if_neg (by omega)]; exact this
  have kK : ∀ (m : Nat) (k : Int) (τ : fs_S) (y : Option fs_V), (0 ≤ r ∧ r < n) → r ≤ k → k ≤ n - 1 → n - 1 - k < m → τ 0 0 = n - 1 → (∀ k i, k ≠ 1 → k ≠ 2 → k ≠ 3 → k ≠ 4 → ¬ (k = 0 ∧ i = 0) → τ k i = σ k i) → (∀ k i, (k = 1 ∨ k = 2) → 64 ≤ i → τ k i = σ k i) → (∀ x g, 0 ≤ x → x < n → 0 ≤ g → g < 4 → τ 1 (4 * x + g) = tlo A.1 (dk r k x) g ∧ τ 2 (4 * x + g) = thi A.1 (dk r k x) g) → (∀ x, 0 ≤ x → x < n → τ 3 x = trk A.1 (dk r k x) ∧ τ 4 x = tac A.1 (dk r k x)) →
      fs_W (fs_Γ 2 (Q_drop A r σ)) mX7_drop 22 [some (.inr 0), some (.inl r), some (.inl k), y] [] τ := by
    intro m
    induction m with
    | zero => intro k τ y hr h0 h1 h2; omega
    | succ m ih =>
      intro k τ y hrr h0 h1 h2 e0 hF hD hA hB
      refine fr_iload_n 23 dX7_drop_22 rfl rfl ?_
      refine fr_aload_n 24 dX7_drop_23 rfl rfl ?_
      refine fr_geti 27 0 dX7_drop_24 rfl fs_kX7_104 rfl fs_l0 rfl ?_
      refine fr_icmp_ge 121 30 dX7_drop_27 rfl rfl (by omega) (by omega) (fun h27 => ?_) (fun h27 => ?_)
      · refine fr_aload_n 122 dX7_drop_121 rfl rfl ?_
        refine fr_callVv 125 (M2 := mX7_change) [] dX7_drop_122 rfl fs_mX7_131 fs_oX7_change fs_iX7_change fs_l0 rfl rfl (fs_Γ_rm (d := 0) (by decide)) (Nat.le_of_ble_eq_true rfl) rfl ?_
        refine cM_change.mono ?_
        rintro _ τ3 ⟨rfl, c1, c2⟩
        refine ⟨rfl, ?_⟩
        have e3 : τ3 0 0 = n - 1 := by rw [c2 _ _ (by decide)]; exact e0
        refine fr_aload_n 126 dX7_drop_125 rfl rfl ?_
        refine fr_geti 129 0 dX7_drop_126 rfl fs_kX7_104 rfl fs_l0 rfl ?_
        refine fr_top e3 ?_
        refine fr_iret dX7_drop_129 rfl ?_
        have ek : k = n - 1 := by omega
        have ed : ∀ x, x < n - 1 → dk r k x = dx r x := fun x hx => by unfold dk dx; split <;> split <;> omega
        refine ⟨congrArg some ?_, ?_, Or.inr c1, fun k i b1 => by rw [c2 _ _ (by omega)]; exact hF k i (by omega) (by omega) (by omega) (by omega) (by omega)⟩
        · unfold aDrop; rw [en, if_pos hrr]
        · unfold sDrop; rw [en, if_pos hrr]
          refine ⟨⟨?_, fun x f b1 b2 b3 b4 => ?_, fun x b1 b2 => ?_⟩, fun f b1 b2 => ?_, ?_, fun k b1 b2 => ?_⟩
          · show τ3 0 0 = tn A.1 - 1
            rw [e3, en]
          · change x < tn A.1 - 1 at b2
            show τ3 1 (4 * x + f) = tlo A.1 (dx r x) f ∧ τ3 2 (4 * x + f) = thi A.1 (dx r x) f
            rw [en] at b2
            rw [c2 _ _ (by omega), c2 _ _ (by omega), ← ed x b2]
            exact hA x f b1 (by omega) b3 b4
          · change x < tn A.1 - 1 at b2
            show τ3 3 x = trk A.1 (dx r x) ∧ τ3 4 x = tac A.1 (dx r x)
            rw [en] at b2
            rw [c2 _ _ (by omega), c2 _ _ (by omega), ← ed x b2]
            exact hB x b1 (by omega)
          · rw [c2 _ _ (by omega), c2 _ _ (by omega), hD _ _ (by omega) (by omega), hD _ _ (by omega) (by omega)]; exact a2 f b1 b2
          · rw [c2 _ _ (by omega), c2 _ _ (by omega), hF _ _ (by omega) (by omega) (by omega) (by omega) (by omega), hF _ _ (by omega) (by omega) (by omega) (by omega) (by omega)]; exact a3
          · have f24 : ∀ i, τ3 24 i = σ 24 i := fun i => by rw [c2 _ _ (by omega)]; exact hF _ _ (by omega) (by omega) (by omega) (by omega) (by omega)
            have f25 : ∀ i, τ3 25 i = σ 25 i := fun i => by rw [c2 _ _ (by omega)]; exact hF _ _ (by omega) (by omega) (by omega) (by omega) (by omega)
            rw [f25]
            refine ⟨(a4 k b1 b2).1, fun z => ?_⟩
            obtain ⟨q1, q2, q3, q4, q5⟩ := (a4 k b1 b2).2 z
            refine ⟨by rw [f24]; exact q1, fun r f c d e g => ?_, fun r c d => ?_, by rw [f24]; exact q4, by rw [f24]; exact q5⟩
            · rw [f24, f24]; exact q2 r f c d e g
            · rw [f24, f24]; exact q3 r c d
      · refine fr_iconst 31 dX7_drop_30 rfl ?_
        refine fr_istore_n 32 [_, _, _, _] dX7_drop_31 rfl (Nat.le_of_ble_eq_true rfl) rfl ?_
        refine kF 5 k 0 _ hrr h0 (by omega) (by omega) (by omega) (by omega) e0 hF hD (fun x g b1 b2 b3 b4 => by rw [if_neg (by omega)]; exact hA x g b1 b2 b3 b4) hB (fun τ' y' e0' hF' hD' hA' hB' => ?_)
        refine fr_aload_n 88 dX7_drop_87 rfl rfl ?_
        refine fr_getr 91 3 dX7_drop_88 rfl fs_kX7_16 fs_l0 rfl ?_
        refine fr_iload_n 92 dX7_drop_91 rfl rfl ?_
        refine fr_aload_n 93 dX7_drop_92 rfl rfl ?_
        refine fr_getr 96 3 dX7_drop_93 rfl fs_kX7_16 fs_l0 rfl ?_
        refine fr_iload_n 97 dX7_drop_96 rfl rfl ?_
        refine fr_iconst 98 dX7_drop_97 rfl ?_
        refine fr_iadd 99 dX7_drop_98 rfl ?_
        refine fr_iald 100 dX7_drop_99 rfl fs_l3 (by omega) ?_
        refine fr_iast 101 dX7_drop_100 rfl fs_l3 (by omega) ?_
        refine fr_aload_n 102 dX7_drop_101 rfl rfl ?_
        refine fr_getr 105 4 dX7_drop_102 rfl fs_kX7_19 fs_l0 rfl ?_
        refine fr_iload_n 106 dX7_drop_105 rfl rfl ?_
        refine fr_aload_n 107 dX7_drop_106 rfl rfl ?_
        refine fr_getr 110 4 dX7_drop_107 rfl fs_kX7_19 fs_l0 rfl ?_
        refine fr_iload_n 111 dX7_drop_110 rfl rfl ?_
        refine fr_iconst 112 dX7_drop_111 rfl ?_
        refine fr_iadd 113 dX7_drop_112 rfl ?_
        refine fr_iald 114 dX7_drop_113 rfl fs_l4 (by omega) ?_
        refine fr_iast 115 dX7_drop_114 rfl fs_l4 (by omega) ?_
        refine fr_iinc 118 [_, _, _, _] dX7_drop_115 rfl rfl rfl ?_
        refine fr_goto 22 dX7_drop_118 rfl ?_
        have q := hB' (k + 1) (by omega) (by omega)
        rw [show dk r k (k + 1) = k + 1 by unfold dk; rw [if_neg (by omega)]] at q
        refine ih (k + 1) _ _ hrr (by omega) (by omega) (by omega) (by rw [fs_u_k _ _ (by decide), fs_u_k _ _ (by decide)]; exact e0') (fun k i b1 b2 b3 b4 b5 => by rw [fs_u_k _ _ b4, fs_u_k _ _ b3]; exact hF' k i b1 b2 b3 b4 b5) (fun k' i b1 b2 => by rw [fs_u_k _ _ (by omega), fs_u_k _ _ (by omega)]; exact hD' k' i b1 b2) (fun x g b1 b2 b3 b4 => by rw [fs_u_k _ _ (by decide), fs_u_k _ _ (by decide), fs_u_k _ _ (by decide), fs_u_k _ _ (by decide)]; exact hA' x g b1 b2 b3 b4) (fun x b1 b2 => ?_)
        rw [fs_u_k (k' := 3) _ _ (by decide)]
        by_cases e : x = k
        · subst e
          rw [fs_u_eq, fs_u_eq, fs_u_k _ _ (by decide), show dk r (x + 1) x = x + 1 by unfold dk; rw [if_pos (by omega)]]
          exact q
        · rw [fs_u_i _ e, fs_u_i _ e, fs_u_k _ _ (by decide), show dk r (k + 1) x = dk r k x by unfold dk; split <;> split <;> omega]
          exact hB' x b1 b2
  refine fr_aload_n 1 dX7_drop_0 rfl rfl ?_
  refine fr_iload_n 2 dX7_drop_1 rfl rfl ?_
  refine fr_callVi 5 (M2 := mX7_isRule) [_] dX7_drop_2 rfl fs_mX7_134 fs_oX7_isRule fs_iX7_isRule fs_l0 rfl rfl (fs_Γ_rm (d := 1) (by decide)) (Nat.le_of_ble_eq_true rfl) rfl ?_
  refine (cM_isRule hm hn hr).ci ?_
  refine fr_if_ne 10 8 dX7_drop_5 rfl rfl (by omega) (fun h5 => ?_) (fun h5 => ?_)
  · refine fr_aload_n 11 dX7_drop_10 rfl rfl ?_
    refine fr_dup 12 dX7_drop_11 rfl ?_
    refine fr_geti 15 0 dX7_drop_12 rfl fs_kX7_104 rfl fs_l0 rfl ?_
    refine fr_iconst 16 dX7_drop_15 rfl ?_
    refine fr_isub 17 dX7_drop_16 rfl ?_
    refine fr_puti 20 0 dX7_drop_17 rfl fs_kX7_104 fs_pX7_0 rfl fs_l0 rfl ?_
    refine fr_iload_n 21 dX7_drop_20 rfl rfl ?_
    refine fr_istore_n 22 [_, _, _, _] dX7_drop_21 rfl (Nat.le_of_ble_eq_true rfl) rfl ?_
    have e9 : ∀ x, dk r r x = x := fun x => by unfold dk; rw [if_neg (by omega)]
    refine kK (n.toNat + 1) r _ _ (by omega) (by omega) (by omega) (by omega) (by rw [fs_u_eq, hm]) (fun k i b1 b2 b3 b4 b5 => fs_u_ne _ b5) (fun k i b1 b2 => fs_u_ne _ (by omega)) (fun x g b1 b2 b3 b4 => ?_) (fun x b1 b2 => ?_)
    · rw [fs_u_k _ _ (by decide), fs_u_k _ _ (by decide), e9]; exact a1.2.1 x g b1 (by omega) b3 b4
    · rw [fs_u_k _ _ (by decide), fs_u_k _ _ (by decide), e9]; exact a1.2.2 x b1 (by omega)
  · refine fr_iconst 9 dX7_drop_8 rfl ?_
    refine fr_iret dX7_drop_9 rfl ?_
    have es : sDrop A r = A := if_neg (by omega)
    exact ⟨congrArg some (by unfold aDrop; rw [if_neg (by omega)]), by rw [es]; exact hI, Or.inl ⟨rfl, es⟩, fun _ _ _ => rfl⟩
set_option maxRecDepth 100000 in
set_option maxHeartbeats 1500000 in
theorem cM_rank {σ : fs_S} {A : ab} {r k : Int} (hI : IMc σ A) (hw : awf A) (hr : rg r) (hk : rg k) : fs_C mX7_rank 2 [.inr 0, .inl r, .inl k] σ (fun x τ => x = some (aRank A r k) ∧ IMc τ (sRank A r k) ∧ (τ = σ ∧ sRank A r k = A ∨ fl0 τ) ∧ frC σ τ) := by
  refine fs_C.intro [some (.inr 0), some (.inl r), some (.inl k)] fs_oX7_rank (Nat.le_of_ble_eq_true rfl) rfl ?_
  obtain ⟨a1, a2, a3, a4⟩ := id hI
  have hn := hw.1.1
  refine fr_aload_n 1 dX7_rank_0 rfl rfl ?_
  refine fr_iload_n 2 dX7_rank_1 rfl rfl ?_
  refine fr_callVi 5 (M2 := mX7_isRule) [_] dX7_rank_2 rfl fs_mX7_134 fs_oX7_isRule fs_iX7_isRule fs_l0 rfl rfl (fs_Γ_rm (d := 1) (by decide)) (Nat.le_of_ble_eq_true rfl) rfl ?_
  refine (cM_isRule a1.1 hn hr).ci ?_
  refine fr_if_ne 10 8 dX7_rank_5 rfl rfl (by omega) (fun h5 => ?_) (fun h5 => ?_)
  · refine fr_iload_n 11 dX7_rank_10 rfl rfl ?_
    refine fr_iconst 12 dX7_rank_11 rfl ?_
    refine fr_sipush 15 dX7_rank_12 rfl (by decide) ?_
    refine fr_callSi 18 (M2 := mX7_in) [_, _, _] dX7_rank_15 rfl fs_mX7_100 fs_oX7_in fs_sX7_in rfl (fs_Γ_rm (d := 0) (by decide)) (Nat.le_of_ble_eq_true rfl) rfl ?_
    refine (cM_in (by omega) (by omega) (by omega)).ci ?_
    refine fr_if_ne 24 21 dX7_rank_18 rfl rfl (by omega) (fun h18 => ?_) (fun h18 => ?_)
    · refine fr_aload_n 25 dX7_rank_24 rfl rfl ?_
      refine fr_getr 28 3 dX7_rank_25 rfl fs_kX7_16 fs_l0 rfl ?_
      refine fr_iload_n 29 dX7_rank_28 rfl rfl ?_
      refine fr_iload_n 30 dX7_rank_29 rfl rfl ?_
      refine fr_iast 31 dX7_rank_30 rfl fs_l3 (by omega) ?_
      refine fr_aload_n 32 dX7_rank_31 rfl rfl ?_
      refine fr_callVv 35 (M2 := mX7_change) [] dX7_rank_32 rfl fs_mX7_131 fs_oX7_change fs_iX7_change fs_l0 rfl rfl (fs_Γ_rm (d := 0) (by decide)) (Nat.le_of_ble_eq_true rfl) rfl ?_
      refine cM_change.mono ?_
      rintro _ τ ⟨rfl, c1, c2⟩
      refine ⟨rfl, ?_⟩
      have hrr : 0 ≤ r ∧ r < tn A.1 := by omega
      have hkk : 0 ≤ k ∧ k ≤ 999 := by omega
      have hR : RM τ (tRank A.1 r k) := by
        refine ⟨?_, fun x f b1 b2 b3 b4 => ?_, fun x b1 b2 => ?_⟩
        · rw [c2 _ _ (by omega), fs_u_k _ _ (by decide)]; exact a1.1
        · rw [c2 _ _ (by omega), c2 _ _ (by omega), fs_u_k _ _ (by decide), fs_u_k _ _ (by decide)]; exact a1.2.1 x f b1 b2 b3 b4
        · rw [c2 _ _ (by omega), c2 _ _ (by omega), fs_u_k (k' := 4) _ _ (by decide)]
          refine ⟨?_, (a1.2.2 x b1 b2).2⟩
          show _ = (if x = r then k else trk A.1 x)
          by_cases e : x = r
          · rw [if_pos e, e, fs_u_eq]
          · rw [if_neg e, fs_u_i _ e]; exact (a1.2.2 x b1 b2).1
      refine fr_aload_n 36 dX7_rank_35 rfl rfl ?_
      refine fr_iload_n 37 dX7_rank_36 rfl rfl ?_
      refine fr_callVi 40 (M2 := mX7_aheadOf) [_] dX7_rank_37 rfl fs_mX7_140 fs_oX7_aheadOf fs_iX7_aheadOf fs_l0 rfl rfl (fs_Γ_rm (d := 1) (by decide)) (Nat.le_of_ble_eq_true rfl) rfl ?_
      refine (cM_aheadOf (tRank_wf hw.1 hkk) hR hrr.1 hrr.2).ci ?_
      refine fr_iret dX7_rank_40 rfl ?_
      refine ⟨congrArg some (by unfold aRank; rw [if_pos hrr, if_pos hkk]), ?_, Or.inr c1, fun k i b1 => by rw [c2 _ _ (by omega), fs_u_k _ _ (by omega)]⟩
      unfold sRank; rw [if_pos ⟨hrr, hkk⟩]
      have f24 : ∀ k i, k ≠ 0 → k ≠ 3 → τ k i = σ k i := fun k i b1 b2 => by rw [c2 _ _ (by omega), fs_u_k _ _ b2]
      refine ⟨hR, fun f b1 b2 => ?_, ?_, fun k b1 b2 => ?_⟩
      · rw [f24 _ _ (by omega) (by omega), f24 _ _ (by omega) (by omega)]; exact a2 f b1 b2
      · rw [c2 _ _ (by omega), c2 _ _ (by omega), fs_u_k _ _ (by decide), fs_u_k _ _ (by decide)]; exact a3
      · rw [f24 _ _ (by omega) (by omega)]
        refine ⟨(a4 k b1 b2).1, fun z => ?_⟩
        obtain ⟨q1, q2, q3, q4, q5⟩ := (a4 k b1 b2).2 z
        refine ⟨by rw [f24 _ _ (by omega) (by omega)]; exact q1, fun r f c d e g => ?_, fun r c d => ?_, by rw [f24 _ _ (by omega) (by omega)]; exact q4, by rw [f24 _ _ (by omega) (by omega)]; exact q5⟩
        · rw [f24 _ _ (by omega) (by omega), f24 _ _ (by omega) (by omega)]; exact q2 r f c d e g
        · rw [f24 _ _ (by omega) (by omega), f24 _ _ (by omega) (by omega)]; exact q3 r c d
    · refine fr_bipush 23 dX7_rank_21 rfl (by decide) ?_
      refine fr_iret dX7_rank_23 rfl ?_
      have es : sRank A r k = A := if_neg (by omega)
      exact ⟨congrArg some (by unfold aRank; rw [if_pos (by omega), if_neg (by omega)]), by rw [es]; exact hI, Or.inl ⟨rfl, es⟩, fun _ _ _ => rfl⟩
  · refine fr_iconst 9 dX7_rank_8 rfl ?_
    refine fr_iret dX7_rank_9 rfl ?_
    have es : sRank A r k = A := if_neg (by omega)
    exact ⟨congrArg some (by unfold aRank; rw [if_neg (by omega)]), by rw [es]; exact hI, Or.inl ⟨rfl, es⟩, fun _ _ _ => rfl⟩
