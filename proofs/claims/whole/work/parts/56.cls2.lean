/-! ===== the class: rule, drop, rank, grow, image, restore ===== -/
set_option maxRecDepth 100000 in
set_option maxHeartbeats 3000000 in
theorem wK_rule {σ : fs_S} {A : ab} {rk ac : Int} (hI : IC σ A) (hw : awf A) (h1 : rg rk) (h2 : rg ac) : fs_C mX6_rule 3 [.inr 26, .inl rk, .inl ac] σ (Q_C σ (aRule A rk ac) (sRule A rk ac)) := by
  refine fs_C.intro [some (.inr 26), some (.inl rk), some (.inl ac)] fs_oX6_rule (Nat.le_of_ble_eq_true rfl) rfl ?_
  have hn := hw.1.1
  obtain ⟨⟨a1, a2, a3, a4, a5, a6⟩, b2, b3⟩ := id hI
  have c1 := @cK_isRank σ rk h1
  have c2 := @cK_isAction σ ac h2
  by_cases ok : (0 ≤ rk ∧ rk ≤ 999) ∧ 0 ≤ ac ∧ ac ≤ 9
  · rw [if_pos ok.1] at c1
    rw [if_pos ok.2] at c2
    by_cases h16 : tn A.1 = 16
    · have e27 : σ 27 0 = 16 := a1.1.trans h16
      refine fr_iload_n 1 dX6_rule_0 rfl rfl ?_
      refine fr_callSi 4 (M2 := mX6_isRank) [_] dX6_rule_1 rfl fs_mX6_78 fs_oX6_isRank fs_sX6_isRank rfl (fs_Γ_rm (d := 0) (by decide)) (Nat.le_of_ble_eq_true rfl) rfl ?_
      refine c1.ci ?_
      refine fr_if_eq 14 7 dX6_rule_4 rfl rfl (by omega) (fun h4 => ?_) (fun h4 => ?_)
      · exact absurd h4 (by decide)
      · refine fr_iload_n 8 dX6_rule_7 rfl rfl ?_
        refine fr_callSi 11 (M2 := mX6_isAction) [_] dX6_rule_8 rfl fs_mX6_81 fs_oX6_isAction fs_sX6_isAction rfl (fs_Γ_rm (d := 0) (by decide)) (Nat.le_of_ble_eq_true rfl) rfl ?_
        refine c2.ci ?_
        refine fr_if_ne 17 14 dX6_rule_11 rfl rfl (by omega) (fun h11 => ?_) (fun h11 => ?_)
        · refine fr_aload_n 18 dX6_rule_17 rfl rfl ?_
          refine fr_getr 21 27 dX6_rule_18 rfl fs_kX6_10 fs_l26 rfl ?_
          refine fr_geti 24 0 dX6_rule_21 rfl fs_kX6_84 rfl fs_l27 rfl ?_
          refine fr_top e27 ?_
          refine fr_bipush 26 dX6_rule_24 rfl (by decide) ?_
          refine fr_icmp_lt 32 29 dX6_rule_26 rfl rfl (by omega) (by omega) (fun h26 => ?_) (fun h26 => ?_)
          · omega
          · refine fr_bipush 31 dX6_rule_29 rfl (by decide) ?_
            refine fr_iret dX6_rule_31 rfl ?_
            exact ⟨congrArg some (by unfold aRule; rw [if_pos ok, if_pos h16]), by unfold sRule; rw [if_neg (fun z => z.2 h16)]; exact hI, fun _ _ _ => rfl⟩
        · exact absurd h11 (by decide)
    · have e27 := a1.1
      have wf := nRule_wf hw ok.1 ok.2 h16
      refine fr_iload_n 1 dX6_rule_0 rfl rfl ?_
      refine fr_callSi 4 (M2 := mX6_isRank) [_] dX6_rule_1 rfl fs_mX6_78 fs_oX6_isRank fs_sX6_isRank rfl (fs_Γ_rm (d := 0) (by decide)) (Nat.le_of_ble_eq_true rfl) rfl ?_
      refine c1.ci ?_
      refine fr_if_eq 14 7 dX6_rule_4 rfl rfl (by omega) (fun h4 => ?_) (fun h4 => ?_)
      · exact absurd h4 (by decide)
      · refine fr_iload_n 8 dX6_rule_7 rfl rfl ?_
        refine fr_callSi 11 (M2 := mX6_isAction) [_] dX6_rule_8 rfl fs_mX6_81 fs_oX6_isAction fs_sX6_isAction rfl (fs_Γ_rm (d := 0) (by decide)) (Nat.le_of_ble_eq_true rfl) rfl ?_
        refine c2.ci ?_
        refine fr_if_ne 17 14 dX6_rule_11 rfl rfl (by omega) (fun h11 => ?_) (fun h11 => ?_)
        · refine fr_aload_n 18 dX6_rule_17 rfl rfl ?_
          refine fr_getr 21 27 dX6_rule_18 rfl fs_kX6_10 fs_l26 rfl ?_
          refine fr_geti 24 0 dX6_rule_21 rfl fs_kX6_84 rfl fs_l27 rfl ?_
          refine fr_top e27 ?_
          refine fr_bipush 26 dX6_rule_24 rfl (by decide) ?_
          refine fr_icmp_lt 32 29 dX6_rule_26 rfl rfl (by omega) (by omega) (fun h26 => ?_) (fun h26 => ?_)
          · refine fr_aload_n 33 dX6_rule_32 rfl rfl ?_
            refine fr_getr 36 27 dX6_rule_33 rfl fs_kX6_10 fs_l26 rfl ?_
            refine fr_aload_n 37 dX6_rule_36 rfl rfl ?_
            refine fr_getr 40 80 dX6_rule_37 rfl fs_kX6_57 fs_l26 rfl ?_
            refine fr_aload_n 41 dX6_rule_40 rfl rfl ?_
            refine fr_getr 44 81 dX6_rule_41 rfl fs_kX6_61 fs_l26 rfl ?_
            refine fr_iload_n 45 dX6_rule_44 rfl rfl ?_
            refine fr_iload_n 46 dX6_rule_45 rfl rfl ?_
            refine fr_callVv 49 (M2 := mX3_add) [_, _, _, _] dX6_rule_46 rfl fs_mX6_88 fs_oX3_add fs_iX3_add fs_l27 rfl rfl (fs_Γ_rm (d := 0) (by decide)) (Nat.le_of_ble_eq_true rfl) rfl ?_
            refine (cK_add hw.1 a1 a4 (by omega)).mono ?_
            rintro _ τ ⟨rfl, g1, g2⟩
            refine ⟨rfl, ?_⟩
            refine fr_aload_n 50 dX6_rule_49 rfl rfl ?_
            refine fr_callVv 53 (M2 := mX6_clearDraft) [] dX6_rule_50 rfl fs_mX6_67 fs_oX6_clearDraft fs_iX6_clearDraft fs_l26 rfl rfl (fs_Γ_rm (d := 0) (by decide)) (Nat.le_of_ble_eq_true rfl) rfl ?_
            refine cK_clearDraft.mono ?_
            rintro _ ρ ⟨rfl, g3, g4⟩
            refine ⟨rfl, ?_⟩
            refine fr_aload_n 54 dX6_rule_53 rfl rfl ?_
            refine fr_callVv 57 (M2 := mX6_rulesChanged) [] dX6_rule_54 rfl fs_mX6_92 fs_oX6_rulesChanged fs_iX6_rulesChanged fs_l26 rfl rfl (fs_Γ_rm (d := 2) (by decide)) (Nat.le_of_ble_eq_true rfl) rfl ?_
            refine (cK_rulesChanged wf.1 (g1.eq (g4 _ _ (by decide) (by decide)) (fun k i z => g4 k i (by omega) (by omega)))).mono ?_
            rintro _ υ ⟨rfl, g5⟩
            have u27 : υ 27 0 = tn A.1 + 1 := g5.1.1
            have e : ∀ k i, k ≠ 80 → k ≠ 81 → ¬ (k = 27 ∧ i = 0) → ¬ (k = 30 ∨ k = 31 ∨ 34 ≤ k ∧ k < 42) → ρ k i = σ k i := fun k i z1 z2 z3 z4 => (g4 k i z1 z2).trans (g2 k i z3 (by omega))
            have ic : IC υ (nRule A rk ac) := IC.new (A := A) ⟨rfl, g5⟩ (fun f x y => g3 f x y) (by rw [e _ _ (by decide) (by decide) (by decide) (by decide), e _ _ (by decide) (by decide) (by decide) (by decide)]; exact a5) (fun k x y => (a6 k x y).eq (fun i => e _ _ (by omega) (by omega) (by omega) (by omega)) (fun j i z1 z2 => e j i (by omega) (by omega) (by omega) (by omega)))
            refine ⟨rfl, ?_⟩
            refine fr_aload_n 58 dX6_rule_57 rfl rfl ?_
            refine fr_getr 61 27 dX6_rule_58 rfl fs_kX6_10 fs_l26 rfl ?_
            refine fr_geti 64 0 dX6_rule_61 rfl fs_kX6_84 rfl fs_l27 rfl ?_
            refine fr_top u27 ?_
            refine fr_iconst 65 dX6_rule_64 rfl ?_
            refine fr_isub 66 dX6_rule_65 rfl ?_
            refine fr_iret dX6_rule_66 rfl ?_
            refine ⟨congrArg some (by unfold aRule; rw [if_pos ok, if_neg h16]; omega), by unfold sRule; rw [if_pos ⟨ok, h16⟩]; exact ic, fun k i z => ?_⟩
            rw [g5.2.2.2.2.2 k i (by omega) (by omega), e k i (by omega) (by omega) (by omega) (by omega)]
          · omega
        · exact absurd h11 (by decide)
  · have out : Q_C σ (aRule A rk ac) (sRule A rk ac) (some (-2)) σ := ⟨congrArg some (by unfold aRule; rw [if_neg ok]), by unfold sRule; rw [if_neg (fun z => ok z.1)]; exact hI, fun _ _ _ => rfl⟩
    refine fr_iload_n 1 dX6_rule_0 rfl rfl ?_
    refine fr_callSi 4 (M2 := mX6_isRank) [_] dX6_rule_1 rfl fs_mX6_78 fs_oX6_isRank fs_sX6_isRank rfl (fs_Γ_rm (d := 0) (by decide)) (Nat.le_of_ble_eq_true rfl) rfl ?_
    refine c1.ci ?_
    refine fr_if_eq 14 7 dX6_rule_4 rfl rfl (by split <;> decide) (fun h4 => ?_) (fun h4 => ?_)
    · refine fr_bipush 16 dX6_rule_14 rfl (by decide) ?_
      refine fr_iret dX6_rule_16 rfl ?_
      exact out
    · refine fr_iload_n 8 dX6_rule_7 rfl rfl ?_
      refine fr_callSi 11 (M2 := mX6_isAction) [_] dX6_rule_8 rfl fs_mX6_81 fs_oX6_isAction fs_sX6_isAction rfl (fs_Γ_rm (d := 0) (by decide)) (Nat.le_of_ble_eq_true rfl) rfl ?_
      refine c2.ci ?_
      refine fr_if_ne 17 14 dX6_rule_11 rfl rfl (by split <;> decide) (fun h11 => ?_) (fun h11 => ?_)
      · exact absurd ⟨(i01' _).1 h4, (i01' _).1 h11⟩ ok
      · refine fr_bipush 16 dX6_rule_14 rfl (by decide) ?_
        refine fr_iret dX6_rule_16 rfl ?_
        exact out
set_option maxRecDepth 100000 in
set_option maxHeartbeats 3000000 in
theorem wK_drop {σ : fs_S} {A : ab} {r : Int} (hI : IC σ A) (hw : awf A) (h1 : rg r) : fs_C mX6_drop 3 [.inr 26, .inl r] σ (Q_C σ (aDrop A r) (sDrop A r)) := by
  refine fs_C.intro [some (.inr 26), some (.inl r)] fs_oX6_drop (Nat.le_of_ble_eq_true rfl) rfl ?_
  have hn := hw.1.1
  obtain ⟨⟨a1, a2, a3, a4, a5, a6⟩, b2, b3⟩ := id hI
  have ch := @cK_has σ A.1 r hw.1 a1.1 h1
  by_cases ok : 0 ≤ r ∧ r < tn A.1
  · rw [if_pos ok] at ch
    refine fr_aload_n 1 dX6_drop_0 rfl rfl ?_
    refine fr_getr 4 27 dX6_drop_1 rfl fs_kX6_10 fs_l26 rfl ?_
    refine fr_iload_n 5 dX6_drop_4 rfl rfl ?_
    refine fr_callVi 8 (M2 := mX3_has) [_] dX6_drop_5 rfl fs_mX6_95 fs_oX3_has fs_iX3_has fs_l27 rfl rfl (fs_Γ_rm (d := 0) (by decide)) (Nat.le_of_ble_eq_true rfl) rfl ?_
    refine ch.ci ?_
    refine fr_if_ne 13 11 dX6_drop_8 rfl rfl (by omega) (fun h8 => ?_) (fun h8 => ?_)
    · refine fr_aload_n 14 dX6_drop_13 rfl rfl ?_
      refine fr_getr 17 27 dX6_drop_14 rfl fs_kX6_10 fs_l26 rfl ?_
      refine fr_iload_n 18 dX6_drop_17 rfl rfl ?_
      refine fr_callVv 21 (M2 := mX3_remove) [_] dX6_drop_18 rfl fs_mX6_98 fs_oX3_remove fs_iX3_remove fs_l27 rfl rfl (fs_Γ_rm (d := 1) (by decide)) (Nat.le_of_ble_eq_true rfl) rfl ?_
      refine (cK_remove hw.1 a1 ok).mono ?_
      rintro _ τ ⟨rfl, g1, g2⟩
      refine ⟨rfl, ?_⟩
      refine fr_aload_n 22 dX6_drop_21 rfl rfl ?_
      refine fr_callVv 25 (M2 := mX6_rulesChanged) [] dX6_drop_22 rfl fs_mX6_92 fs_oX6_rulesChanged fs_iX6_rulesChanged fs_l26 rfl rfl (fs_Γ_rm (d := 2) (by decide)) (Nat.le_of_ble_eq_true rfl) rfl ?_
      refine (cK_rulesChanged (tDrop_wf hw.1 ok) g1).mono ?_
      rintro _ υ ⟨rfl, g5⟩
      have u27 : υ 27 0 = tn A.1 - 1 := g5.1.1
      have e : ∀ k i, ¬ (k = 27 ∧ i = 0) → ¬ (k = 30 ∨ k = 31 ∨ 34 ≤ k ∧ k < 42) → τ k i = σ k i := fun k i z3 z4 => g2 k i z3 (by omega)
      have ic : IC υ (tDrop A.1 r, A.2) := IC.new (A := A) ⟨rfl, g5⟩ (fun f x y => by rw [e _ _ (by omega) (by decide), e _ _ (by omega) (by decide)]; exact a4 f x y) (by rw [e _ _ (by decide) (by decide), e _ _ (by decide) (by decide)]; exact a5) (fun k x y => (a6 k x y).eq (fun i => e _ _ (by omega) (by omega)) (fun j i z1 z2 => e j i (by omega) (by omega)))
      refine ⟨rfl, ?_⟩
      refine fr_aload_n 26 dX6_drop_25 rfl rfl ?_
      refine fr_getr 29 27 dX6_drop_26 rfl fs_kX6_10 fs_l26 rfl ?_
      refine fr_geti 32 0 dX6_drop_29 rfl fs_kX6_84 rfl fs_l27 rfl ?_
      refine fr_top u27 ?_
      refine fr_iret dX6_drop_32 rfl ?_
      refine ⟨congrArg some (by unfold aDrop; rw [if_pos ok]), by unfold sDrop; rw [if_pos ok]; exact ic, fun k i z => ?_⟩
      rw [g5.2.2.2.2.2 k i (by omega) (by omega), e k i (by omega) (by omega)]
    · exact absurd h8 (by decide)
  · rw [if_neg ok] at ch
    refine fr_aload_n 1 dX6_drop_0 rfl rfl ?_
    refine fr_getr 4 27 dX6_drop_1 rfl fs_kX6_10 fs_l26 rfl ?_
    refine fr_iload_n 5 dX6_drop_4 rfl rfl ?_
    refine fr_callVi 8 (M2 := mX3_has) [_] dX6_drop_5 rfl fs_mX6_95 fs_oX3_has fs_iX3_has fs_l27 rfl rfl (fs_Γ_rm (d := 0) (by decide)) (Nat.le_of_ble_eq_true rfl) rfl ?_
    refine ch.ci ?_
    refine fr_if_ne 13 11 dX6_drop_8 rfl rfl (by omega) (fun h8 => ?_) (fun h8 => ?_)
    · exact absurd rfl h8
    · refine fr_iconst 12 dX6_drop_11 rfl ?_
      refine fr_iret dX6_drop_12 rfl ?_
      exact ⟨congrArg some (by unfold aDrop; rw [if_neg ok]), by unfold sDrop; rw [if_neg ok]; exact hI, fun _ _ _ => rfl⟩
set_option maxRecDepth 100000 in
set_option maxHeartbeats 3000000 in
theorem wK_rank {σ : fs_S} {A : ab} {r q : Int} (hI : IC σ A) (hw : awf A) (h1 : rg r) (h2 : rg q) : fs_C mX6_rank 3 [.inr 26, .inl r, .inl q] σ (Q_C σ (aRank A r q) (sRank A r q)) := by
  refine fs_C.intro [some (.inr 26), some (.inl r), some (.inl q)] fs_oX6_rank (Nat.le_of_ble_eq_true rfl) rfl ?_
  have hn := hw.1.1
  obtain ⟨⟨a1, a2, a3, a4, a5, a6⟩, b2, b3⟩ := id hI
  have ch := @cK_has σ A.1 r hw.1 a1.1 h1
  have cr := @cK_isRank σ q h2
  by_cases ok : 0 ≤ r ∧ r < tn A.1
  · rw [if_pos ok] at ch
    by_cases ok2 : 0 ≤ q ∧ q ≤ 999
    · rw [if_pos ok2] at cr
      have rc : RC 27 (fs_u σ 30 r q) (tRank A.1 r q) := by
        refine ⟨(fs_u_k _ _ (by decide)).trans a1.1, fun x f c d e g => ?_, fun x c d => ?_⟩
        · rw [fs_u_k _ _ (by omega), fs_u_k _ _ (by omega)]; exact a1.2.1 x f c d e g
        · show fs_u σ 30 r q 30 x = (if x = r then q else trk A.1 x) ∧ fs_u σ 30 r q 31 x = tac A.1 x
          have z := a1.2.2 x c d
          rw [fs_u_k (k' := 31) _ _ (by decide)]
          by_cases y : x = r
          · rw [if_pos y, y, fs_u_eq]; rw [y] at z; exact ⟨rfl, z.2⟩
          · rw [if_neg y, fs_u_i _ y]; exact z
      refine fr_aload_n 1 dX6_rank_0 rfl rfl ?_
      refine fr_getr 4 27 dX6_rank_1 rfl fs_kX6_10 fs_l26 rfl ?_
      refine fr_iload_n 5 dX6_rank_4 rfl rfl ?_
      refine fr_callVi 8 (M2 := mX3_has) [_] dX6_rank_5 rfl fs_mX6_95 fs_oX3_has fs_iX3_has fs_l27 rfl rfl (fs_Γ_rm (d := 0) (by decide)) (Nat.le_of_ble_eq_true rfl) rfl ?_
      refine ch.ci ?_
      refine fr_if_ne 13 11 dX6_rank_8 rfl rfl (by omega) (fun h8 => ?_) (fun h8 => ?_)
      · refine fr_iload_n 14 dX6_rank_13 rfl rfl ?_
        refine fr_callSi 17 (M2 := mX6_isRank) [_] dX6_rank_14 rfl fs_mX6_78 fs_oX6_isRank fs_sX6_isRank rfl (fs_Γ_rm (d := 0) (by decide)) (Nat.le_of_ble_eq_true rfl) rfl ?_
        refine cr.ci ?_
        refine fr_if_ne 23 20 dX6_rank_17 rfl rfl (by omega) (fun h17 => ?_) (fun h17 => ?_)
        · refine fr_aload_n 24 dX6_rank_23 rfl rfl ?_
          refine fr_getr 27 27 dX6_rank_24 rfl fs_kX6_10 fs_l26 rfl ?_
          refine fr_getr 30 30 dX6_rank_27 rfl fs_kX6_102 fs_l27 rfl ?_
          refine fr_iload_n 31 dX6_rank_30 rfl rfl ?_
          refine fr_iload_n 32 dX6_rank_31 rfl rfl ?_
          refine fr_iast 33 dX6_rank_32 rfl fs_l30 (by omega) ?_
          refine fr_aload_n 34 dX6_rank_33 rfl rfl ?_
          refine fr_callVv 37 (M2 := mX6_rulesChanged) [] dX6_rank_34 rfl fs_mX6_92 fs_oX6_rulesChanged fs_iX6_rulesChanged fs_l26 rfl rfl (fs_Γ_rm (d := 2) (by decide)) (Nat.le_of_ble_eq_true rfl) rfl ?_
          refine (cK_rulesChanged (tRank_wf hw.1 ok2) rc).mono ?_
          rintro _ υ ⟨rfl, g5⟩
          have u33 : υ 33 r = tpl (tRank A.1 r q) r := g5.2.1.2 r ok.1 ok.2
          have e : ∀ k i, k ≠ 30 → fs_u σ 30 r q k i = σ k i := fun k i z3 => fs_u_k _ _ z3
          have ic : IC υ (tRank A.1 r q, A.2) := IC.new (A := A) ⟨rfl, g5⟩ (fun f x y => by rw [e _ _ (by omega), e _ _ (by omega)]; exact a4 f x y) (by rw [e _ _ (by decide), e _ _ (by decide)]; exact a5) (fun k x y => (a6 k x y).eq (fun i => e _ _ (by omega)) (fun j i z1 z2 => e j i (by omega)))
          refine ⟨rfl, ?_⟩
          refine fr_aload_n 38 dX6_rank_37 rfl rfl ?_
          refine fr_getr 41 27 dX6_rank_38 rfl fs_kX6_10 fs_l26 rfl ?_
          refine fr_getr 44 33 dX6_rank_41 rfl fs_kX6_105 fs_l27 rfl ?_
          refine fr_iload_n 45 dX6_rank_44 rfl rfl ?_
          refine fr_iald 46 dX6_rank_45 rfl fs_l33 (by omega) ?_
          refine fr_top u33 ?_
          refine fr_iret dX6_rank_46 rfl ?_
          refine ⟨congrArg some (by unfold aRank; rw [if_pos ok, if_pos ok2]), by unfold sRank; rw [if_pos ⟨ok, ok2⟩]; exact ic, fun k i z => ?_⟩
          rw [g5.2.2.2.2.2 k i (by omega) (by omega), e k i (by omega)]
        · exact absurd h17 (by decide)
      · exact absurd h8 (by decide)
    · rw [if_neg ok2] at cr
      refine fr_aload_n 1 dX6_rank_0 rfl rfl ?_
      refine fr_getr 4 27 dX6_rank_1 rfl fs_kX6_10 fs_l26 rfl ?_
      refine fr_iload_n 5 dX6_rank_4 rfl rfl ?_
      refine fr_callVi 8 (M2 := mX3_has) [_] dX6_rank_5 rfl fs_mX6_95 fs_oX3_has fs_iX3_has fs_l27 rfl rfl (fs_Γ_rm (d := 0) (by decide)) (Nat.le_of_ble_eq_true rfl) rfl ?_
      refine ch.ci ?_
      refine fr_if_ne 13 11 dX6_rank_8 rfl rfl (by omega) (fun h8 => ?_) (fun h8 => ?_)
      · refine fr_iload_n 14 dX6_rank_13 rfl rfl ?_
        refine fr_callSi 17 (M2 := mX6_isRank) [_] dX6_rank_14 rfl fs_mX6_78 fs_oX6_isRank fs_sX6_isRank rfl (fs_Γ_rm (d := 0) (by decide)) (Nat.le_of_ble_eq_true rfl) rfl ?_
        refine cr.ci ?_
        refine fr_if_ne 23 20 dX6_rank_17 rfl rfl (by omega) (fun h17 => ?_) (fun h17 => ?_)
        · exact absurd rfl h17
        · refine fr_bipush 22 dX6_rank_20 rfl (by decide) ?_
          refine fr_iret dX6_rank_22 rfl ?_
          exact ⟨congrArg some (by unfold aRank; rw [if_pos ok, if_neg ok2]), by unfold sRank; rw [if_neg (fun z => ok2 z.2)]; exact hI, fun _ _ _ => rfl⟩
      · exact absurd h8 (by decide)
  · rw [if_neg ok] at ch
    refine fr_aload_n 1 dX6_rank_0 rfl rfl ?_
    refine fr_getr 4 27 dX6_rank_1 rfl fs_kX6_10 fs_l26 rfl ?_
    refine fr_iload_n 5 dX6_rank_4 rfl rfl ?_
    refine fr_callVi 8 (M2 := mX3_has) [_] dX6_rank_5 rfl fs_mX6_95 fs_oX3_has fs_iX3_has fs_l27 rfl rfl (fs_Γ_rm (d := 0) (by decide)) (Nat.le_of_ble_eq_true rfl) rfl ?_
    refine ch.ci ?_
    refine fr_if_ne 13 11 dX6_rank_8 rfl rfl (by omega) (fun h8 => ?_) (fun h8 => ?_)
    · exact absurd rfl h8
    · refine fr_iconst 12 dX6_rank_11 rfl ?_
      refine fr_iret dX6_rank_12 rfl ?_
      exact ⟨congrArg some (by unfold aRank; rw [if_neg ok]), by unfold sRank; rw [if_neg (fun z => ok z.1)]; exact hI, fun _ _ _ => rfl⟩
theorem IC.bd {σ : fs_S} {A A' : ab} {i n : Int} (hI : IC σ A) (hi : i = 0 ∨ i = 1) (e1 : A'.1 = A.1) (e2 : A'.2.1 = A.2.1) (e3 : A'.2.2.2 = A.2.2.2) (h0 : A'.2.2.1.1 = if i = 0 then n else A.2.2.1.1) (h1 : A'.2.2.1.2 = if i = 1 then n else A.2.2.1.2) : IC (fs_u σ 74 i n) A' := by
  obtain ⟨⟨a1, a2, a3, a4, a5, a6⟩, b2, b3⟩ := hI
  have e : ∀ k j, k ≠ 74 → fs_u σ 74 i n k j = σ k j := fun k j z => fs_u_k _ _ z
  unfold IC ICc
  rw [e1, e2, e3, h0, h1]
  refine ⟨⟨a1.eq (e _ _ (by decide)) (fun k i z => e k i (by omega)), a2.eq (fun k i z => e k i (by omega)), a3.eq (fun k i z1 z2 => e k i (by omega)), fun g x y => ?_, ?_, fun k x y => (a6 k x y).eq (fun i => e _ _ (by omega)) (fun j i z1 z2 => e j i (by omega))⟩, ⟨by rw [e _ _ (by decide)]; exact b2.1, fun z => (b2.2 (by rw [e _ _ (by decide)] at z; exact z)).eq (fun k i z => e k i (by omega))⟩, ⟨by rw [e _ _ (by decide)]; exact b3.1, fun z => (b3.2 (by rw [e _ _ (by decide)] at z; exact z)).eq (e _ _ (by decide)) (fun k i z1 z2 => e k i (by omega))⟩⟩
  · rw [e _ _ (by decide), e _ _ (by decide)]; exact a4 g x y
  · rcases hi with rfl | rfl
    · rw [fs_u_eq, fs_u_i _ (by decide)]; exact ⟨rfl, a5.2⟩
    · rw [fs_u_eq, fs_u_i _ (by decide)]; exact ⟨a5.1, rfl⟩
set_option maxRecDepth 100000 in
set_option maxHeartbeats 3000000 in
theorem wK_grow {σ : fs_S} {A : ab} {w n : Int} (hI : IC σ A) (hw : awf A) (h1 : rg w) (h2 : rg n) : fs_C mX6_grow 0 [.inr 26, .inl w, .inl n] σ (Q_C σ (aGrow A w n) (sGrow A w n)) := by
  refine fs_C.intro [some (.inr 26), some (.inl w), some (.inl n), none] fs_oX6_grow (Nat.le_of_ble_eq_true rfl) rfl ?_
  have a5 := hI.1.2.2.2.2.1
  have no : ¬ ((0 ≤ w ∧ w ≤ 1) ∧ 1 ≤ n ∧ n ≤ (if w = 0 then 4 else 8)) → Q_C σ (aGrow A w n) (sGrow A w n) (some (-2)) σ := fun h => by
    unfold aGrow sGrow
    rw [if_neg h, if_neg h]
    exact ⟨rfl, hI, fun _ _ _ => rfl⟩
  have y0 : w = 0 → 1 ≤ n ∧ n ≤ 4 → Q_C σ (aGrow A w n) (sGrow A w n) (some A.2.2.1.1) (fs_u σ 74 0 n) := fun h h' => by
    have c : ((0 ≤ w ∧ w ≤ 1) ∧ 1 ≤ n ∧ n ≤ (if w = 0 then 4 else 8)) := ⟨by omega, by rw [if_pos h]; exact h'⟩
    unfold aGrow sGrow
    rw [if_pos c, if_pos c, if_pos h]
    exact ⟨rfl, hI.bd (Or.inl rfl) rfl rfl rfl (by rw [if_pos h, if_pos rfl]) (by show (if w = 1 then n else A.2.2.1.2) = _; rw [if_neg (by omega), if_neg (by decide)]), fun k i z => fs_u_k _ _ (by omega)⟩
  have y1 : w = 1 → 1 ≤ n ∧ n ≤ 8 → Q_C σ (aGrow A w n) (sGrow A w n) (some A.2.2.1.2) (fs_u σ 74 1 n) := fun h h' => by
    have c : ((0 ≤ w ∧ w ≤ 1) ∧ 1 ≤ n ∧ n ≤ (if w = 0 then 4 else 8)) := ⟨by omega, by rw [if_neg (by omega)]; exact h'⟩
    unfold aGrow sGrow
    rw [if_pos c, if_pos c, if_neg (by omega)]
    exact ⟨rfl, hI.bd (Or.inr rfl) rfl rfl rfl (by show (if w = 0 then n else A.2.2.1.1) = _; rw [if_neg (by omega), if_neg (by decide)]) (by show (if w = 1 then n else A.2.2.1.2) = _; rw [if_pos h, if_pos rfl]), fun k i z => fs_u_k _ _ (by omega)⟩
  refine fr_iload_n 1 dX6_grow_0 rfl rfl ?_
  refine fr_if_ne 32 4 dX6_grow_1 rfl rfl (by omega) (fun h1 => ?_) (fun h1 => ?_)
  · refine fr_iload_n 33 dX6_grow_32 rfl rfl ?_
    refine fr_iconst 34 dX6_grow_33 rfl ?_
    refine fr_icmp_ne 66 37 dX6_grow_34 rfl rfl (by omega) (by omega) (fun h34 => ?_) (fun h34 => ?_)
    · refine fr_bipush 68 dX6_grow_66 rfl (by decide) ?_
      refine fr_iret dX6_grow_68 rfl ?_
      refine no (fun z => ?_)
      obtain ⟨z1, z2, z3⟩ := z
      by_cases y : w = 0
      · rw [if_pos y] at z3; omega
      · rw [if_neg y] at z3; omega
    · refine fr_iload_n 38 dX6_grow_37 rfl rfl ?_
      refine fr_iconst 39 dX6_grow_38 rfl ?_
      refine fr_icmp_lt 66 42 dX6_grow_39 rfl rfl (by omega) (by omega) (fun h39 => ?_) (fun h39 => ?_)
      · refine fr_bipush 68 dX6_grow_66 rfl (by decide) ?_
        refine fr_iret dX6_grow_68 rfl ?_
        refine no (fun z => ?_)
        obtain ⟨z1, z2, z3⟩ := z
        by_cases y : w = 0
        · rw [if_pos y] at z3; omega
        · rw [if_neg y] at z3; omega
      · refine fr_iload_n 43 dX6_grow_42 rfl rfl ?_
        refine fr_bipush 45 dX6_grow_43 rfl (by decide) ?_
        refine fr_icmp_gt 66 48 dX6_grow_45 rfl rfl (by omega) (by omega) (fun h45 => ?_) (fun h45 => ?_)
        · refine fr_bipush 68 dX6_grow_66 rfl (by decide) ?_
          refine fr_iret dX6_grow_68 rfl ?_
          refine no (fun z => ?_)
          obtain ⟨z1, z2, z3⟩ := z
          by_cases y : w = 0
          · rw [if_pos y] at z3; omega
          · rw [if_neg y] at z3; omega
        · refine fr_aload_n 49 dX6_grow_48 rfl rfl ?_
          refine fr_getr 52 74 dX6_grow_49 rfl fs_kX6_46 fs_l26 rfl ?_
          refine fr_geti 55 1 dX6_grow_52 rfl fs_kX6_196 rfl fs_l74 rfl ?_
          refine fr_top a5.2 ?_
          refine fr_istore_n 56 [_, _, _, _] dX6_grow_55 rfl (Nat.le_of_ble_eq_true rfl) rfl ?_
          refine fr_aload_n 57 dX6_grow_56 rfl rfl ?_
          refine fr_getr 60 74 dX6_grow_57 rfl fs_kX6_46 fs_l26 rfl ?_
          refine fr_iload_n 61 dX6_grow_60 rfl rfl ?_
          refine fr_puti 64 1 dX6_grow_61 rfl fs_kX6_196 fs_pX0_1 rfl fs_l74 rfl ?_
          refine fr_iload_n 65 dX6_grow_64 rfl rfl ?_
          refine fr_iret dX6_grow_65 rfl ?_
          exact y1 (by omega) (by omega)
  · refine fr_iload_n 5 dX6_grow_4 rfl rfl ?_
    refine fr_iconst 6 dX6_grow_5 rfl ?_
    refine fr_icmp_lt 32 9 dX6_grow_6 rfl rfl (by omega) (by omega) (fun h6 => ?_) (fun h6 => ?_)
    · refine fr_iload_n 33 dX6_grow_32 rfl rfl ?_
      refine fr_iconst 34 dX6_grow_33 rfl ?_
      refine fr_icmp_ne 66 37 dX6_grow_34 rfl rfl (by omega) (by omega) (fun h34 => ?_) (fun h34 => ?_)
      · refine fr_bipush 68 dX6_grow_66 rfl (by decide) ?_
        refine fr_iret dX6_grow_68 rfl ?_
        refine no (fun z => ?_)
        obtain ⟨z1, z2, z3⟩ := z
        by_cases y : w = 0
        · rw [if_pos y] at z3; omega
        · rw [if_neg y] at z3; omega
      · refine fr_iload_n 38 dX6_grow_37 rfl rfl ?_
        refine fr_iconst 39 dX6_grow_38 rfl ?_
        refine fr_icmp_lt 66 42 dX6_grow_39 rfl rfl (by omega) (by omega) (fun h39 => ?_) (fun h39 => ?_)
        · refine fr_bipush 68 dX6_grow_66 rfl (by decide) ?_
          refine fr_iret dX6_grow_68 rfl ?_
          refine no (fun z => ?_)
          obtain ⟨z1, z2, z3⟩ := z
          by_cases y : w = 0
          · rw [if_pos y] at z3; omega
          · rw [if_neg y] at z3; omega
        · refine fr_iload_n 43 dX6_grow_42 rfl rfl ?_
          refine fr_bipush 45 dX6_grow_43 rfl (by decide) ?_
          refine fr_icmp_gt 66 48 dX6_grow_45 rfl rfl (by omega) (by omega) (fun h45 => ?_) (fun h45 => ?_)
          · refine fr_bipush 68 dX6_grow_66 rfl (by decide) ?_
            refine fr_iret dX6_grow_68 rfl ?_
            refine no (fun z => ?_)
            obtain ⟨z1, z2, z3⟩ := z
            by_cases y : w = 0
            · rw [if_pos y] at z3; omega
            · rw [if_neg y] at z3; omega
          · refine fr_aload_n 49 dX6_grow_48 rfl rfl ?_
            refine fr_getr 52 74 dX6_grow_49 rfl fs_kX6_46 fs_l26 rfl ?_
            refine fr_geti 55 1 dX6_grow_52 rfl fs_kX6_196 rfl fs_l74 rfl ?_
            refine fr_top a5.2 ?_
            refine fr_istore_n 56 [_, _, _, _] dX6_grow_55 rfl (Nat.le_of_ble_eq_true rfl) rfl ?_
            refine fr_aload_n 57 dX6_grow_56 rfl rfl ?_
            refine fr_getr 60 74 dX6_grow_57 rfl fs_kX6_46 fs_l26 rfl ?_
            refine fr_iload_n 61 dX6_grow_60 rfl rfl ?_
            refine fr_puti 64 1 dX6_grow_61 rfl fs_kX6_196 fs_pX0_1 rfl fs_l74 rfl ?_
            refine fr_iload_n 65 dX6_grow_64 rfl rfl ?_
            refine fr_iret dX6_grow_65 rfl ?_
            exact y1 (by omega) (by omega)
    · refine fr_iload_n 10 dX6_grow_9 rfl rfl ?_
      refine fr_iconst 11 dX6_grow_10 rfl ?_
      refine fr_icmp_gt 32 14 dX6_grow_11 rfl rfl (by omega) (by omega) (fun h11 => ?_) (fun h11 => ?_)
      · refine fr_iload_n 33 dX6_grow_32 rfl rfl ?_
        refine fr_iconst 34 dX6_grow_33 rfl ?_
        refine fr_icmp_ne 66 37 dX6_grow_34 rfl rfl (by omega) (by omega) (fun h34 => ?_) (fun h34 => ?_)
        · refine fr_bipush 68 dX6_grow_66 rfl (by decide) ?_
          refine fr_iret dX6_grow_68 rfl ?_
          refine no (fun z => ?_)
          obtain ⟨z1, z2, z3⟩ := z
          by_cases y : w = 0
          · rw [if_pos y] at z3; omega
          · rw [if_neg y] at z3; omega
        · refine fr_iload_n 38 dX6_grow_37 rfl rfl ?_
          refine fr_iconst 39 dX6_grow_38 rfl ?_
          refine fr_icmp_lt 66 42 dX6_grow_39 rfl rfl (by omega) (by omega) (fun h39 => ?_) (fun h39 => ?_)
          · refine fr_bipush 68 dX6_grow_66 rfl (by decide) ?_
            refine fr_iret dX6_grow_68 rfl ?_
            refine no (fun z => ?_)
            obtain ⟨z1, z2, z3⟩ := z
            by_cases y : w = 0
            · rw [if_pos y] at z3; omega
            · rw [if_neg y] at z3; omega
          · refine fr_iload_n 43 dX6_grow_42 rfl rfl ?_
            refine fr_bipush 45 dX6_grow_43 rfl (by decide) ?_
            refine fr_icmp_gt 66 48 dX6_grow_45 rfl rfl (by omega) (by omega) (fun h45 => ?_) (fun h45 => ?_)
            · refine fr_bipush 68 dX6_grow_66 rfl (by decide) ?_
              refine fr_iret dX6_grow_68 rfl ?_
              refine no (fun z => ?_)
              obtain ⟨z1, z2, z3⟩ := z
              by_cases y : w = 0
              · rw [if_pos y] at z3; omega
              · rw [if_neg y] at z3; omega
            · refine fr_aload_n 49 dX6_grow_48 rfl rfl ?_
              refine fr_getr 52 74 dX6_grow_49 rfl fs_kX6_46 fs_l26 rfl ?_
              refine fr_geti 55 1 dX6_grow_52 rfl fs_kX6_196 rfl fs_l74 rfl ?_
              refine fr_top a5.2 ?_
              refine fr_istore_n 56 [_, _, _, _] dX6_grow_55 rfl (Nat.le_of_ble_eq_true rfl) rfl ?_
              refine fr_aload_n 57 dX6_grow_56 rfl rfl ?_
              refine fr_getr 60 74 dX6_grow_57 rfl fs_kX6_46 fs_l26 rfl ?_
              refine fr_iload_n 61 dX6_grow_60 rfl rfl ?_
              refine fr_puti 64 1 dX6_grow_61 rfl fs_kX6_196 fs_pX0_1 rfl fs_l74 rfl ?_
              refine fr_iload_n 65 dX6_grow_64 rfl rfl ?_
              refine fr_iret dX6_grow_65 rfl ?_
              exact y1 (by omega) (by omega)
      · refine fr_aload_n 15 dX6_grow_14 rfl rfl ?_
        refine fr_getr 18 74 dX6_grow_15 rfl fs_kX6_46 fs_l26 rfl ?_
        refine fr_geti 21 0 dX6_grow_18 rfl fs_kX6_193 rfl fs_l74 rfl ?_
        refine fr_top a5.1 ?_
        refine fr_istore_n 22 [_, _, _, _] dX6_grow_21 rfl (Nat.le_of_ble_eq_true rfl) rfl ?_
        refine fr_aload_n 23 dX6_grow_22 rfl rfl ?_
        refine fr_getr 26 74 dX6_grow_23 rfl fs_kX6_46 fs_l26 rfl ?_
        refine fr_iload_n 27 dX6_grow_26 rfl rfl ?_
        refine fr_puti 30 0 dX6_grow_27 rfl fs_kX6_193 fs_pX0_0 rfl fs_l74 rfl ?_
        refine fr_iload_n 31 dX6_grow_30 rfl rfl ?_
        refine fr_iret dX6_grow_31 rfl ?_
        exact y0 (by omega) (by omega)
