/-! ===== the class stands for A ===== -/
def II (σ : fs_S) (k : Int) (I : Int × rt × Int × Int) : Prop := σ (78 + k) 0 = I.1 ∧ (I.1 = 1 → RC (83 + 15 * k) σ I.2.1 ∧ σ (78 + k) 1 = I.2.2.1 ∧ σ (78 + k) 2 = I.2.2.2)
theorem II.eq {σ τ : fs_S} {k : Int} {I : Int × rt × Int × Int} (h : II σ k I) (e1 : ∀ i, τ (78 + k) i = σ (78 + k) i) (e2 : ∀ j i, 83 + 15 * k ≤ j → j < 98 + 15 * k → τ j i = σ j i) : II τ k I := by
  refine ⟨(e1 0).trans h.1, fun z => ?_⟩
  obtain ⟨a, b, c⟩ := h.2 z
  exact ⟨a.eq (e2 _ _ (by omega) (by omega)) (fun j i y => e2 j i (by omega) (by omega)), (e1 1).trans b, (e1 2).trans c⟩
def ICc (σ : fs_S) (A : ab) : Prop := RC 27 σ A.1 ∧ OC σ A.1 ∧ PV σ A.1 ∧ (∀ f, 0 ≤ f → f < 4 → σ 80 f = A.2.1.1 f ∧ σ 81 f = A.2.1.2 f) ∧ (σ 74 0 = A.2.2.1.1 ∧ σ 74 1 = A.2.2.1.2) ∧ (∀ k, 0 ≤ k → k < 2 → II σ k (A.2.2.2 k))
def IC (σ : fs_S) (A : ab) : Prop := ICc σ A ∧ ((σ 48 0 = 0 ∨ σ 48 0 = 1) ∧ (σ 48 0 = 0 → AS σ A.1 (S4 A.1))) ∧ ((σ 62 0 = 0 ∨ σ 62 0 = 1) ∧ (σ 62 0 = 0 → TVc σ A.1))
theorem ICc.eq {σ τ : fs_S} {A : ab} (h : ICc σ A) (e : ∀ k i, 26 ≤ k → ¬ (48 ≤ k ∧ k < 74) → ¬ (k = 74 ∧ 2 ≤ i) → ¬ (k = 75 ∨ k = 76 ∨ k = 82) → τ k i = σ k i) : ICc τ A := by
  obtain ⟨a1, a2, a3, a4, a5, a6⟩ := h
  refine ⟨a1.eq (e _ _ (by decide) (by decide) (by decide) (by decide)) (fun k i z => e k i (by omega) (by omega) (by omega) (by omega)), a2.eq (fun k i z => e k i (by omega) (by omega) (by omega) (by omega)), a3.eq (fun k i z1 z2 => e k i (by omega) (by omega) (by omega) (by omega)), fun f x y => ?_, ?_, fun k x y => (a6 k x y).eq (fun i => e _ _ (by omega) (by omega) (by omega) (by omega)) (fun j i z1 z2 => e j i (by omega) (by omega) (by omega) (by omega))⟩
  · rw [e _ _ (by decide) (by decide) (by omega) (by decide), e _ _ (by decide) (by decide) (by omega) (by decide)]; exact a4 f x y
  · rw [e _ _ (by decide) (by decide) (by decide) (by decide), e _ _ (by decide) (by decide) (by decide) (by decide)]; exact a5
theorem TVc.eq {σ τ : fs_S} {t : rt} (h : TVc σ t) (e0 : τ 62 1 = σ 62 1) (e : ∀ k i, 63 ≤ k → k ≤ 67 → τ k i = σ k i) : TVc τ t := TS.eq h e0 e
theorem IC.eq {σ τ : fs_S} {A : ab} (h : IC σ A) (e : ∀ k i, 26 ≤ k → ¬ (51 ≤ k ∧ k < 62) → ¬ (k = 62 ∧ 2 ≤ i) → ¬ (68 ≤ k ∧ k < 74) → ¬ (k = 74 ∧ 2 ≤ i) → ¬ (k = 75 ∨ k = 76 ∨ k = 82) → τ k i = σ k i) : IC τ A := by
  obtain ⟨a1, a2, a3⟩ := h
  have g0 : τ 48 0 = σ 48 0 := e _ _ (by decide) (by decide) (by decide) (by decide) (by decide) (by decide)
  have g1 : τ 62 0 = σ 62 0 := e _ _ (by decide) (by decide) (by decide) (by decide) (by decide) (by decide)
  refine ⟨a1.eq (fun k i b1 b2 b3 b4 => e k i b1 (by omega) (by omega) (by omega) (by omega) (by omega)), ⟨by rw [g0]; exact a2.1, fun z => (a2.2 (by omega)).eq (fun k i z => e k i (by omega) (by omega) (by omega) (by omega) (by omega) (by omega))⟩, ⟨by rw [g1]; exact a3.1, fun z => (a3.2 (by omega)).eq (e _ _ (by decide) (by decide) (by decide) (by decide) (by decide) (by decide)) (fun k i z1 z2 => e k i (by omega) (by omega) (by omega) (by omega) (by omega) (by omega))⟩⟩
theorem IC.sv {σ τ : fs_S} {A : ab} (h : IC σ A) (hA : AS τ A.1 (S4 A.1)) (h0 : τ 48 0 = 0) (hF : frV σ τ) : IC τ A := by
  obtain ⟨a1, a2, a3⟩ := h
  have g1 : τ 62 0 = σ 62 0 := hF _ _ (by decide) (by decide)
  exact ⟨a1.eq (fun k i b1 b2 b3 b4 => hF k i (by omega) (by omega)), ⟨Or.inl h0, fun _ => hA⟩, ⟨by rw [g1]; exact a3.1, fun z => (a3.2 (by omega)).eq (hF _ _ (by decide) (by decide)) (fun k i z1 z2 => hF k i (by omega) (by omega))⟩⟩
theorem IC.tv {σ τ : fs_S} {A : ab} (h : IC σ A) (hA : TVc τ A.1) (h0 : τ 62 0 = 0) (hF : frW σ τ) : IC τ A := by
  obtain ⟨a1, a2, a3⟩ := h
  have g0 : τ 48 0 = σ 48 0 := hF _ _ (by decide) (by decide) (by decide)
  exact ⟨a1.eq (fun k i b1 b2 b3 b4 => hF k i (by omega) (by omega) (by omega)), ⟨by rw [g0]; exact a2.1, fun z => (a2.2 (by omega)).eq (fun k i z => hF k i (by omega) (by omega) (by omega))⟩, ⟨Or.inl h0, fun _ => hA⟩⟩
def Q_C (σ : fs_S) (v : Int) (A : ab) : fs_Q := fun x τ => x = some v ∧ IC τ A ∧ ∀ k i, k < 26 → τ k i = σ k i
def Q_rc (t : rt) (σ : fs_S) : fs_Q := fun x τ => x = none ∧ RC 27 τ t ∧ OC τ t ∧ PV τ t ∧ τ 48 0 = 1 ∧ τ 62 0 = 1 ∧ ∀ k i, ¬ (k = 32 ∨ k = 33 ∨ 44 ≤ k ∧ k < 48) → ¬ ((k = 48 ∨ k = 62) ∧ i = 0) → τ k i = σ k i
set_option maxRecDepth 100000 in
set_option maxHeartbeats 3000000 in
theorem cK_rulesChanged {σ : fs_S} {t : rt} (hw : twf t) (hR : RC 27 σ t) : fs_C mX6_rulesChanged 2 [.inr 26] σ (Q_rc t σ) := by
  refine fs_C.intro [some (.inr 26)] fs_oX6_rulesChanged (Nat.le_of_ble_eq_true rfl) rfl ?_
  refine fr_aload_n 1 dX6_rulesChanged_0 rfl rfl ?_
  refine fr_getr 4 27 dX6_rulesChanged_1 rfl fs_kX6_10 fs_l26 rfl ?_
  refine fr_callVv 7 (M2 := mX3_sort) [] dX6_rulesChanged_4 rfl fs_mX6_266 fs_oX3_sort fs_iX3_sort fs_l27 rfl rfl (fs_Γ_rm (d := 1) (by decide)) (Nat.le_of_ble_eq_true rfl) rfl ?_
  refine (cK_sort hw hR).mono ?_
  rintro _ τ ⟨rfl, h1, h2⟩
  have r1 : RC 27 τ t := hR.eq (h2 _ _ (by decide) (by decide)) (fun k i z => h2 k i (by omega) (by omega))
  refine ⟨rfl, ?_⟩
  refine fr_aload_n 8 dX6_rulesChanged_7 rfl rfl ?_
  refine fr_getr 11 42 dX6_rulesChanged_8 rfl fs_kX6_21 fs_l26 rfl ?_
  refine fr_callVv 14 (M2 := mX2_build) [] dX6_rulesChanged_11 rfl fs_mX6_269 fs_oX2_build fs_iX2_build fs_l42 rfl rfl (fs_Γ_rm (d := 1) (by decide)) (Nat.le_of_ble_eq_true rfl) rfl ?_
  refine (cK_build hw r1 h1).mono ?_
  rintro _ ρ ⟨rfl, h3, h4⟩
  refine ⟨rfl, ?_⟩
  refine fr_aload_n 15 dX6_rulesChanged_14 rfl rfl ?_
  refine fr_getr 18 48 dX6_rulesChanged_15 rfl fs_kX6_30 fs_l26 rfl ?_
  refine fr_iconst 19 dX6_rulesChanged_18 rfl ?_
  refine fr_putz 22 0 dX6_rulesChanged_19 rfl fs_kX6_272 fs_pX4_0 rfl fs_l48 rfl (by decide) ?_
  refine fr_aload_n 23 dX6_rulesChanged_22 rfl rfl ?_
  refine fr_getr 26 62 dX6_rulesChanged_23 rfl fs_kX6_37 fs_l26 rfl ?_
  refine fr_iconst 27 dX6_rulesChanged_26 rfl ?_
  refine fr_putz 30 0 dX6_rulesChanged_27 rfl fs_kX6_275 fs_pX5_0 rfl fs_l62 rfl (by decide) ?_
  refine fr_vret dX6_rulesChanged_30 rfl ?_
  have e : ∀ k i, ¬ ((k = 48 ∨ k = 62) ∧ i = 0) → fs_u (fs_u ρ 48 0 1) 62 0 1 k i = ρ k i := fun k i z => by rw [fs_u_ne _ (by omega), fs_u_ne _ (by omega)]
  exact ⟨rfl, r1.eq ((e _ _ (by decide)).trans (h4 _ _ (by decide))) (fun k i z => (e k i (by omega)).trans (h4 k i (by omega))), h1.eq (fun k i z => (e k i (by omega)).trans (h4 k i (by omega))), h3.eq (fun k i z1 z2 => e k i (by omega)), by rw [fs_u_k _ _ (by decide), fs_u_eq], fs_u_eq _ _ _ _, fun k i z1 z2 => (e k i z2).trans ((h4 k i (by omega)).trans (h2 k i (by omega) (by omega)))⟩
/-- behind a change of the rules -/
theorem IC.new {σ τ : fs_S} {A A' : ab} (h : Q_rc A'.1 σ none τ) (hD : ∀ f, 0 ≤ f → f < 4 → σ 80 f = A'.2.1.1 f ∧ σ 81 f = A'.2.1.2 f) (hB : σ 74 0 = A'.2.2.1.1 ∧ σ 74 1 = A'.2.2.1.2) (hI : ∀ k, 0 ≤ k → k < 2 → II σ k (A'.2.2.2 k)) : IC τ A' := by
  obtain ⟨-, h1, h2, h3, h4, h5, h6⟩ := h
  refine ⟨⟨h1, h2, h3, fun f a b => ?_, ?_, fun k a b => (hI k a b).eq (fun i => h6 _ _ (by omega) (by omega)) (fun j i z1 z2 => h6 j i (by omega) (by omega))⟩, ⟨Or.inr h4, fun z => by omega⟩, ⟨Or.inr h5, fun z => by omega⟩⟩
  · rw [h6 _ _ (by decide) (by omega), h6 _ _ (by decide) (by omega)]; exact hD f a b
  · rw [h6 _ _ (by decide) (by decide), h6 _ _ (by decide) (by decide)]; exact hB
set_option maxRecDepth 100000 in
set_option maxHeartbeats 3000000 in
theorem wK_draft {σ : fs_S} {A : ab} {f lo hi : Int} (hI : IC σ A) (hw : awf A) (h1 : rg f) (h2 : rg lo) (h3 : rg hi) : fs_C mX6_draft 1 [.inr 26, .inl f, .inl lo, .inl hi] σ (Q_C σ (aDraft f lo hi) (sDraft A f lo hi)) := by
  refine fs_C.intro [some (.inr 26), some (.inl f), some (.inl lo), some (.inl hi)] fs_oX6_draft (Nat.le_of_ble_eq_true rfl) rfl ?_
  have gf := gr_r f
  by_cases hf : 0 ≤ f ∧ f < 4
  · have cf := @cK_isField σ f h1
    rw [if_pos hf] at cf
    by_cases ok : (0 ≤ lo ∧ lo ≤ gr f) ∧ (0 ≤ hi ∧ hi ≤ gr f) ∧ lo ≤ hi
    · have c1 := @cK_isNumber σ f lo hf h2
      have c2 := @cK_isNumber σ f hi hf h3
      rw [if_pos ok.1] at c1
      rw [if_pos ok.2.1] at c2
      refine fr_iload_n 1 dX6_draft_0 rfl rfl ?_
      refine fr_callSi 4 (M2 := mX6_isField) [_] dX6_draft_1 rfl fs_mX6_70 fs_oX6_isField fs_sX6_isField rfl (fs_Γ_rm (d := 0) (by decide)) (Nat.le_of_ble_eq_true rfl) rfl ?_
      refine cf.ci ?_
      refine fr_if_ne 9 7 dX6_draft_4 rfl rfl (by omega) (fun h4 => ?_) (fun h4 => ?_)
      · refine fr_iload_n 10 dX6_draft_9 rfl rfl ?_
        refine fr_iload_n 11 dX6_draft_10 rfl rfl ?_
        refine fr_callSi 14 (M2 := mX6_isNumber) [_, _] dX6_draft_11 rfl fs_mX6_74 fs_oX6_isNumber fs_sX6_isNumber rfl (fs_Γ_rm (d := 0) (by decide)) (Nat.le_of_ble_eq_true rfl) rfl ?_
        refine c1.ci ?_
        refine fr_if_eq 30 17 dX6_draft_14 rfl rfl (by omega) (fun h14 => ?_) (fun h14 => ?_)
        · exact absurd h14 (by decide)
        · refine fr_iload_n 18 dX6_draft_17 rfl rfl ?_
          refine fr_iload_n 19 dX6_draft_18 rfl rfl ?_
          refine fr_callSi 22 (M2 := mX6_isNumber) [_, _] dX6_draft_19 rfl fs_mX6_74 fs_oX6_isNumber fs_sX6_isNumber rfl (fs_Γ_rm (d := 0) (by decide)) (Nat.le_of_ble_eq_true rfl) rfl ?_
          refine c2.ci ?_
          refine fr_if_eq 30 25 dX6_draft_22 rfl rfl (by omega) (fun h22 => ?_) (fun h22 => ?_)
          · exact absurd h22 (by decide)
          · refine fr_iload_n 26 dX6_draft_25 rfl rfl ?_
            refine fr_iload_n 27 dX6_draft_26 rfl rfl ?_
            refine fr_icmp_le 33 30 dX6_draft_27 rfl rfl (by omega) (by omega) (fun h27 => ?_) (fun h27 => ?_)
            · refine fr_aload_n 34 dX6_draft_33 rfl rfl ?_
              refine fr_getr 37 80 dX6_draft_34 rfl fs_kX6_57 fs_l26 rfl ?_
              refine fr_iload_n 38 dX6_draft_37 rfl rfl ?_
              refine fr_iload_n 39 dX6_draft_38 rfl rfl ?_
              refine fr_iast 40 dX6_draft_39 rfl fs_l80 (by omega) ?_
              refine fr_aload_n 41 dX6_draft_40 rfl rfl ?_
              refine fr_getr 44 81 dX6_draft_41 rfl fs_kX6_61 fs_l26 rfl ?_
              refine fr_iload_n 45 dX6_draft_44 rfl rfl ?_
              refine fr_iload_n 46 dX6_draft_45 rfl rfl ?_
              refine fr_iast 47 dX6_draft_46 rfl fs_l81 (by omega) ?_
              refine fr_iload_n 48 dX6_draft_47 rfl rfl ?_
              refine fr_iload_n 49 dX6_draft_48 rfl rfl ?_
              refine fr_isub 50 dX6_draft_49 rfl ?_
              refine fr_iconst 51 dX6_draft_50 rfl ?_
              refine fr_iadd 52 dX6_draft_51 rfl ?_
              refine fr_iret dX6_draft_52 rfl ?_
              refine ⟨congrArg some (by unfold aDraft; rw [if_pos hf, if_pos ok]), ?_, fun k i z => by rw [fs_u_k _ _ (by omega), fs_u_k _ _ (by omega)]⟩
              unfold sDraft
              rw [if_pos ⟨hf, ok⟩]
              have e : ∀ k i, k ≠ 80 → k ≠ 81 → fs_u (fs_u σ 80 f lo) 81 f hi k i = σ k i := fun k i z1 z2 => by rw [fs_u_k _ _ z2, fs_u_k _ _ z1]
              obtain ⟨⟨a1, a2, a3, a4, a5, a6⟩, b2, b3⟩ := hI
              refine ⟨⟨a1.eq (e _ _ (by decide) (by decide)) (fun k i z => e k i (by omega) (by omega)), a2.eq (fun k i z => e k i (by omega) (by omega)), a3.eq (fun k i z1 z2 => e k i (by omega) (by omega)), fun g x y => ?_, ?_, fun k x y => (a6 k x y).eq (fun i => e _ _ (by omega) (by omega)) (fun j i z1 z2 => e j i (by omega) (by omega))⟩, ⟨b2.1, fun z => (b2.2 z).eq (fun k i z => e k i (by omega) (by omega))⟩, ⟨b3.1, fun z => (b3.2 z).eq (e _ _ (by decide) (by decide)) (fun k i z1 z2 => e k i (by omega) (by omega))⟩⟩
              · show fs_u (fs_u σ 80 f lo) 81 f hi 80 g = (if g = f then lo else A.2.1.1 g) ∧ fs_u (fs_u σ 80 f lo) 81 f hi 81 g = (if g = f then hi else A.2.1.2 g)
                have q := a4 g x y
                by_cases z : g = f
                · rw [if_pos z, if_pos z, z, fs_u_k _ _ (by decide), fs_u_eq, fs_u_eq]; exact ⟨rfl, rfl⟩
                · rw [if_neg z, if_neg z, fs_u_k _ _ (by decide), fs_u_i _ z, fs_u_i _ z, fs_u_k _ _ (by decide)]; exact q
              · rw [e _ _ (by decide) (by decide), e _ _ (by decide) (by decide)]; exact a5
            · omega
      · exact absurd h4 (by decide)
    · have out : Q_C σ (aDraft f lo hi) (sDraft A f lo hi) (some (-2)) σ := ⟨congrArg some (by unfold aDraft; rw [if_pos hf, if_neg ok]), by unfold sDraft; rw [if_neg (fun z => ok z.2)]; exact hI, fun _ _ _ => rfl⟩
      have c1 := @cK_isNumber σ f lo hf h2
      have c2 := @cK_isNumber σ f hi hf h3
      refine fr_iload_n 1 dX6_draft_0 rfl rfl ?_
      refine fr_callSi 4 (M2 := mX6_isField) [_] dX6_draft_1 rfl fs_mX6_70 fs_oX6_isField fs_sX6_isField rfl (fs_Γ_rm (d := 0) (by decide)) (Nat.le_of_ble_eq_true rfl) rfl ?_
      refine cf.ci ?_
      refine fr_if_ne 9 7 dX6_draft_4 rfl rfl (by omega) (fun h4 => ?_) (fun h4 => ?_)
      · refine fr_iload_n 10 dX6_draft_9 rfl rfl ?_
        refine fr_iload_n 11 dX6_draft_10 rfl rfl ?_
        refine fr_callSi 14 (M2 := mX6_isNumber) [_, _] dX6_draft_11 rfl fs_mX6_74 fs_oX6_isNumber fs_sX6_isNumber rfl (fs_Γ_rm (d := 0) (by decide)) (Nat.le_of_ble_eq_true rfl) rfl ?_
        refine c1.ci ?_
        refine fr_if_eq 30 17 dX6_draft_14 rfl rfl (by split <;> decide) (fun h14 => ?_) (fun h14 => ?_)
        · refine fr_bipush 32 dX6_draft_30 rfl (by decide) ?_
          refine fr_iret dX6_draft_32 rfl ?_
          exact out
        · refine fr_iload_n 18 dX6_draft_17 rfl rfl ?_
          refine fr_iload_n 19 dX6_draft_18 rfl rfl ?_
          refine fr_callSi 22 (M2 := mX6_isNumber) [_, _] dX6_draft_19 rfl fs_mX6_74 fs_oX6_isNumber fs_sX6_isNumber rfl (fs_Γ_rm (d := 0) (by decide)) (Nat.le_of_ble_eq_true rfl) rfl ?_
          refine c2.ci ?_
          refine fr_if_eq 30 25 dX6_draft_22 rfl rfl (by split <;> decide) (fun h22 => ?_) (fun h22 => ?_)
          · refine fr_bipush 32 dX6_draft_30 rfl (by decide) ?_
            refine fr_iret dX6_draft_32 rfl ?_
            exact out
          · refine fr_iload_n 26 dX6_draft_25 rfl rfl ?_
            refine fr_iload_n 27 dX6_draft_26 rfl rfl ?_
            refine fr_icmp_le 33 30 dX6_draft_27 rfl rfl (by omega) (by omega) (fun h27 => ?_) (fun h27 => ?_)
            · exact absurd ⟨(i01' _).1 h14, (i01' _).1 h22, h27⟩ ok
            · refine fr_bipush 32 dX6_draft_30 rfl (by decide) ?_
              refine fr_iret dX6_draft_32 rfl ?_
              exact out
      · exact absurd h4 (by decide)
  · have cf := @cK_isField σ f h1
    rw [if_neg hf] at cf
    refine fr_iload_n 1 dX6_draft_0 rfl rfl ?_
    refine fr_callSi 4 (M2 := mX6_isField) [_] dX6_draft_1 rfl fs_mX6_70 fs_oX6_isField fs_sX6_isField rfl (fs_Γ_rm (d := 0) (by decide)) (Nat.le_of_ble_eq_true rfl) rfl ?_
    refine cf.ci ?_
    refine fr_if_ne 9 7 dX6_draft_4 rfl rfl (by omega) (fun h4 => ?_) (fun h4 => ?_)
    · exact absurd rfl h4
    · refine fr_iconst 8 dX6_draft_7 rfl ?_
      refine fr_iret dX6_draft_8 rfl ?_
      exact ⟨congrArg some (by unfold aDraft; rw [if_neg hf]), by unfold sDraft; rw [if_neg (fun z => hf z.1)]; exact hI, fun _ _ _ => rfl⟩
