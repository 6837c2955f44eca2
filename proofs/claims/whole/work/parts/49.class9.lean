/-! ===== the class: Survey, refresh ===== -/
abbrev frV (σ τ : fs_S) : Prop := ∀ k i, ¬ (49 ≤ k ∧ k < 62) → ¬ (k = 48 ∧ (i = 0 ∨ i = 1)) → τ k i = σ k i
abbrev Q_rf (t : rt) (σ : fs_S) : fs_Q := fun x τ => x = none ∧ AS τ t (S4 t) ∧ τ 48 0 = 0 ∧ frV σ τ
set_option maxRecDepth 100000 in
set_option maxHeartbeats 3000000 in
theorem cK_refreshS {σ : fs_S} {t : rt} (hw : twf t) (hR : RC 27 σ t) (hO : OC σ t) (hP : PV σ t) (hb : σ 48 0 = 0 ∨ σ 48 0 = 1) (hv : σ 48 0 = 0 → AS σ t (S4 t)) : fs_C mX4_refresh 10 [.inr 48] σ (Q_rf t σ) := by
  refine fs_C.intro [some (.inr 48), none] fs_oX4_refresh (Nat.le_of_ble_eq_true rfl) rfl ?_
  have hn := hw.1
  have lA := bm_pow (fun _ => true) (n := (tn t).toNat) (by omega)
  have bA : ∀ i, (bm (fun _ => true) (tn t).toNat).testBit i = true → (i : Int) < tn t := fun i z => by
    rw [bm_bit, Bool.and_eq_true, decide_eq_true_eq] at z; omega
  have Fq : ∀ τ, frV σ τ → RC 27 τ t ∧ OC τ t ∧ PV τ t := fun τ h => ⟨hR.eq (h _ _ (by omega) (by omega)) (fun k i z => h k i (by omega) (by omega)), hO.eq (fun k i z => h k i (by omega) (by omega)), hP.eq (fun k i a b => h k i (by omega) (by omega))⟩
  have k2 : ∀ (m : Nat) (f : Int) (τ : fs_S), 0 ≤ f → f ≤ 4 → 4 - f < m → frV σ τ → AS τ t (fun _ => 0) → (∀ g, 0 ≤ g → g < f → RV τ t g) →
      fs_W (fs_Γ 10 (Q_rf t σ)) mX4_refresh 43 [some (.inr 48), some (.inl f)] [] τ := by
    intro m
    induction m with
    | zero => intro f τ h0 h1 h2; omega
    | succ m ih =>
      intro f τ h0 h1 h2 hF hA hV
      obtain ⟨r1, r2, r3⟩ := Fq τ hF
      refine fr_iload_n 44 dX4_refresh_43 rfl rfl ?_
      refine fr_iconst 45 dX4_refresh_44 rfl ?_
      refine fr_icmp_ge 59 48 dX4_refresh_45 rfl rfl (by omega) (by omega) (fun h45 => ?_) (fun h45 => ?_)
      · refine fr_aload_n 60 dX4_refresh_59 rfl rfl ?_
        refine fr_iconst 61 dX4_refresh_60 rfl ?_
        refine fr_aload_n 62 dX4_refresh_61 rfl rfl ?_
        refine fr_getr 65 42 dX4_refresh_62 rfl fs_kX4_42 fs_l48 rfl ?_
        refine fr_callVi 68 (M2 := mX2_all) [] dX4_refresh_65 rfl fs_mX4_50 fs_oX2_all fs_iX2_all fs_l42 rfl rfl (fs_Γ_rm (d := 0) (by decide)) (Nat.le_of_ble_eq_true rfl) rfl ?_
        refine (cK_all hw r1.1).ci ?_
        refine fr_iconst 69 dX4_refresh_68 rfl ?_
        refine fr_callVv 72 (M2 := mX4_sweep) [_, _, _] dX4_refresh_69 rfl fs_mX4_56 fs_oX4_sweep fs_iX4_sweep fs_l48 rfl rfl (fs_Γ_rm (d := 9) (by decide)) (Nat.le_of_ble_eq_true rfl) rfl ?_
        refine (cK_sweep t hw 4 (by decide) 0 _ 1 _ τ (by decide) r1 r2 lA bA (by decide) (fun g a b => hV g a (by omega)) hA).mono ?_
        rintro _ ρ ⟨rfl, p1, p2⟩
        refine ⟨rfl, ?_⟩
        refine fr_aload_n 73 dX4_refresh_72 rfl rfl ?_
        refine fr_iconst 74 dX4_refresh_73 rfl ?_
        refine fr_putz 77 0 dX4_refresh_74 rfl fs_kX4_9 fs_pX4_0 rfl fs_l48 rfl (by omega) ?_
        refine fr_vret dX4_refresh_77 rfl ?_
        refine ⟨rfl, ?_, fs_u_eq _ _ _ _, fun k i a b => ?_⟩
        · refine AS.congr (p1.eq (fun k i z => fs_u_ne _ (by omega))) (fun g => ?_)
          show S4 t g = 0 + 1 * SF t 4 0 _ g
          rw [SF_all]
          omega
        · rw [fs_u_ne _ (by omega), p2 k i (by omega) (by omega) (by omega)]
          exact hF k i a b
      · refine fr_aload_n 49 dX4_refresh_48 rfl rfl ?_
        refine fr_iload_n 50 dX4_refresh_49 rfl rfl ?_
        refine fr_callVv 53 (M2 := mX4_gatherRuns) [_] dX4_refresh_50 rfl fs_mX4_46 fs_oX4_gatherRuns fs_iX4_gatherRuns fs_l48 rfl rfl (fs_Γ_rm (d := 1) (by decide)) (Nat.le_of_ble_eq_true rfl) rfl ?_
        refine (cK_gatherRuns hw r3 ⟨h0, by omega⟩).mono ?_
        rintro _ ρ ⟨rfl, p1, p2⟩
        refine ⟨rfl, ?_⟩
        refine fr_iinc 56 [_, _] dX4_refresh_53 rfl rfl rfl ?_
        refine fr_goto 43 dX4_refresh_56 rfl ?_
        refine ih (f + 1) ρ (by omega) (by omega) (by omega) (fun k i a b => (p2 k i (by omega) (by omega) (by omega)).trans (hF k i a b)) (hA.eq (fun k i z => p2 k i (by omega) (by omega) (by omega))) (fun g a b => ?_)
        by_cases e : g = f
        · subst e; exact p1
        · exact (hV g a (by omega)).eq (p2 _ _ (by omega) (by omega) (by omega)) (fun i => ⟨p2 _ _ (by omega) (by omega) (by omega), p2 _ _ (by omega) (by omega) (by omega)⟩)
  have k1 : ∀ (m : Nat) (p : Int) (τ : fs_S), 0 ≤ p → p ≤ 16 → 16 - p < m → frV σ τ → τ 48 1 = 0 → (∀ q, 0 ≤ q → q < p → τ 49 q = 0 ∧ τ 50 q = 0) →
      fs_W (fs_Γ 10 (Q_rf t σ)) mX4_refresh 15 [some (.inr 48), some (.inl p)] [] τ := by
    intro m
    induction m with
    | zero => intro p τ h0 h1 h2; omega
    | succ m ih =>
      intro p τ h0 h1 h2 hF hz hI
      refine fr_iload_n 16 dX4_refresh_15 rfl rfl ?_
      refine fr_bipush 18 dX4_refresh_16 rfl (by decide) ?_
      refine fr_icmp_ge 41 21 dX4_refresh_18 rfl rfl (by omega) (by omega) (fun h18 => ?_) (fun h18 => ?_)
      · refine fr_iconst 42 dX4_refresh_41 rfl ?_
        refine fr_istore_n 43 [_, _] dX4_refresh_42 rfl (Nat.le_of_ble_eq_true rfl) rfl ?_
        exact k2 5 0 τ (by omega) (by omega) (by omega) hF ⟨fun p a b => (hI p a (by omega)).1, fun p a b => ⟨Int.le_refl _, fun z => absurd z (Int.lt_irrefl 0), fun _ => (hI p a (by omega)).2⟩, hz⟩ (fun g a b => by omega)
      · refine fr_aload_n 22 dX4_refresh_21 rfl rfl ?_
        refine fr_getr 25 49 dX4_refresh_22 rfl fs_kX4_19 fs_l48 rfl ?_
        refine fr_iload_n 26 dX4_refresh_25 rfl rfl ?_
        refine fr_iconst 27 dX4_refresh_26 rfl ?_
        refine fr_iast 28 dX4_refresh_27 rfl fs_l49 (by omega) ?_
        refine fr_aload_n 29 dX4_refresh_28 rfl rfl ?_
        refine fr_getr 32 50 dX4_refresh_29 rfl fs_kX4_23 fs_l48 rfl ?_
        refine fr_iload_n 33 dX4_refresh_32 rfl rfl ?_
        refine fr_iconst 34 dX4_refresh_33 rfl ?_
        refine fr_zast 35 dX4_refresh_34 rfl fs_l50 (by omega) (by omega) ?_
        refine fr_iinc 38 [_, _] dX4_refresh_35 rfl rfl rfl ?_
        refine fr_goto 15 dX4_refresh_38 rfl ?_
        refine ih (p + 1) _ (by omega) (by omega) (by omega) (fun k i a b => ?_) ?_ (fun q a b => ?_)
        · rw [fs_u_k _ _ (by omega), fs_u_k _ _ (by omega)]; exact hF k i a b
        · rw [fs_u_k _ _ (by decide), fs_u_k _ _ (by decide)]; exact hz
        · by_cases e : q = p
          · subst e
            exact ⟨by rw [fs_u_k _ _ (by decide)]; exact fs_u_eq _ _ _ _, fs_u_eq _ _ _ _⟩
          · have := hI q a (by omega)
            exact ⟨by rw [fs_u_k _ _ (by decide), fs_u_i _ e]; exact this.1, by rw [fs_u_i _ e, fs_u_k _ _ (by decide)]; exact this.2⟩
  refine fr_aload_n 1 dX4_refresh_0 rfl rfl ?_
  refine fr_geti 4 0 dX4_refresh_1 rfl fs_kX4_9 rfl fs_l48 rfl ?_
  refine fr_if_ne 8 7 dX4_refresh_4 rfl rfl (by omega) (fun h4 => ?_) (fun h4 => ?_)
  · refine fr_aload_n 9 dX4_refresh_8 rfl rfl ?_
    refine fr_iconst 10 dX4_refresh_9 rfl ?_
    refine fr_puti 13 1 dX4_refresh_10 rfl fs_kX4_15 fs_pX4_1 rfl fs_l48 rfl ?_
    refine fr_iconst 14 dX4_refresh_13 rfl ?_
    refine fr_istore_n 15 [_, _] dX4_refresh_14 rfl (Nat.le_of_ble_eq_true rfl) rfl ?_
    exact k1 17 0 _ (by omega) (by omega) (by omega) (fun k i a b => fs_u_ne _ (by omega)) (fs_u_eq _ _ _ _) (fun q a b => by omega)
  · refine fr_vret dX4_refresh_7 rfl ?_
    exact ⟨rfl, hv (by omega), (by omega), fun _ _ _ _ => rfl⟩
theorem S4_congr {t : rt} {g h : Nat → Int} (e : ∀ a b c d, g (tfit t a b c d) = h (tfit t a b c d)) : S4 t g = S4 t h := by
  unfold S4
  exact smI_congr (fun a _ _ => smI_congr (fun b _ _ => smI_congr (fun c _ _ => smI_congr (fun d _ _ => e a b c d))))
/-- by places or by rules -/
theorem low_od {t : rt} (hw : twf t) {r : Int} (hr : 0 ≤ r ∧ r < tn t) {a b c d : Int} (h0 : tfit t a b c d ≠ 0) : lowb (tfit t a b c d) = tpl t r ↔ tod t (lowb (tfit t a b c d)) = r := by
  have hl := tfit_low hw h0
  have ho := tod_r (t := t) hl.1 hl.2
  constructor
  · intro e; rw [e]; exact tod_pl hr.1 hr.2
  · intro e; rw [← ho.2.2, e]
theorem hW_gW {t : rt} (hw : twf t) {r : Int} (hr : 0 ≤ r ∧ r < tn t) : S4 t (hW (tpl t r)) = S4 t (gW t r) := by
  refine S4_congr (fun a b c d => ?_)
  unfold hW gW
  by_cases h0 : tfit t a b c d = 0
  · rw [if_neg (fun z => z.1 h0), if_neg (fun z => z.1 h0)]
  · have q := low_od hw hr h0
    by_cases e : lowb (tfit t a b c d) = tpl t r
    · rw [if_pos ⟨h0, e⟩, if_pos ⟨h0, q.1 e⟩]
    · rw [if_neg (fun z => e z.2), if_neg (fun z => e (q.2 z.2))]
theorem hN_gN {t : rt} (hw : twf t) {r : Int} (hr : 0 ≤ r ∧ r < tn t) : S4 t (hN t (tpl t r)) = S4 t (gN t r) := by
  refine S4_congr (fun a b c d => ?_)
  unfold hN gN
  rw [tod_pl hr.1 hr.2]
  by_cases h0 : tfit t a b c d = 0
  · rw [if_neg (fun z => z.1 h0), if_neg (fun z => z.1 h0)]
  · have q := low_od hw hr h0
    by_cases e : lowb (tfit t a b c d) = tpl t r
    · by_cases k : rs (tfit t a b c d) = 0 ∨ tac t (tod t (lowb (rs (tfit t a b c d)))) ≠ tac t r
      · rw [if_pos ⟨h0, e, k⟩, if_pos ⟨h0, q.1 e, k⟩]
      · rw [if_neg (fun z => k z.2.2), if_neg (fun z => k z.2.2)]
    · rw [if_neg (fun z => e z.2.1), if_neg (fun z => e (q.2 z.2.1))]
theorem hZ_gD {t : rt} (hw : twf t) : S4 t hZ = S4 t (gD t 10) := by
  refine S4_congr (fun a b c d => ?_)
  unfold hZ gD
  by_cases h0 : tfit t a b c d = 0
  · rw [if_pos h0, if_pos (Or.inl ⟨h0, rfl⟩)]
  · have hl := tfit_low hw h0
    have ho := tod_r (t := t) hl.1 hl.2
    have := (hw.2.2 _ ho.1 ho.2.1).2
    rw [if_neg h0, if_neg (fun z => z.elim (fun z => h0 z.1) (fun z => by omega))]
/-- the packets of an action, summed over the places -/
theorem S4_sm {t : rt} (F : Int → Nat → Int) (n : Nat) : S4 t (fun m => sm (fun p => F p m) n) = sm (fun p => S4 t (F p)) n := by
  induction n with
  | zero =>
    show S4 t (fun _ => 0) = 0
    unfold S4 smI
    simp only [sm_zero]
  | succ n ih =>
    show S4 t (fun m => sm (fun p => F p m) n + F n m) = sm (fun p => S4 t (F p)) n + S4 t (F n)
    rw [← ih]
    unfold S4 smI
    simp only [← sm_add]
theorem hA_gD {t : rt} (hw : twf t) {x : Int} (hx : x ≠ 10) : smI (fun p => if tac t (tod t p) = x then S4 t (hW p) else 0) (tn t) = S4 t (gD t x) := by
  have hn := hw.1
  have e1 : smI (fun p => if tac t (tod t p) = x then S4 t (hW p) else 0) (tn t) = S4 t (fun m => sm (fun p => if tac t (tod t p) = x then hW p m else 0) (tn t).toNat) := by
    rw [S4_sm (fun p m => if tac t (tod t p) = x then hW p m else 0)]
    refine smI_congr (fun p a b => ?_)
    by_cases e : tac t (tod t p) = x
    · simp only [e, if_true]
    · simp only [e, if_false]
      unfold S4 smI
      simp only [sm_zero]
  rw [e1]
  refine S4_congr (fun a b c d => ?_)
  unfold gD
  by_cases h0 : tfit t a b c d = 0
  · rw [if_neg (fun z => z.elim (fun z => hx z.2) (fun z => z.1 h0)), sm_congr (h := fun _ => 0) (fun p _ _ => ?_), sm_zero]
    unfold hW
    rw [if_neg (fun z : tfit t a b c d ≠ 0 ∧ _ => z.1 h0)]
    split <;> rfl
  · have hl := tfit_low hw h0
    rw [sm_congr (h := fun p => if p = lowb (tfit t a b c d) then (if tac t (tod t (lowb (tfit t a b c d))) = x then 1 else 0) else 0) (fun p _ _ => ?_), sm_one hl.1 (by omega)]
    · by_cases e : tac t (tod t (lowb (tfit t a b c d))) = x
      · rw [if_pos e, if_pos (Or.inr ⟨h0, e⟩)]
      · rw [if_neg e, if_neg (fun z => z.elim (fun z => h0 z.1) (fun z => e z.2))]
    · by_cases e : p = lowb (tfit t a b c d)
      · subst e
        rw [show hW (lowb (tfit t a b c d)) (tfit t a b c d) = 1 from if_pos ⟨h0, rfl⟩]
        exact (if_pos rfl).symm
      · unfold hW
        rw [if_neg e, if_neg (fun z : _ ∧ lowb (tfit t a b c d) = p => e z.2.symm)]
        split <;> rfl
set_option maxRecDepth 100000 in
set_option maxHeartbeats 3000000 in
theorem cK_wonByAction {σ : fs_S} {t : rt} {x : Int} (hw : twf t) (hR : RC 27 σ t) (hO : OC σ t) (hA : AS σ t (S4 t)) (hx : 0 ≤ x ∧ x ≤ 9) : fs_C mX4_wonByAction 1 [.inr 48, .inl x] σ (fun y τ => y = some (S4 t (gD t x)) ∧ τ = σ) := by
  refine fs_C.intro [some (.inr 48), some (.inl x), none, none] fs_oX4_wonByAction (Nat.le_of_ble_eq_true rfl) rfl ?_
  have hn := hw.1
  have hn2 := hR.1
  have key : ∀ (m : Nat) (p : Int), 0 ≤ p → p ≤ tn t → tn t - p < m → fs_W (fs_Γ 1 (fun y τ => y = some (S4 t (gD t x)) ∧ τ = σ)) mX4_wonByAction 4 [some (.inr 48), some (.inl x), some (.inl (smI (fun p => if tac t (tod t p) = x then S4 t (hW p) else 0) p)), some (.inl p)] [] σ := by
    intro m
    induction m with
    | zero => intro p h0 h1 h2; omega
    | succ m ih =>
      intro p h0 h1 h2
      have st := smI_s (fun p => if tac t (tod t p) = x then S4 t (hW p) else 0) h0
      refine fr_iload_n 5 dX4_wonByAction_4 rfl rfl ?_
      refine fr_aload_n 6 dX4_wonByAction_5 rfl rfl ?_
      refine fr_getr 9 27 dX4_wonByAction_6 rfl fs_kX4_38 fs_l48 rfl ?_
      refine fr_geti 12 0 dX4_wonByAction_9 rfl fs_kX4_89 rfl fs_l27 rfl ?_
      refine fr_icmp_ge 39 15 dX4_wonByAction_12 rfl rfl (by omega) (by omega) (fun h12 => ?_) (fun h12 => ?_)
      · refine fr_iload_n 40 dX4_wonByAction_39 rfl rfl ?_
        refine fr_iret dX4_wonByAction_40 rfl ?_
        exact ⟨congrArg some (by rw [show p = tn t by omega]; exact hA_gD hw (by omega)), rfl⟩
      · refine fr_aload_n 16 dX4_wonByAction_15 rfl rfl ?_
        refine fr_iload_n 17 dX4_wonByAction_16 rfl rfl ?_
        refine fr_callVi 20 (M2 := mX4_actionAt) [_] dX4_wonByAction_17 rfl fs_mX4_78 fs_oX4_actionAt fs_iX4_actionAt fs_l48 rfl rfl (fs_Γ_rm (d := 0) (by decide)) (Nat.le_of_ble_eq_true rfl) rfl ?_
        refine (cK_actionAt hw hR hO ⟨h0, by omega⟩).ci ?_
        have ho := tod_r (t := t) h0 (by omega)
        have hac := (hw.2.2 _ ho.1 ho.2.1).2
        refine fr_iload_n 21 dX4_wonByAction_20 rfl rfl ?_
        refine fr_icmp_ne 33 24 dX4_wonByAction_21 rfl rfl (by omega) (by omega) (fun h21 => ?_) (fun h21 => ?_)
        · have e := ih (p + 1) (by omega) (by omega) (by omega)
          rw [st, if_neg (by omega), Int.add_zero] at e
          refine fr_iinc 36 [_, _, _, _] dX4_wonByAction_33 rfl rfl rfl ?_
          refine fr_goto 4 dX4_wonByAction_36 rfl ?_
          exact e
        · have e : σ 49 p = S4 t (hW p) := hA.1 p h0 (by omega)
          refine fr_iload_n 25 dX4_wonByAction_24 rfl rfl ?_
          refine fr_aload_n 26 dX4_wonByAction_25 rfl rfl ?_
          refine fr_getr 29 49 dX4_wonByAction_26 rfl fs_kX4_19 fs_l48 rfl ?_
          refine fr_iload_n 30 dX4_wonByAction_29 rfl rfl ?_
          refine fr_iald 31 dX4_wonByAction_30 rfl fs_l49 (by omega) ?_
          refine fr_iadd 32 dX4_wonByAction_31 rfl ?_
          refine fr_top (y := smI (fun p => if tac t (tod t p) = x then S4 t (hW p) else 0) (p + 1)) (by rw [st, e, if_pos (by omega)]) ?_
          refine fr_istore_n 33 [_, _, _, _] dX4_wonByAction_32 rfl (Nat.le_of_ble_eq_true rfl) rfl ?_
          refine fr_iinc 36 [_, _, _, _] dX4_wonByAction_33 rfl rfl rfl ?_
          refine fr_goto 4 dX4_wonByAction_36 rfl ?_
          exact ih (p + 1) (by omega) (by omega) (by omega)
  refine fr_iconst 1 dX4_wonByAction_0 rfl ?_
  refine fr_istore_n 2 [_, _, _, _] dX4_wonByAction_1 rfl (Nat.le_of_ble_eq_true rfl) rfl ?_
  refine fr_iconst 3 dX4_wonByAction_2 rfl ?_
  refine fr_istore_n 4 [_, _, _, _] dX4_wonByAction_3 rfl (Nat.le_of_ble_eq_true rfl) rfl ?_
  exact key ((tn t).toNat + 1) 0 (by omega) (by omega) (by omega)
