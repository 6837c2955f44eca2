/-! ===== the class: Rules ===== -/
/-- the rules kept at cell b -/
def RC (b : Int) (σ : fs_S) (t : rt) : Prop := σ b 0 = tn t ∧ (∀ r f, 0 ≤ r → r < tn t → 0 ≤ f → f < 4 → σ (b + 7 + f) r = tlo t r f ∧ σ (b + 11 + f) r = thi t r f) ∧ (∀ r, 0 ≤ r → r < tn t → σ (b + 3) r = trk t r ∧ σ (b + 4) r = tac t r)
theorem RC.lh {σ : fs_S} {t : rt} (h : RC 27 σ t) {r f : Int} (hr : 0 ≤ r ∧ r < tn t) (hf : 0 ≤ f ∧ f < 4) : σ (34 + f) r = tlo t r f ∧ σ (38 + f) r = thi t r f := h.2.1 r f hr.1 hr.2 hf.1 hf.2
theorem RC.ra {σ : fs_S} {t : rt} (h : RC 27 σ t) {r : Int} (hr : 0 ≤ r ∧ r < tn t) : σ 30 r = trk t r ∧ σ 31 r = tac t r := h.2.2 r hr.1 hr.2
theorem RC.eq {b : Int} {σ τ : fs_S} {t : rt} (h : RC b σ t) (e0 : τ b 0 = σ b 0) (e : ∀ k i, (k = b + 3 ∨ k = b + 4 ∨ (b + 7 ≤ k ∧ k < b + 15)) → τ k i = σ k i) : RC b τ t := by
  refine ⟨e0.trans h.1, fun r f a1 a2 a3 a4 => ?_, fun r a1 a2 => ?_⟩
  · rw [e _ _ (by omega), e _ _ (by omega)]; exact h.2.1 r f a1 a2 a3 a4
  · rw [e _ _ (by omega), e _ _ (by omega)]; exact h.2.2 r a1 a2
/-- order and place -/
def OC (σ : fs_S) (t : rt) : Prop := (∀ p, 0 ≤ p → p < tn t → σ 32 p = tod t p) ∧ (∀ r, 0 ≤ r → r < tn t → σ 33 r = tpl t r)
theorem OC.eq {σ τ : fs_S} {t : rt} (h : OC σ t) (e : ∀ k i, k = 32 ∨ k = 33 → τ k i = σ k i) : OC τ t :=
  ⟨fun p a b => by rw [e _ _ (by omega)]; exact h.1 p a b, fun r a b => by rw [e _ _ (by omega)]; exact h.2 r a b⟩
set_option maxRecDepth 100000 in
set_option maxHeartbeats 3000000 in
theorem cK_has {σ : fs_S} {t : rt} {r : Int} (hw : twf t) (hn : σ 27 0 = tn t) (hr : rg r) : fs_C mX3_has 0 [.inr 27, .inl r] σ (fun x τ => x = some (if 0 ≤ r ∧ r < tn t then 1 else 0) ∧ τ = σ) := by
  refine fs_C.intro [some (.inr 27), some (.inl r)] fs_oX3_has (Nat.le_of_ble_eq_true rfl) rfl ?_
  have hn' := hw.1
  refine fr_iload_n 1 dX3_has_0 rfl rfl ?_
  refine fr_if_lt 16 4 dX3_has_1 rfl rfl (by omega) (fun h1 => ?_) (fun h1 => ?_)
  · refine fr_iconst 17 dX3_has_16 rfl ?_
    refine fr_zret dX3_has_17 rfl (by omega) ?_
    exact ⟨congrArg some (by split <;> omega), rfl⟩
  · refine fr_iload_n 5 dX3_has_4 rfl rfl ?_
    refine fr_aload_n 6 dX3_has_5 rfl rfl ?_
    refine fr_geti 9 0 dX3_has_6 rfl fs_kX3_9 rfl fs_l27 rfl ?_
    refine fr_icmp_ge 16 12 dX3_has_9 rfl rfl (by omega) (by omega) (fun h9 => ?_) (fun h9 => ?_)
    · refine fr_iconst 17 dX3_has_16 rfl ?_
      refine fr_zret dX3_has_17 rfl (by omega) ?_
      exact ⟨congrArg some (by split <;> omega), rfl⟩
    · refine fr_iconst 13 dX3_has_12 rfl ?_
      refine fr_goto 17 dX3_has_13 rfl ?_
      refine fr_zret dX3_has_17 rfl (by omega) ?_
      exact ⟨congrArg some (by split <;> omega), rfl⟩
set_option maxRecDepth 100000 in
set_option maxHeartbeats 3000000 in
theorem cK_isAhead {σ : fs_S} {t : rt} {q r : Int} (hw : twf t) (hR : RC 27 σ t) (hq : 0 ≤ q ∧ q < tn t) (hr : 0 ≤ r ∧ r < tn t) : fs_C mX3_isAhead 0 [.inr 27, .inl q, .inl r] σ (fun x τ => x = some (if tah t q r then 1 else 0) ∧ τ = σ) := by
  refine fs_C.intro [some (.inr 27), some (.inl q), some (.inl r)] fs_oX3_isAhead (Nat.le_of_ble_eq_true rfl) rfl ?_
  have hn := hw.1
  have eq := (hR.ra hq).1
  have er := (hR.ra hr).1
  have rq := (hw.2.2 q hq.1 hq.2).1
  have rr := (hw.2.2 r hr.1 hr.2).1
  refine fr_aload_n 1 dX3_isAhead_0 rfl rfl ?_
  refine fr_getr 4 30 dX3_isAhead_1 rfl fs_kX3_23 fs_l27 rfl ?_
  refine fr_iload_n 5 dX3_isAhead_4 rfl rfl ?_
  refine fr_iald 6 dX3_isAhead_5 rfl fs_l30 (by omega) ?_
  refine fr_aload_n 7 dX3_isAhead_6 rfl rfl ?_
  refine fr_getr 10 30 dX3_isAhead_7 rfl fs_kX3_23 fs_l27 rfl ?_
  refine fr_iload_n 11 dX3_isAhead_10 rfl rfl ?_
  refine fr_iald 12 dX3_isAhead_11 rfl fs_l30 (by omega) ?_
  refine fr_icmp_lt 35 15 dX3_isAhead_12 rfl rfl (by omega) (by omega) (fun h12 => ?_) (fun h12 => ?_)
  · refine fr_iconst 36 dX3_isAhead_35 rfl ?_
    refine fr_goto 40 dX3_isAhead_36 rfl ?_
    refine fr_zret dX3_isAhead_40 rfl (by omega) ?_
    exact ⟨congrArg some (by simp only [tah, decide_eq_true_eq]; split <;> omega), rfl⟩
  · refine fr_aload_n 16 dX3_isAhead_15 rfl rfl ?_
    refine fr_getr 19 30 dX3_isAhead_16 rfl fs_kX3_23 fs_l27 rfl ?_
    refine fr_iload_n 20 dX3_isAhead_19 rfl rfl ?_
    refine fr_iald 21 dX3_isAhead_20 rfl fs_l30 (by omega) ?_
    refine fr_aload_n 22 dX3_isAhead_21 rfl rfl ?_
    refine fr_getr 25 30 dX3_isAhead_22 rfl fs_kX3_23 fs_l27 rfl ?_
    refine fr_iload_n 26 dX3_isAhead_25 rfl rfl ?_
    refine fr_iald 27 dX3_isAhead_26 rfl fs_l30 (by omega) ?_
    refine fr_icmp_ne 39 30 dX3_isAhead_27 rfl rfl (by omega) (by omega) (fun h27 => ?_) (fun h27 => ?_)
    · refine fr_iconst 40 dX3_isAhead_39 rfl ?_
      refine fr_zret dX3_isAhead_40 rfl (by omega) ?_
      exact ⟨congrArg some (by simp only [tah, decide_eq_true_eq]; split <;> omega), rfl⟩
    · refine fr_iload_n 31 dX3_isAhead_30 rfl rfl ?_
      refine fr_iload_n 32 dX3_isAhead_31 rfl rfl ?_
      refine fr_icmp_ge 39 35 dX3_isAhead_32 rfl rfl (by omega) (by omega) (fun h32 => ?_) (fun h32 => ?_)
      · refine fr_iconst 40 dX3_isAhead_39 rfl ?_
        refine fr_zret dX3_isAhead_40 rfl (by omega) ?_
        exact ⟨congrArg some (by simp only [tah, decide_eq_true_eq]; split <;> omega), rfl⟩
      · refine fr_iconst 36 dX3_isAhead_35 rfl ?_
        refine fr_goto 40 dX3_isAhead_36 rfl ?_
        refine fr_zret dX3_isAhead_40 rfl (by omega) ?_
        exact ⟨congrArg some (by simp only [tah, decide_eq_true_eq]; split <;> omega), rfl⟩
abbrev frR (σ τ : fs_S) : Prop := ∀ k i, k ≠ 32 → k ≠ 33 → τ k i = σ k i
set_option maxRecDepth 100000 in
set_option maxHeartbeats 3000000 in
theorem cK_sort {σ : fs_S} {t : rt} (hw : twf t) (hR : RC 27 σ t) : fs_C mX3_sort 1 [.inr 27] σ (fun x τ => x = none ∧ OC τ t ∧ frR σ τ) := by
  refine fs_C.intro [some (.inr 27), none, none, none] fs_oX3_sort (Nat.le_of_ble_eq_true rfl) rfl ?_
  have hn := hw.1
  have hRt : ∀ τ, frR σ τ → RC 27 τ t := fun τ h => hR.eq (h _ _ (by decide) (by decide)) (fun k i z => h k i (by omega) (by omega))
  have k2 : ∀ (m : Nat) (k q : Int) (τ : fs_S), 0 ≤ k → k < tn t → 0 ≤ q → q ≤ tn t → tn t - q < m → frR σ τ →
      fs_W (fs_Γ 1 (fun x τ => x = none ∧ OC τ t ∧ frR σ τ)) mX3_sort 40 [some (.inr 27), some (.inl k), some (.inl (tpl t k)), some (.inl (tn t))] [] τ →
      fs_W (fs_Γ 1 (fun x τ => x = none ∧ OC τ t ∧ frR σ τ)) mX3_sort 14 [some (.inr 27), some (.inl k), some (.inl (smI (fun q => if tah t q k then 1 else 0) q)), some (.inl q)] [] τ := by
    intro m
    induction m with
    | zero => intro k q τ h0 h1 h2 h3 h4; omega
    | succ m ih =>
      intro k q τ h0 h1 h2 h3 h4 hF kk
      have hm2 := (hRt _ hF).1
      have st := smI_s (fun q => if tah t q k then (1 : Int) else 0) h2
      refine fr_iload_n 15 dX3_sort_14 rfl rfl ?_
      refine fr_aload_n 16 dX3_sort_15 rfl rfl ?_
      refine fr_geti 19 0 dX3_sort_16 rfl fs_kX3_9 rfl fs_l27 rfl ?_
      refine fr_icmp_ge 40 22 dX3_sort_19 rfl rfl (by omega) (by omega) (fun h19 => ?_) (fun h19 => ?_)
      · have e : q = tn t := by omega
        subst e
        exact kk
      · refine fr_aload_n 23 dX3_sort_22 rfl rfl ?_
        refine fr_iload_n 24 dX3_sort_23 rfl rfl ?_
        refine fr_iload_n 25 dX3_sort_24 rfl rfl ?_
        refine fr_callVi 28 (M2 := mX3_isAhead) [_, _] dX3_sort_25 rfl fs_mX3_44 fs_oX3_isAhead fs_iX3_isAhead fs_l27 rfl rfl (fs_Γ_rm (d := 0) (by decide)) (Nat.le_of_ble_eq_true rfl) rfl ?_
        refine (cK_isAhead hw (hRt _ hF) ⟨h2, by omega⟩ ⟨h0, h1⟩).ci ?_
        refine fr_if_eq 34 31 dX3_sort_28 rfl rfl (by split <;> decide) (fun h28 => ?_) (fun h28 => ?_)
        · refine fr_iinc 37 [_, _, _, _] dX3_sort_34 rfl rfl rfl ?_
          refine fr_goto 14 dX3_sort_37 rfl ?_
          have e : smI (fun q => if tah t q k then (1 : Int) else 0) (q + 1) = _ := st
          first
          | (rw [show (if tah t q k then (1 : Int) else 0) = 0 by omega, Int.add_zero] at e
             have := ih k (q + 1) τ h0 h1 (by omega) (by omega) (by omega) hF kk
             rw [e] at this
             exact this)
          | (rw [show (if tah t q k then (1 : Int) else 0) = 1 by (split at h28 <;> simp_all)] at e
             have := ih k (q + 1) τ h0 h1 (by omega) (by omega) (by omega) hF kk
             rw [e] at this
             exact this)
        · refine fr_iinc 34 [_, _, _, _] dX3_sort_31 rfl rfl rfl ?_
          refine fr_iinc 37 [_, _, _, _] dX3_sort_34 rfl rfl rfl ?_
          refine fr_goto 14 dX3_sort_37 rfl ?_
          have e : smI (fun q => if tah t q k then (1 : Int) else 0) (q + 1) = _ := st
          first
          | (rw [show (if tah t q k then (1 : Int) else 0) = 0 by omega, Int.add_zero] at e
             have := ih k (q + 1) τ h0 h1 (by omega) (by omega) (by omega) hF kk
             rw [e] at this
             exact this)
          | (rw [show (if tah t q k then (1 : Int) else 0) = 1 by (split at h28 <;> simp_all)] at e
             have := ih k (q + 1) τ h0 h1 (by omega) (by omega) (by omega) hF kk
             rw [e] at this
             exact this)
  have k1 : ∀ (m : Nat) (k : Int) (τ : fs_S) (y z : Option fs_V), 0 ≤ k → k ≤ tn t → tn t - k < m → frR σ τ → (∀ q, 0 ≤ q → q < k → τ 33 q = tpl t q ∧ τ 32 (tpl t q) = q) →
      fs_W (fs_Γ 1 (fun x τ => x = none ∧ OC τ t ∧ frR σ τ)) mX3_sort 2 [some (.inr 27), some (.inl k), y, z] [] τ := by
    intro m
    induction m with
    | zero => intro k τ y z h0 h1 h2; omega
    | succ m ih =>
      intro k τ y z h0 h1 h2 hF hI
      have hm2 := (hRt _ hF).1
      refine fr_iload_n 3 dX3_sort_2 rfl rfl ?_
      refine fr_aload_n 4 dX3_sort_3 rfl rfl ?_
      refine fr_geti 7 0 dX3_sort_4 rfl fs_kX3_9 rfl fs_l27 rfl ?_
      refine fr_icmp_ge 60 10 dX3_sort_7 rfl rfl (by omega) (by omega) (fun h7 => ?_) (fun h7 => ?_)
      · refine fr_vret dX3_sort_60 rfl ?_
        refine ⟨rfl, ⟨fun p a b => ?_, fun r a b => (hI r a (by omega)).1⟩, hF⟩
        obtain ⟨q1, q2, q3⟩ := tod_r (t := t) a b
        have := (hI _ q1 (by omega)).2
        rwa [q3] at this
      · refine fr_iconst 11 dX3_sort_10 rfl ?_
        refine fr_istore_n 12 [_, _, _, _] dX3_sort_11 rfl (Nat.le_of_ble_eq_true rfl) rfl ?_
        refine fr_iconst 13 dX3_sort_12 rfl ?_
        refine fr_istore_n 14 [_, _, _, _] dX3_sort_13 rfl (Nat.le_of_ble_eq_true rfl) rfl ?_
        refine k2 ((tn t).toNat + 1) k 0 τ h0 (by omega) (by omega) (by omega) (by omega) hF ?_
        have hpl := tpl_r (t := t) h0 (by omega)
        refine fr_aload_n 41 dX3_sort_40 rfl rfl ?_
        refine fr_getr 44 33 dX3_sort_41 rfl fs_kX3_33 fs_l27 rfl ?_
        refine fr_iload_n 45 dX3_sort_44 rfl rfl ?_
        refine fr_iload_n 46 dX3_sort_45 rfl rfl ?_
        refine fr_iast 47 dX3_sort_46 rfl fs_l33 (by omega) ?_
        refine fr_aload_n 48 dX3_sort_47 rfl rfl ?_
        refine fr_getr 51 32 dX3_sort_48 rfl fs_kX3_30 fs_l27 rfl ?_
        refine fr_iload_n 52 dX3_sort_51 rfl rfl ?_
        refine fr_iload_n 53 dX3_sort_52 rfl rfl ?_
        refine fr_iast 54 dX3_sort_53 rfl fs_l32 (by omega) ?_
        refine fr_iinc 57 [_, _, _, _] dX3_sort_54 rfl rfl rfl ?_
        refine fr_goto 2 dX3_sort_57 rfl ?_
        refine ih (k + 1) _ _ _ (by omega) (by omega) (by omega) (fun k2 i a b => ?_) (fun q a b => ?_)
        · have := hF k2 i a b; unfold fs_u; (repeat' split) <;> omega
        · by_cases e : q = k
          · subst e
            exact ⟨by rw [fs_u_k _ _ (by decide)]; exact fs_u_eq _ _ _ _, fs_u_eq _ _ _ _⟩
          · have := hI q a (by omega)
            rw [fs_u_k _ _ (by decide), fs_u_i _ e, fs_u_ne _ (fun z => e (tpl_inj a (by omega) h0 (by omega) z.2)), fs_u_k _ _ (by decide)]
            exact this
  refine fr_iconst 1 dX3_sort_0 rfl ?_
  refine fr_istore_n 2 [_, _, _, _] dX3_sort_1 rfl (Nat.le_of_ble_eq_true rfl) rfl ?_
  exact k1 ((tn t).toNat + 1) 0 σ _ _ (by omega) (by omega) (by omega) (fun _ _ _ _ => rfl) (fun q a b => by omega)
set_option maxRecDepth 100000 in
set_option maxHeartbeats 3000000 in
theorem cK_takes {σ : fs_S} {t : rt} {r f v : Int} (hw : twf t) (hR : RC 27 σ t) (hr : 0 ≤ r ∧ r < tn t) (hf : 0 ≤ f ∧ f < 4) (hv : rg v) : fs_C mX3_takes 0 [.inr 27, .inl r, .inl f, .inl v] σ (fun x τ => x = some (if tlo t r f ≤ v ∧ v ≤ thi t r f then 1 else 0) ∧ τ = σ) := by
  refine fs_C.intro [some (.inr 27), some (.inl r), some (.inl f), some (.inl v)] fs_oX3_takes (Nat.le_of_ble_eq_true rfl) rfl ?_
  have hn := hw.1
  have hg := gr_r f
  have e := hR.lh hr hf
  have q := hw.2.1 r f hr.1 hr.2 hf.1 hf.2
  refine fr_aload_n 1 dX3_takes_0 rfl rfl ?_
  refine fr_getr 4 28 dX3_takes_1 rfl fs_kX3_17 fs_l27 rfl ?_
  refine fr_iload_n 5 dX3_takes_4 rfl rfl ?_
  refine fr_aald 6 dX3_takes_5 rfl fs_l28 (by omega) ?_
  refine fr_iload_n 7 dX3_takes_6 rfl rfl ?_
  refine fr_iald 8 dX3_takes_7 rfl (fs_f34 _ (by omega)) (by omega) ?_
  refine fr_iload_n 9 dX3_takes_8 rfl rfl ?_
  refine fr_icmp_gt 28 12 dX3_takes_9 rfl rfl (by omega) (by omega) (fun h9 => ?_) (fun h9 => ?_)
  · refine fr_iconst 29 dX3_takes_28 rfl ?_
    refine fr_zret dX3_takes_29 rfl (by omega) ?_
    exact ⟨congrArg some (by split <;> omega), rfl⟩
  · refine fr_iload_n 13 dX3_takes_12 rfl rfl ?_
    refine fr_aload_n 14 dX3_takes_13 rfl rfl ?_
    refine fr_getr 17 29 dX3_takes_14 rfl fs_kX3_20 fs_l27 rfl ?_
    refine fr_iload_n 18 dX3_takes_17 rfl rfl ?_
    refine fr_aald 19 dX3_takes_18 rfl fs_l29 (by omega) ?_
    refine fr_iload_n 20 dX3_takes_19 rfl rfl ?_
    refine fr_iald 21 dX3_takes_20 rfl (fs_f38 _ (by omega)) (by omega) ?_
    refine fr_icmp_gt 28 24 dX3_takes_21 rfl rfl (by omega) (by omega) (fun h21 => ?_) (fun h21 => ?_)
    · refine fr_iconst 29 dX3_takes_28 rfl ?_
      refine fr_zret dX3_takes_29 rfl (by omega) ?_
      exact ⟨congrArg some (by split <;> omega), rfl⟩
    · refine fr_iconst 25 dX3_takes_24 rfl ?_
      refine fr_goto 29 dX3_takes_25 rfl ?_
      refine fr_zret dX3_takes_29 rfl (by omega) ?_
      exact ⟨congrArg some (by split <;> omega), rfl⟩
set_option maxRecDepth 100000 in
set_option maxHeartbeats 3000000 in
theorem cK_shared {σ : fs_S} {t : rt} {a b f : Int} (hw : twf t) (hR : RC 27 σ t) (ha : 0 ≤ a ∧ a < tn t) (hb : 0 ≤ b ∧ b < tn t) (hf : 0 ≤ f ∧ f < 4) : fs_C mX3_shared 1 [.inr 27, .inl a, .inl b, .inl f] σ (fun x τ => x = some (tsh t a b f) ∧ τ = σ) := by
  refine fs_C.intro [some (.inr 27), some (.inl a), some (.inl b), some (.inl f), none, none] fs_oX3_shared (Nat.le_of_ble_eq_true rfl) rfl ?_
  have hn := hw.1
  have hg := gr_r f
  have ea := hR.lh ha hf
  have eb := hR.lh hb hf
  have qa := hw.2.1 a f ha.1 ha.2 hf.1 hf.2
  have qb := hw.2.1 b f hb.1 hb.2 hf.1 hf.2
  refine fr_aload_n 1 dX3_shared_0 rfl rfl ?_
  refine fr_getr 4 28 dX3_shared_1 rfl fs_kX3_17 fs_l27 rfl ?_
  refine fr_iload_n 5 dX3_shared_4 rfl rfl ?_
  refine fr_aald 6 dX3_shared_5 rfl fs_l28 (by omega) ?_
  refine fr_iload_n 7 dX3_shared_6 rfl rfl ?_
  refine fr_iald 8 dX3_shared_7 rfl (fs_f34 _ (by omega)) (by omega) ?_
  refine fr_aload_n 9 dX3_shared_8 rfl rfl ?_
  refine fr_getr 12 28 dX3_shared_9 rfl fs_kX3_17 fs_l27 rfl ?_
  refine fr_iload_n 13 dX3_shared_12 rfl rfl ?_
  refine fr_aald 14 dX3_shared_13 rfl fs_l28 (by omega) ?_
  refine fr_iload_n 15 dX3_shared_14 rfl rfl ?_
  refine fr_iald 16 dX3_shared_15 rfl (fs_f34 _ (by omega)) (by omega) ?_
  refine fr_mmax 19 dX3_shared_16 rfl fs_mX3_48 fs_sJ9_max_7cf53 fs_iniMath fs_cdmax (fs_Γ_rm (d := 0) (by decide)) (Nat.le_of_ble_eq_true rfl) (by omega) (by omega) ?_
  refine fr_istore 21 [_, _, _, _, _, _] dX3_shared_19 rfl (Nat.le_of_ble_eq_true rfl) rfl ?_
  refine fr_aload_n 22 dX3_shared_21 rfl rfl ?_
  refine fr_getr 25 29 dX3_shared_22 rfl fs_kX3_20 fs_l27 rfl ?_
  refine fr_iload_n 26 dX3_shared_25 rfl rfl ?_
  refine fr_aald 27 dX3_shared_26 rfl fs_l29 (by omega) ?_
  refine fr_iload_n 28 dX3_shared_27 rfl rfl ?_
  refine fr_iald 29 dX3_shared_28 rfl (fs_f38 _ (by omega)) (by omega) ?_
  refine fr_aload_n 30 dX3_shared_29 rfl rfl ?_
  refine fr_getr 33 29 dX3_shared_30 rfl fs_kX3_20 fs_l27 rfl ?_
  refine fr_iload_n 34 dX3_shared_33 rfl rfl ?_
  refine fr_aald 35 dX3_shared_34 rfl fs_l29 (by omega) ?_
  refine fr_iload_n 36 dX3_shared_35 rfl rfl ?_
  refine fr_iald 37 dX3_shared_36 rfl (fs_f38 _ (by omega)) (by omega) ?_
  refine fr_mmin 40 dX3_shared_37 rfl fs_mX3_54 fs_sJ9_min_7cf53 fs_iniMath fs_cdmin (fs_Γ_rm (d := 0) (by decide)) (Nat.le_of_ble_eq_true rfl) (by omega) (by omega) ?_
  refine fr_istore 42 [_, _, _, _, _, _] dX3_shared_40 rfl (Nat.le_of_ble_eq_true rfl) rfl ?_
  refine fr_iconst 43 dX3_shared_42 rfl ?_
  refine fr_iload 45 dX3_shared_43 rfl rfl ?_
  refine fr_iload 47 dX3_shared_45 rfl rfl ?_
  refine fr_isub 48 dX3_shared_47 rfl ?_
  refine fr_iconst 49 dX3_shared_48 rfl ?_
  refine fr_iadd 50 dX3_shared_49 rfl ?_
  refine fr_mmax 53 dX3_shared_50 rfl fs_mX3_48 fs_sJ9_max_7cf53 fs_iniMath fs_cdmax (fs_Γ_rm (d := 0) (by decide)) (Nat.le_of_ble_eq_true rfl) (by omega) (by omega) ?_
  refine fr_iret dX3_shared_53 rfl ?_
  exact ⟨congrArg some (by unfold tsh; omega), rfl⟩
theorem twi_all (t : rt) (o r : Int) : twi t o r = true ↔ ∀ f, 0 ≤ f → f < 4 → tin t o r f = true := by
  have hs : ∀ k, 0 ≤ k → tfl t o r (k + 1) = tfl t o r k + (if tin t o r k then 0 else 1) := fun k h => smI_s _ h
  have h0 : tfl t o r 0 = 0 := rfl
  have h1 := hs 0 (by decide)
  have h2 := hs 1 (by decide)
  have h3 := hs 2 (by decide)
  have h4 := hs 3 (by decide)
  change tfl t o r 1 = _ at h1
  change tfl t o r 2 = _ at h2
  change tfl t o r 3 = _ at h3
  change tfl t o r 4 = _ at h4
  unfold twi
  rw [decide_eq_true_eq]
  constructor
  · intro h f a b
    rcases (by omega : f = 0 ∨ f = 1 ∨ f = 2 ∨ f = 3) with rfl | rfl | rfl | rfl <;> (revert h1 h2 h3 h4; repeat' split) <;> intro h1 h2 h3 h4 <;> first | assumption | omega
  · intro h
    have a0 := h 0 (by decide) (by decide)
    have a1 := h 1 (by decide) (by decide)
    have a2 := h 2 (by decide) (by decide)
    have a3 := h 3 (by decide) (by decide)
    rw [if_pos a0] at h1
    rw [if_pos a1] at h2
    rw [if_pos a2] at h3
    rw [if_pos a3] at h4
    omega
set_option maxRecDepth 100000 in
set_option maxHeartbeats 3000000 in
theorem cK_holds {σ : fs_S} {t : rt} {o r : Int} (hw : twf t) (hR : RC 27 σ t) (ho : 0 ≤ o ∧ o < tn t) (hr : 0 ≤ r ∧ r < tn t) : fs_C mX3_holds 0 [.inr 27, .inl o, .inl r] σ (fun x τ => x = some (if twi t o r then 1 else 0) ∧ τ = σ) := by
  refine fs_C.intro [some (.inr 27), some (.inl o), some (.inl r), none] fs_oX3_holds (Nat.le_of_ble_eq_true rfl) rfl ?_
  have hn := hw.1
  have key : ∀ (m : Nat) (f : Int), 0 ≤ f → f ≤ 4 → 4 - f < m → (∀ g, 0 ≤ g → g < f → tin t o r g = true) → fs_W (fs_Γ 0 (fun x τ => x = some (if twi t o r then 1 else 0) ∧ τ = σ)) mX3_holds 2 [some (.inr 27), some (.inl o), some (.inl r), some (.inl f)] [] σ := by
    intro m
    induction m with
    | zero => intro f h0 h1 h2; omega
    | succ m ih =>
      intro f h0 h1 h2 hI
      have hg := gr_r f
      refine fr_iload_n 3 dX3_holds_2 rfl rfl ?_
      refine fr_iconst 4 dX3_holds_3 rfl ?_
      refine fr_icmp_ge 53 7 dX3_holds_4 rfl rfl (by omega) (by omega) (fun h4 => ?_) (fun h4 => ?_)
      · refine fr_iconst 54 dX3_holds_53 rfl ?_
        refine fr_zret dX3_holds_54 rfl (by omega) ?_
        exact ⟨congrArg some (if_pos ((twi_all t o r).2 (fun g a b => hI g a (by omega)))).symm, rfl⟩
      · have er := hR.lh hr ⟨h0, by omega⟩
        have eo := hR.lh ho ⟨h0, by omega⟩
        have qr := hw.2.1 r f hr.1 hr.2 h0 (by omega)
        have qo := hw.2.1 o f ho.1 ho.2 h0 (by omega)
        refine fr_aload_n 8 dX3_holds_7 rfl rfl ?_
        refine fr_getr 11 28 dX3_holds_8 rfl fs_kX3_17 fs_l27 rfl ?_
        refine fr_iload_n 12 dX3_holds_11 rfl rfl ?_
        refine fr_aald 13 dX3_holds_12 rfl fs_l28 (by omega) ?_
        refine fr_iload_n 14 dX3_holds_13 rfl rfl ?_
        refine fr_iald 15 dX3_holds_14 rfl (fs_f34 _ (by omega)) (by omega) ?_
        refine fr_aload_n 16 dX3_holds_15 rfl rfl ?_
        refine fr_getr 19 28 dX3_holds_16 rfl fs_kX3_17 fs_l27 rfl ?_
        refine fr_iload_n 20 dX3_holds_19 rfl rfl ?_
        refine fr_aald 21 dX3_holds_20 rfl fs_l28 (by omega) ?_
        refine fr_iload_n 22 dX3_holds_21 rfl rfl ?_
        refine fr_iald 23 dX3_holds_22 rfl (fs_f34 _ (by omega)) (by omega) ?_
        refine fr_icmp_gt 45 26 dX3_holds_23 rfl rfl (by omega) (by omega) (fun h23 => ?_) (fun h23 => ?_)
        · refine fr_iconst 46 dX3_holds_45 rfl ?_
          refine fr_zret dX3_holds_46 rfl (by omega) ?_
          refine ⟨congrArg some (if_neg ?_).symm, rfl⟩
          intro z
          have := (twi_all t o r).1 z f h0 (by omega)
          unfold tin at this
          rw [decide_eq_true_eq] at this
          omega
        · refine fr_aload_n 27 dX3_holds_26 rfl rfl ?_
          refine fr_getr 30 29 dX3_holds_27 rfl fs_kX3_20 fs_l27 rfl ?_
          refine fr_iload_n 31 dX3_holds_30 rfl rfl ?_
          refine fr_aald 32 dX3_holds_31 rfl fs_l29 (by omega) ?_
          refine fr_iload_n 33 dX3_holds_32 rfl rfl ?_
          refine fr_iald 34 dX3_holds_33 rfl (fs_f38 _ (by omega)) (by omega) ?_
          refine fr_aload_n 35 dX3_holds_34 rfl rfl ?_
          refine fr_getr 38 29 dX3_holds_35 rfl fs_kX3_20 fs_l27 rfl ?_
          refine fr_iload_n 39 dX3_holds_38 rfl rfl ?_
          refine fr_aald 40 dX3_holds_39 rfl fs_l29 (by omega) ?_
          refine fr_iload_n 41 dX3_holds_40 rfl rfl ?_
          refine fr_iald 42 dX3_holds_41 rfl (fs_f38 _ (by omega)) (by omega) ?_
          refine fr_icmp_ge 47 45 dX3_holds_42 rfl rfl (by omega) (by omega) (fun h42 => ?_) (fun h42 => ?_)
          · refine fr_iinc 50 [_, _, _, _] dX3_holds_47 rfl rfl rfl ?_
            refine fr_goto 2 dX3_holds_50 rfl ?_
            refine ih (f + 1) (by omega) (by omega) (by omega) (fun g a b => ?_)
            by_cases e : g = f
            · subst e
              exact decide_eq_true (by omega)
            · exact hI g a (by omega)
          · refine fr_iconst 46 dX3_holds_45 rfl ?_
            refine fr_zret dX3_holds_46 rfl (by omega) ?_
            refine ⟨congrArg some (if_neg ?_).symm, rfl⟩
            intro z
            have := (twi_all t o r).1 z f h0 (by omega)
            unfold tin at this
            rw [decide_eq_true_eq] at this
            omega
  refine fr_iconst 1 dX3_holds_0 rfl ?_
  refine fr_istore_n 2 [_, _, _, _] dX3_holds_1 rfl (Nat.le_of_ble_eq_true rfl) rfl ?_
  exact key 5 0 (by omega) (by omega) (by omega) (fun g a b => by omega)
set_option maxRecDepth 100000 in
set_option maxHeartbeats 3000000 in
theorem cK_coverOf {σ : fs_S} {t : rt} {r : Int} (hw : twf t) (hR : RC 27 σ t) (hO : OC σ t) (hr : 0 ≤ r ∧ r < tn t) : fs_C mX3_coverOf 1 [.inr 27, .inl r] σ (fun x τ => x = some (tcv t r) ∧ τ = σ) := by
  refine fs_C.intro [some (.inr 27), some (.inl r), none] fs_oX3_coverOf (Nat.le_of_ble_eq_true rfl) rfl ?_
  have hn := hw.1
  have hp := tpl_r (t := t) hr.1 hr.2
  have e33 := hO.2 r hr.1 hr.2
  have bt : ∀ b : Bool, (if b then (1 : Int) else 0) = 0 → b = false := fun b h => by cases b <;> simp_all
  have bf : ∀ b : Bool, ¬ (if b then (1 : Int) else 0) = 0 → b = true := fun b h => by cases b <;> simp_all
  have key : ∀ (m : Nat) (p : Int), 0 ≤ p → p ≤ tpl t r → tpl t r - p < m → (∀ j, 0 ≤ j → j < p → twi t (tod t j) r = false) → fs_W (fs_Γ 1 (fun x τ => x = some (tcv t r) ∧ τ = σ)) mX3_coverOf 2 [some (.inr 27), some (.inl r), some (.inl p)] [] σ := by
    intro m
    induction m with
    | zero => intro p h0 h1 h2; omega
    | succ m ih =>
      intro p h0 h1 h2 hI
      have e32 := hO.1 p h0
      refine fr_iload_n 3 dX3_coverOf_2 rfl rfl ?_
      refine fr_aload_n 4 dX3_coverOf_3 rfl rfl ?_
      refine fr_getr 7 33 dX3_coverOf_4 rfl fs_kX3_33 fs_l27 rfl ?_
      refine fr_iload_n 8 dX3_coverOf_7 rfl rfl ?_
      refine fr_iald 9 dX3_coverOf_8 rfl fs_l33 (by omega) ?_
      refine fr_icmp_ge 39 12 dX3_coverOf_9 rfl rfl (by omega) (by omega) (fun h9 => ?_) (fun h9 => ?_)
      · refine fr_bipush 41 dX3_coverOf_39 rfl (by decide) ?_
        refine fr_iret dX3_coverOf_41 rfl ?_
        refine ⟨congrArg some ?_, rfl⟩
        have el := lea_no (P := fun p => twi t (tod t p) r) (n := tpl t r) (by omega) (fun j a b => hI j a (by omega))
        unfold tcv
        rw [el, if_neg (by omega)]
      · refine fr_aload_n 13 dX3_coverOf_12 rfl rfl ?_
        refine fr_aload_n 14 dX3_coverOf_13 rfl rfl ?_
        refine fr_getr 17 32 dX3_coverOf_14 rfl fs_kX3_30 fs_l27 rfl ?_
        refine fr_iload_n 18 dX3_coverOf_17 rfl rfl ?_
        refine fr_iald 19 dX3_coverOf_18 rfl fs_l32 (by omega) ?_
        refine fr_top (e32 (by omega)) ?_
        have ho := tod_r (t := t) h0 (by omega)
        refine fr_iload_n 20 dX3_coverOf_19 rfl rfl ?_
        refine fr_callVi 23 (M2 := mX3_holds) [_, _] dX3_coverOf_20 rfl fs_mX3_57 fs_oX3_holds fs_iX3_holds fs_l27 rfl rfl (fs_Γ_rm (d := 0) (by decide)) (Nat.le_of_ble_eq_true rfl) rfl ?_
        refine (cK_holds hw hR ⟨ho.1, ho.2.1⟩ hr).ci ?_
        refine fr_if_eq 33 26 dX3_coverOf_23 rfl rfl (by split <;> decide) (fun h23 => ?_) (fun h23 => ?_)
        · refine fr_iinc 36 [_, _, _] dX3_coverOf_33 rfl rfl rfl ?_
          refine fr_goto 2 dX3_coverOf_36 rfl ?_
          refine ih (p + 1) (by omega) (by omega) (by omega) (fun j a b => ?_)
          by_cases e : j = p
          · subst e
            exact bt _ h23
          · exact hI j a (by omega)
        · refine fr_aload_n 27 dX3_coverOf_26 rfl rfl ?_
          refine fr_getr 30 32 dX3_coverOf_27 rfl fs_kX3_30 fs_l27 rfl ?_
          refine fr_iload_n 31 dX3_coverOf_30 rfl rfl ?_
          refine fr_iald 32 dX3_coverOf_31 rfl fs_l32 (by omega) ?_
          refine fr_top (e32 (by omega)) ?_
          refine fr_iret dX3_coverOf_32 rfl ?_
          refine ⟨congrArg some ?_, rfl⟩
          have el := lea_at (P := fun p => twi t (tod t p) r) h0 (by omega : p < tpl t r) (bf _ h23) hI
          unfold tcv
          rw [el, if_pos (by omega)]
  refine fr_iconst 1 dX3_coverOf_0 rfl ?_
  refine fr_istore_n 2 [_, _, _] dX3_coverOf_1 rfl (Nat.le_of_ble_eq_true rfl) rfl ?_
  exact key ((tpl t r).toNat + 1) 0 (by omega) (by omega) (by omega) (fun j a b => by omega)
