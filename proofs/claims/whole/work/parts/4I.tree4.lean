/-! ===== the class: Cutter measure, descend; lookedAt ===== -/
def Q_ms (t : rt) (b e : Int) (σ : fs_S) : fs_Q := fun x τ => x = none ∧ (τ 74 2 = trS t b e (fun _ => 1) 8 (root t) ∧ τ 74 3 = trS t b e (φL t b e) 8 (root t) ∧ τ 74 4 = trM t b e (fun N => N.2.2) 8 (root t) ∧ τ 74 5 = trS t b e (φP t b e) 8 (root t) ∧ τ 74 6 = trM t b e (φP t b e) 8 (root t) ∧ τ 74 7 = trS t b e (φE t b e) 8 (root t)) ∧ ∀ k i, ¬ (k = 74 ∧ 2 ≤ i ∧ i ≤ 7) → ¬ k = 76 → τ k i = σ k i
set_option maxRecDepth 100000 in
set_option maxHeartbeats 3000000 in
theorem cK_measure {σ : fs_S} {t : rt} {b e : Int} (hw : twf t) (hn : σ 27 0 = tn t) (hP : PV σ t) (hB : σ 74 0 = b) (hE : σ 74 1 = e) (hb : 1 ≤ b ∧ b ≤ 4) (he : 1 ≤ e ∧ e ≤ 8) : fs_C mX0_measure 13 [.inr 74] σ (Q_ms t b e σ) := by
  refine fs_C.intro [some (.inr 74)] fs_oX0_measure (Nat.le_of_ble_eq_true rfl) rfl ?_
  have m0 := trM_0 t b e (fun N : nd => N.2.2) 8 (root t)
  have m1 := trM_0 t b e (φP t b e) 8 (root t)
  obtain ⟨S, eS⟩ : ∃ S, S = fs_u (fs_u (fs_u (fs_u (fs_u (fs_u σ 74 2 0) 74 3 0) 74 4 0) 74 5 0) 74 6 0) 74 7 0 := ⟨_, rfl⟩
  have s0 : ∀ i, 2 ≤ i → i ≤ 7 → S 74 i = 0 := fun i a b => by rw [eS]; unfold fs_u; (repeat' split) <;> omega
  have sF : ∀ k i, ¬ (k = 74 ∧ 2 ≤ i ∧ i ≤ 7) → S k i = σ k i := fun k i z => by rw [eS, fs_u_ne _ (by omega), fs_u_ne _ (by omega), fs_u_ne _ (by omega), fs_u_ne _ (by omega), fs_u_ne _ (by omega), fs_u_ne _ (by omega)]
  refine fr_aload_n 1 dX0_measure_0 rfl rfl ?_
  refine fr_iconst 2 dX0_measure_1 rfl ?_
  refine fr_puti 5 2 dX0_measure_2 rfl fs_kX0_18 fs_pX0_2 rfl fs_l74 rfl ?_
  refine fr_aload_n 6 dX0_measure_5 rfl rfl ?_
  refine fr_iconst 7 dX0_measure_6 rfl ?_
  refine fr_puti 10 3 dX0_measure_7 rfl fs_kX0_21 fs_pX0_3 rfl fs_l74 rfl ?_
  refine fr_aload_n 11 dX0_measure_10 rfl rfl ?_
  refine fr_iconst 12 dX0_measure_11 rfl ?_
  refine fr_puti 15 4 dX0_measure_12 rfl fs_kX0_24 fs_pX0_4 rfl fs_l74 rfl ?_
  refine fr_aload_n 16 dX0_measure_15 rfl rfl ?_
  refine fr_iconst 17 dX0_measure_16 rfl ?_
  refine fr_puti 20 5 dX0_measure_17 rfl fs_kX0_27 fs_pX0_5 rfl fs_l74 rfl ?_
  refine fr_aload_n 21 dX0_measure_20 rfl rfl ?_
  refine fr_iconst 22 dX0_measure_21 rfl ?_
  refine fr_puti 25 6 dX0_measure_22 rfl fs_kX0_30 fs_pX0_6 rfl fs_l74 rfl ?_
  refine fr_aload_n 26 dX0_measure_25 rfl rfl ?_
  refine fr_iconst 27 dX0_measure_26 rfl ?_
  refine fr_puti 30 7 dX0_measure_27 rfl fs_kX0_33 fs_pX0_7 rfl fs_l74 rfl ?_
  rw [← eS]
  refine fr_aload_n 31 dX0_measure_30 rfl rfl ?_
  refine fr_getr 34 76 dX0_measure_31 rfl fs_kX0_43 fs_l74 rfl ?_
  refine fr_iconst 35 dX0_measure_34 rfl ?_
  refine fr_callSv 38 (M2 := mJ7_fill_53178) [_, _] dX0_measure_35 rfl fs_mX0_50 fs_oJ7_fill_53178 fs_sJ7_fill_53178 rfl (fs_Γ_rm (d := 0) (by decide)) (Nat.le_of_ble_eq_true rfl) rfl ?_
  refine (cK_fill fs_l76).mono ?_
  rintro _ τ ⟨rfl, f1, f2⟩
  refine ⟨rfl, ?_⟩
  refine fr_aload_n 39 dX0_measure_38 rfl rfl ?_
  refine fr_aload_n 40 dX0_measure_39 rfl rfl ?_
  refine fr_getr 43 42 dX0_measure_40 rfl fs_kX0_46 fs_l74 rfl ?_
  refine fr_callVi 46 (M2 := mX2_all) [] dX0_measure_43 rfl fs_mX0_56 fs_oX2_all fs_iX2_all fs_l42 rfl rfl (fs_Γ_rm (d := 0) (by decide)) (Nat.le_of_ble_eq_true rfl) rfl ?_
  refine (cK_all hw ((f2 _ _ (by decide)).trans ((sF _ _ (by decide)).trans hn))).ci ?_
  refine fr_iconst 47 dX0_measure_46 rfl ?_
  refine fr_callVv 50 (M2 := mX0_visit) [_, _] dX0_measure_47 rfl fs_mX0_62 fs_oX0_visit fs_iX0_visit fs_l74 rfl rfl (fs_Γ_rm (d := 12) (by decide)) (Nat.le_of_ble_eq_true rfl) rfl ?_
  refine (cK_visit (t := t) hw hb he 8 (by decide) (root t) τ (PV.eq hP (fun k i z z2 => (f2 k i (by omega)).trans (sF k i (by omega)))) ((f2 _ _ (by decide)).trans ((sF _ _ (by decide)).trans hB)) ((f2 _ _ (by decide)).trans ((sF _ _ (by decide)).trans hE)) (fun f a b => f1 f a b) (root_g hw) rfl (by rw [f2 _ _ (by decide), s0 _ (by decide) (by decide)]; decide) (by rw [f2 _ _ (by decide), s0 _ (by decide) (by decide)]; decide)).mono ?_
  rintro _ ρ ⟨rfl, ⟨b2, b3, b4, b5, b6, b7⟩, bF⟩
  rw [f2 _ _ (by decide), s0 _ (by decide) (by decide)] at b2 b3 b4 b5 b6 b7
  refine ⟨rfl, ?_⟩
  refine fr_vret dX0_measure_50 rfl ?_
  exact ⟨rfl, ⟨by omega, by omega, by omega, by omega, by omega, by omega⟩, fun k i z z2 => (bF k i z).trans ((f2 k i (by omega)).trans (sF k i z))⟩
/-! going down -/
theorem dsc : ∀ W : Nat, W = 2 ∨ W = 6 → ∀ x : Nat, x < 2 ^ W → ∀ c : Nat, c ≤ W → (ploN W ((2 ^ W + x) / 2 ^ (W - c)) ≤ x ∧ x ≤ phiN W ((2 ^ W + x) / 2 ^ (W - c))) ∧ (c = W → 2 ^ W ≤ (2 ^ W + x) / 2 ^ (W - c)) ∧ (c < W → (2 ^ W + x) / 2 ^ (W - (c + 1)) = 2 * ((2 ^ W + x) / 2 ^ (W - c)) + (if phiN W (2 * ((2 ^ W + x) / 2 ^ (W - c))) < x then 1 else 0)) := by
  have h6 : ∀ x : Nat, x < 64 → ∀ c : Nat, c < 7 → (ploN 6 ((2 ^ 6 + x) / 2 ^ (6 - c)) ≤ x ∧ x ≤ phiN 6 ((2 ^ 6 + x) / 2 ^ (6 - c))) ∧ (c = 6 → 2 ^ 6 ≤ (2 ^ 6 + x) / 2 ^ (6 - c)) ∧ (c < 6 → (2 ^ 6 + x) / 2 ^ (6 - (c + 1)) = 2 * ((2 ^ 6 + x) / 2 ^ (6 - c)) + (if phiN 6 (2 * ((2 ^ 6 + x) / 2 ^ (6 - c))) < x then 1 else 0)) := by decide +kernel
  have h2 : ∀ x : Nat, x < 4 → ∀ c : Nat, c < 3 → (ploN 2 ((2 ^ 2 + x) / 2 ^ (2 - c)) ≤ x ∧ x ≤ phiN 2 ((2 ^ 2 + x) / 2 ^ (2 - c))) ∧ (c = 2 → 2 ^ 2 ≤ (2 ^ 2 + x) / 2 ^ (2 - c)) ∧ (c < 2 → (2 ^ 2 + x) / 2 ^ (2 - (c + 1)) = 2 * ((2 ^ 2 + x) / 2 ^ (2 - c)) + (if phiN 2 (2 * ((2 ^ 2 + x) / 2 ^ (2 - c))) < x then 1 else 0)) := by decide +kernel
  intro W hW x hx c hc
  rcases hW with rfl | rfl
  · exact h2 x hx c (by omega)
  · exact h6 x hx c (by omega)
/-- on the way to a packet's leaf -/
def DV (t : rt) (x : Int → Int) (F : Nat) (N : nd) (c : Int → Int) : Prop := (∀ f, 0 ≤ f → f < 4 → ∃ j : Nat, c f = (j : Int) ∧ j ≤ wN f ∧ N.2.1 f = (2 ^ wN f + (x f).toNat) / 2 ^ (wN f - j)) ∧ (∀ i, F.testBit i = true → N.1.testBit i = true) ∧ (∀ i, N.1.testBit i = true → (i : Int) < tn t)
theorem tkm_le {t : rt} {f v a b : Int} {i : Nat} (h : (tkm t f v v).testBit i = true) (h1 : a ≤ v) (h2 : v ≤ b) : (tkm t f a b).testBit i = true := by
  obtain ⟨k1, k2⟩ := tkm_bit t f v v i h
  unfold tkm
  rw [bm_bit]
  simp only [tkP, Bool.and_eq_true, decide_eq_true_eq] at k2 ⊢
  omega
theorem DV.step {t : rt} {b e : Int} {x : Int → Int} {F : Nat} {N : nd} {c : Int → Int} (h : DV t x F N c) (hF : ∀ f, 0 ≤ f → f < 4 → ∀ i, F.testBit i = true → (tkm t f (x f) (x f)).testBit i = true) (hx : ∀ f, 0 ≤ f → f < 4 → 0 ≤ x f ∧ x f ≤ gr f) (hp : ¬ pick t b e N < 0) (f : Int) (hf : f = pick t b e N) : ∃ j hh : Nat, c f = (j : Int) ∧ j + 1 ≤ wN f ∧ hh = (if ((phiN (wN f) (2 * N.2.1 f) : Nat) : Int) < x f then 1 else 0) ∧ hh ≤ 1 ∧ 2 * N.2.1 f + hh = (2 ^ wN f + (x f).toNat) / 2 ^ (wN f - (j + 1)) ∧ DV t x F (kid t N f hh) (fun g => c g + (if g = f then 1 else 0)) := by
  subst hf
  obtain ⟨h1, h2, h3⟩ := h
  rcases pick_r t b e N with q | q
  · omega
  obtain ⟨⟨q1, q2, q3⟩, q4⟩ := q
  generalize pick t b e N = f at *
  obtain ⟨j, e1, e2, e3⟩ := h1 f q1 q2
  have gx := hx f q1 q2
  have gw := gr_wN f
  obtain ⟨d1, d2, d3⟩ := dsc (wN f) (wN_r f) (x f).toNat (by omega) j e2
  have hj : j < wN f := by
    rcases Nat.lt_or_ge j (wN f) with z | z
    · exact z
    · have := d2 (by omega); omega
  have d4 := d3 hj
  have hh : (if ((phiN (wN f) (2 * N.2.1 f) : Nat) : Int) < x f then 1 else 0 : Nat) = (if phiN (wN f) (2 * N.2.1 f) < (x f).toNat then 1 else 0) := by
    by_cases z : phiN (wN f) (2 * N.2.1 f) < (x f).toNat
    · rw [if_pos z, if_pos (by omega)]
    · rw [if_neg z, if_neg (by omega)]
  have nx : 2 * N.2.1 f + (if ((phiN (wN f) (2 * N.2.1 f) : Nat) : Int) < x f then 1 else 0) = (2 ^ wN f + (x f).toNat) / 2 ^ (wN f - (j + 1)) := by rw [hh, d4, ← e3]
  obtain ⟨d5, -, -⟩ := dsc (wN f) (wN_r f) (x f).toNat (by omega) (j + 1) (by omega)
  rw [← nx] at d5
  refine ⟨j, _, e1, hj, rfl, by split <;> decide, nx, ⟨fun g a b => ?_, fun i z => ?_, fun i z => ?_⟩⟩
  · show ∃ j : Nat, c g + (if g = f then 1 else 0) = (j : Int) ∧ j ≤ wN g ∧ (if g = f then 2 * N.2.1 f + _ else N.2.1 g) = _
    by_cases z : g = f
    · subst z
      refine ⟨j + 1, ?_, hj, ?_⟩
      · rw [if_pos rfl]; omega
      · rw [if_pos rfl]; exact nx
    · rw [if_neg z, if_neg z, Int.add_zero]; exact h1 g a b
  · show (hlf t N f _).testBit i = true
    unfold hlf
    rw [Nat.testBit_and, h2 i z, Bool.true_and]
    exact tkm_le (hF f q1 q2 i z) (by omega) (by omega)
  · change (hlf t N f _).testBit i = true at z
    unfold hlf at z
    rw [Nat.testBit_and, Bool.and_eq_true] at z
    exact h3 i z.1
