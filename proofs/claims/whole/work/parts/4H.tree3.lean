/-! ===== an array's length; Arrays.fill; Cutter: visit, measure ===== -/
section ALEN
variable {Γ : fs_G} {M : fs_Me} {pc : Nat} {L : List (Option fs_V)} {st : List fs_V} {σ : fs_S}
theorem fr_alen (q : Nat) {k : Int} {n : Nat} (hd : decode M.2.1 pc = .ok (.arraylength, 1)) (hp : pc + 1 = q) (hl : fs_lay k = some (.inr (.inl (n, false)))) (kk : fs_W Γ M q L (.inl (n : Int) :: st) σ) : fs_W Γ M pc L (.inr k :: st) σ := by
  intro p l e R s m args below meth c D ad cs cells slots Z hC hG hn H locs ls hH hL
  subst hp
  have K := kk p l e R s m args below meth c D ad cs cells slots Z hC hG hn H locs ls hH hL
  exact va_alen hC.1 hC.2.1 hC.2.2.2.2.2.2.2.1 hH.1 k.toNat 0 (fs_get hl) rfl (v := Int32.ofInt (n : Int)) rfl hd K
end ALEN
def Q_fill (k v : Int) (n : Nat) (σ : fs_S) : fs_Q := fun x τ => x = none ∧ (∀ i, 0 ≤ i → i < (n : Int) → τ k i = v) ∧ ∀ k' i, ¬ (k' = k ∧ 0 ≤ i ∧ i < (n : Int)) → τ k' i = σ k' i
set_option maxRecDepth 100000 in
set_option maxHeartbeats 3000000 in
theorem cK_fill {σ : fs_S} {k v : Int} {n : Nat} (hl : fs_lay k = some (.inr (.inl (n, false)))) : fs_C mJ7_fill_53178 0 [.inr k, .inl v] σ (Q_fill k v n σ) := by
  refine fs_C.intro [some (.inr k), some (.inl v), none, none] fs_oJ7_fill_53178 (Nat.le_of_ble_eq_true rfl) rfl ?_
  have hN := fs_capA hl
  have key : ∀ (m j : Nat) (τ : fs_S), j + m = n → (∀ i, 0 ≤ i → i < (j : Int) → τ k i = v) → (∀ k' i, ¬ (k' = k ∧ 0 ≤ i ∧ i < (n : Int)) → τ k' i = σ k' i) → fs_W (fs_Γ 0 (Q_fill k v n σ)) mJ7_fill_53178 5 [some (.inr k), some (.inl v), some (.inl (j : Int)), some (.inl (n : Int))] [] τ := by
    intro m
    induction m with
    | zero =>
      intro j τ hj h1 h2
      refine fr_iload_n 6 dJ7_fill_53178_5 rfl rfl ?_
      refine fr_iload_n 7 dJ7_fill_53178_6 rfl rfl ?_
      refine fr_icmp_ge 20 10 dJ7_fill_53178_7 rfl rfl (by omega) (by omega) (fun h7 => ?_) (fun h7 => ?_)
      · refine fr_vret dJ7_fill_53178_20 rfl ?_
        exact ⟨rfl, fun i a b => h1 i a (by omega), h2⟩
      · omega
    | succ m ih =>
      intro j τ hj h1 h2
      refine fr_iload_n 6 dJ7_fill_53178_5 rfl rfl ?_
      refine fr_iload_n 7 dJ7_fill_53178_6 rfl rfl ?_
      refine fr_icmp_ge 20 10 dJ7_fill_53178_7 rfl rfl (by omega) (by omega) (fun h7 => ?_) (fun h7 => ?_)
      · omega
      · refine fr_aload_n 11 dJ7_fill_53178_10 rfl rfl ?_
        refine fr_iload_n 12 dJ7_fill_53178_11 rfl rfl ?_
        refine fr_iload_n 13 dJ7_fill_53178_12 rfl rfl ?_
        refine fr_iast 14 dJ7_fill_53178_13 rfl hl (by omega) ?_
        refine fr_iinc 17 [_, _, _, _] dJ7_fill_53178_14 rfl rfl rfl ?_
        refine fr_goto 5 dJ7_fill_53178_17 rfl ?_
        exact ih (j + 1) _ (by omega) (fun i a b => by
          by_cases e : i = (j : Int)
          · rw [e, fs_u_eq]
          · rw [fs_u_i _ e]; exact h1 i a (by omega)) (fun k' i z => by rw [fs_u_ne _ (by omega)]; exact h2 k' i z)
  refine fr_iconst 1 dJ7_fill_53178_0 rfl ?_
  refine fr_istore_n 2 [_, _, _, _] dJ7_fill_53178_1 rfl (Nat.le_of_ble_eq_true rfl) rfl ?_
  refine fr_aload_n 3 dJ7_fill_53178_2 rfl rfl ?_
  refine fr_alen 4 dJ7_fill_53178_3 rfl hl ?_
  refine fr_istore_n 5 [_, _, _, _] dJ7_fill_53178_4 rfl (Nat.le_of_ble_eq_true rfl) rfl ?_
  exact key n 0 _ (by omega) (fun i a b => by omega) (fun _ _ _ => rfl)
/-! visiting -/
theorem trS_leaf {t : rt} {b e : Int} {N : nd} (φ : nd → Int) (h : pick t b e N < 0) (n : Nat) : trS t b e φ n N = φ N := by
  cases n with
  | zero => rfl
  | succ n => rw [trS, if_pos h]; omega
theorem trM_leaf {t : rt} {b e : Int} {N : nd} (φ : nd → Int) (h : pick t b e N < 0) (n : Nat) : trM t b e φ n N = max 0 (φ N) := by
  cases n with
  | zero => rfl
  | succ n => rw [trM, if_pos h]; omega
theorem trM_le {t : rt} {b e : Int} {φ : nd → Int} {c : Int} (hc : 0 ≤ c) (h : ∀ N, gdN N → φ N ≤ c) : ∀ (n : Nat) (N : nd), gdN N → N.2.2 = 8 - (n : Int) → (1 ≤ e ∧ e ≤ 8) → trM t b e φ n N ≤ c
  | 0, N, g, _, _ => by rw [trM]; have := h N g; omega
  | n + 1, N, g, hd, he => by
    rw [trM]
    have h0 := h N g
    by_cases hp : pick t b e N < 0
    · rw [if_pos hp]; omega
    · rw [if_neg hp]
      rcases pick_r t b e N with q | q
      · omega
      · have k0 := trM_le (t := t) (b := b) hc h n (kid t N (pick t b e N) 0) (kid_g g (by decide) ⟨q.1.1, q.1.2.1⟩ q.1.2.2 (by omega)) (by show N.2.2 + 1 = _; omega) he
        have k1 := trM_le (t := t) (b := b) hc h n (kid t N (pick t b e N) 1) (kid_g g (by decide) ⟨q.1.1, q.1.2.1⟩ q.1.2.2 (by omega)) (by show N.2.2 + 1 = _; omega) he
        omega
def Q_vis (t : rt) (b e : Int) (n : Nat) (N : nd) (σ : fs_S) : fs_Q := fun x τ => x = none ∧ (τ 74 2 = σ 74 2 + trS t b e (fun _ => 1) n N ∧ τ 74 3 = σ 74 3 + trS t b e (φL t b e) n N ∧ τ 74 4 = max (σ 74 4) (trM t b e (fun N => N.2.2) n N) ∧ τ 74 5 = σ 74 5 + trS t b e (φP t b e) n N ∧ τ 74 6 = max (σ 74 6) (trM t b e (φP t b e) n N) ∧ τ 74 7 = σ 74 7 + trS t b e (φE t b e) n N) ∧ ∀ k i, ¬ (k = 74 ∧ 2 ≤ i ∧ i ≤ 7) → τ k i = σ k i
set_option maxRecDepth 100000 in
set_option maxHeartbeats 3000000 in
theorem vis_leaf {t : rt} {b e : Int} {n : Nat} {N : nd} {σ : fs_S} (hw : twf t) (hb : 1 ≤ b ∧ b ≤ 4) (he : 1 ≤ e ∧ e ≤ 8) (hP : PV σ t) (hB : σ 74 0 = b) (hE : σ 74 1 = e) (hN : ∀ f, 0 ≤ f → f < 4 → σ 76 f = ((N.2.1 f : Nat) : Int)) (hg : gdN N) (h4 : 0 ≤ σ 74 4 ∧ σ 74 4 ≤ 8) (h6 : 0 ≤ σ 74 6 ∧ σ 74 6 ≤ 16) (hp : pick t b e N < 0) (S : fs_S) (s2 : S 74 2 = σ 74 2 + 1) (s4 : S 74 4 = max (σ 74 4) N.2.2) (sF : ∀ k i, ¬ (k = 74 ∧ (i = 2 ∨ i = 4)) → S k i = σ k i) : fs_W (fs_Γ (4 + n) (Q_vis t b e n N σ)) mX0_visit 22 [some (.inr 74), some (.inl ((N.1 : Nat) : Int)), some (.inl N.2.2), none, none] [] S := by
  obtain ⟨g1, g2, g3⟩ := id hg
  have s6 : S 74 6 = σ 74 6 := sF _ _ (by decide)
  have hp16 := pop_r N.1
  refine fr_aload_n 23 dX0_visit_22 rfl rfl ?_
  refine fr_iload_n 24 dX0_visit_23 rfl rfl ?_
  refine fr_iload_n 25 dX0_visit_24 rfl rfl ?_
  refine fr_callVi 28 (M2 := mX0_cutField) [_, _] dX0_visit_25 rfl fs_mX0_72 fs_oX0_cutField fs_iX0_cutField fs_l74 rfl rfl (fs_Γ_rm (d := 1) (by omega)) (Nat.le_of_ble_eq_true rfl) rfl ?_
  refine (cK_cutField hw (PV.eq hP (fun k i z _ => sF k i (by omega))) ((sF _ _ (by decide)).trans hB) ((sF _ _ (by decide)).trans hE) hb he (fun f a b => (sF _ _ (by omega)).trans (hN f a b)) hg).ci ?_
  refine fr_istore_n 29 [_, _, _, _, _] dX0_visit_28 rfl (Nat.le_of_ble_eq_true rfl) rfl ?_
  refine fr_iload_n 30 dX0_visit_29 rfl rfl ?_
  refine fr_if_ge 42 33 dX0_visit_30 rfl rfl (by unfold cn1; rw [if_pos hp]; decide) (fun h30 => ?_) (fun h30 => ?_)
  · exact absurd h30 (by unfold cn1; rw [if_pos hp]; decide)
  · refine fr_aload_n 34 dX0_visit_33 rfl rfl ?_
    refine fr_iload_n 35 dX0_visit_34 rfl rfl ?_
    refine fr_callSi 38 (M2 := mJ6_bitCount_0f7a4) [_] dX0_visit_35 rfl fs_mX0_75 fs_oJ6_bitCount_0f7a4 fs_sJ6_bitCount_0f7a4 rfl (fs_Γ_rm (d := 0) (by omega)) (Nat.le_of_ble_eq_true rfl) rfl ?_
    refine (cK_bitCount g1).ci ?_
    refine fr_callVv 41 (M2 := mX0_addLeaf) [_] dX0_visit_38 rfl fs_mX0_81 fs_oX0_addLeaf fs_iX0_addLeaf fs_l74 rfl rfl (fs_Γ_rm (d := 1) (by omega)) (Nat.le_of_ble_eq_true rfl) rfl ?_
    refine (cK_addLeaf (by omega) (by omega)).mono ?_
    rintro _ τ ⟨rfl, ⟨q3, q5, q6, q7⟩, qF⟩
    refine ⟨rfl, ?_⟩
    refine fr_vret dX0_visit_41 rfl ?_
    refine ⟨rfl, ⟨?_, ?_, ?_, ?_, ?_, ?_⟩, fun k i z => (qF k i (by omega)).trans (sF k i (by omega))⟩
    · rw [trS_leaf _ hp, qF _ _ (by decide)]; exact s2
    · rw [trS_leaf _ hp, q3, sF _ _ (by decide)]; unfold φL; rw [if_pos hp]
    · rw [trM_leaf _ hp, qF _ _ (by decide), s4]; omega
    · rw [trS_leaf _ hp, q5, sF _ _ (by decide)]; unfold φP; rw [if_pos hp]
    · rw [trM_leaf _ hp, q6, s6]; unfold φP; rw [if_pos hp]; omega
    · rw [trS_leaf _ hp, q7, sF _ _ (by decide)]; unfold φE
      by_cases z : pop N.1 = 0
      · rw [if_pos z, if_pos ⟨hp, z⟩]
      · rw [if_neg z, if_neg (fun q => z q.2)]
theorem trS_cut {t : rt} {b e : Int} {N : nd} (φ : nd → Int) (h : ¬ pick t b e N < 0) (n : Nat) : trS t b e φ (n + 1) N = φ N + (trS t b e φ n (kid t N (pick t b e N) 0) + trS t b e φ n (kid t N (pick t b e N) 1)) := by rw [trS, if_neg h]
theorem trM_cut {t : rt} {b e : Int} {N : nd} (φ : nd → Int) (h : ¬ pick t b e N < 0) (n : Nat) : trM t b e φ (n + 1) N = max (max 0 (φ N)) (max (trM t b e φ n (kid t N (pick t b e N) 0)) (trM t b e φ n (kid t N (pick t b e N) 1))) := by rw [trM, if_neg h]
set_option maxRecDepth 100000 in
set_option maxHeartbeats 3000000 in
theorem cK_visit {t : rt} {b e : Int} (hw : twf t) (hb : 1 ≤ b ∧ b ≤ 4) (he : 1 ≤ e ∧ e ≤ 8) : ∀ (n : Nat), n ≤ 8 → ∀ (N : nd) (σ : fs_S), PV σ t → σ 74 0 = b → σ 74 1 = e → (∀ f, 0 ≤ f → f < 4 → σ 76 f = ((N.2.1 f : Nat) : Int)) → gdN N → N.2.2 = 8 - (n : Int) → (0 ≤ σ 74 4 ∧ σ 74 4 ≤ 8) → (0 ≤ σ 74 6 ∧ σ 74 6 ≤ 16) → fs_C mX0_visit (4 + n) [.inr 74, .inl ((N.1 : Nat) : Int), .inl N.2.2] σ (Q_vis t b e n N σ) := by
  intro n
  induction n with
  | zero =>
    intro _ N σ hP hB hE hN hg hd h4 h6
    refine fs_C.intro [some (.inr 74), some (.inl ((N.1 : Nat) : Int)), some (.inl N.2.2), none, none] fs_oX0_visit (Nat.le_of_ble_eq_true rfl) rfl ?_
    have hg3 := hg.2.2
    have hp : pick t b e N < 0 := by
      rcases pick_r t b e N with q | q <;> omega
    have e4 : fs_u σ 74 2 (σ 74 2 + 1) 74 4 = σ 74 4 := fs_u_i _ (by decide)
    refine fr_aload_n 1 dX0_visit_0 rfl rfl ?_
    refine fr_dup 2 dX0_visit_1 rfl ?_
    refine fr_geti 5 2 dX0_visit_2 rfl fs_kX0_18 rfl fs_l74 rfl ?_
    refine fr_iconst 6 dX0_visit_5 rfl ?_
    refine fr_iadd 7 dX0_visit_6 rfl ?_
    refine fr_puti 10 2 dX0_visit_7 rfl fs_kX0_18 fs_pX0_2 rfl fs_l74 rfl ?_
    refine fr_aload_n 11 dX0_visit_10 rfl rfl ?_
    refine fr_aload_n 12 dX0_visit_11 rfl rfl ?_
    refine fr_geti 15 4 dX0_visit_12 rfl fs_kX0_24 rfl fs_l74 rfl ?_
    refine fr_top e4 ?_
    refine fr_iload_n 16 dX0_visit_15 rfl rfl ?_
    refine fr_mmax 19 dX0_visit_16 rfl fs_mX0_66 fs_sJ9_max_7cf53 fs_iniMath fs_cdmax (fs_Γ_rm (d := 0) (by omega)) (Nat.le_of_ble_eq_true rfl) (by omega) (by omega) ?_
    refine fr_puti 22 4 dX0_visit_19 rfl fs_kX0_24 fs_pX0_4 rfl fs_l74 rfl ?_
    exact vis_leaf hw hb he hP hB hE hN hg h4 h6 hp _ (by rw [fs_u_i _ (by decide), fs_u_eq]) (fs_u_eq _ _ _ _) (fun k i z => by rw [fs_u_ne _ (by omega), fs_u_ne _ (by omega)])
  | succ n ih =>
    intro hn8 N σ hP hB hE hN hg hd h4 h6
    refine fs_C.intro [some (.inr 74), some (.inl ((N.1 : Nat) : Int)), some (.inl N.2.2), none, none] fs_oX0_visit (Nat.le_of_ble_eq_true rfl) rfl ?_
    obtain ⟨g1, g2, g3⟩ := id hg
    have key : ∀ S : fs_S, ¬ pick t b e N < 0 → S 74 2 = σ 74 2 + 1 → S 74 4 = max (σ 74 4) N.2.2 → (∀ k i, ¬ (k = 74 ∧ (i = 2 ∨ i = 4)) → S k i = σ k i) → fs_W (fs_Γ (4 + (n + 1)) (Q_vis t b e (n + 1) N σ)) mX0_visit 22 [some (.inr 74), some (.inl ((N.1 : Nat) : Int)), some (.inl N.2.2), none, none] [] S := by
      intro S hp s2 s4 sF
      have pr := pick_r t b e N
      have s6 : S 74 6 = σ 74 6 := sF _ _ (by decide)
      have cf := @trS_cut t b e N
      have cm := @trM_cut t b e N
      have cc := fun h => cK_cutField hw (PV.eq hP (fun k i z _ => sF k i (by omega))) ((sF _ _ (by decide)).trans hB) ((sF _ _ (by decide)).trans hE) hb he h hg
      have kg : ∀ h : Nat, h ≤ 1 → gdN (kid t N (pick t b e N) h) := fun h hh => by
        rcases pr with q | q
        · exact absurd (show pick t b e N < 0 by omega) hp
        · exact kid_g hg hh ⟨q.1.1, q.1.2.1⟩ q.1.2.2 (by omega)
      have fL : φL t b e N = 0 := if_neg hp
      have fP : φP t b e N = 0 := if_neg hp
      have fE : φE t b e N = 0 := if_neg (fun z => hp z.1)
      have kx : ∀ (f : Int) (h : Nat), kid t N f h = (hlf t N f h, fun g => if g = f then 2 * N.2.1 f + h else N.2.1 g, N.2.2 + 1) := fun _ _ => rfl
      have hx : ∀ (f : Int) (h : Nat), hlf t N f h = N.1 &&& tkm t f ((ploN (wN f) (2 * N.2.1 f + h) : Nat) : Int) ((phiN (wN f) (2 * N.2.1 f + h) : Nat) : Int) := fun _ _ => rfl
      have dle := fun h hh => trM_le (t := t) (b := b) (e := e) (φ := fun N : nd => N.2.2) (c := 8) (by decide) (fun M hM => hM.2.2.2) n (kid t N (pick t b e N) h) (kg h hh) (by show N.2.2 + 1 = _; omega) he
      have ple := fun h hh => trM_le (t := t) (b := b) (e := e) (φ := φP t b e) (c := 16) (by decide) (fun M _ => by have := pop_r M.1; unfold φP; split <;> omega) n (kid t N (pick t b e N) h) (kg h hh) (by show N.2.2 + 1 = _; omega) he
      obtain ⟨f, ef⟩ : ∃ f, f = pick t b e N := ⟨_, rfl⟩
      rw [← ef] at pr hp cf cm kg dle ple
      have hf : 0 ≤ f ∧ f < 4 := by omega
      have cn : cn1 (pick t b e N) = f := by rw [← ef]; exact if_neg hp
      obtain ⟨w, ew⟩ : ∃ w, w = N.2.1 f := ⟨_, rfl⟩
      have gw := gr_wN f
      have gf := gr_r f
      have q := g2 f hf.1 hf.2
      have eN : S 76 f = (w : Int) := by rw [ew, sF _ _ (by omega)]; exact hN f hf.1 hf.2
      have pw : 2 ^ (wN f + 1) = 2 * 2 ^ wN f := by rw [Nat.pow_succ]; omega
      rw [← ew] at q
      have pr2 : w < 2 ^ wN f := by rcases pr with z | z; omega; rw [ew]; exact z.1.2.2
      have m0 := trM_0 t b e (fun N : nd => N.2.2) n (kid t N f 0)
      have m1 := trM_0 t b e (φP t b e) n (kid t N f 0)
      have i0 := fun (σ' : fs_S) h1 h2 h3 h4 h5 h6 => ih (by omega) (kid t N f 0) σ' h1 h2 h3 h4 (kg 0 (by decide)) (by show N.2.2 + 1 = _; omega) h5 h6
      have i1 := fun (σ' : fs_S) h1 h2 h3 h4 h5 h6 => ih (by omega) (kid t N f 1) σ' h1 h2 h3 h4 (kg 1 (by decide)) (by show N.2.2 + 1 = _; omega) h5 h6
      have d0 := dle 0 (by decide)
      have p0 := ple 0 (by decide)
      clear dle ple ih pr
      refine fr_aload_n 23 dX0_visit_22 rfl rfl ?_
      refine fr_iload_n 24 dX0_visit_23 rfl rfl ?_
      refine fr_iload_n 25 dX0_visit_24 rfl rfl ?_
      refine fr_callVi 28 (M2 := mX0_cutField) [_, _] dX0_visit_25 rfl fs_mX0_72 fs_oX0_cutField fs_iX0_cutField fs_l74 rfl rfl (fs_Γ_rm (d := 1) (by omega)) (Nat.le_of_ble_eq_true rfl) rfl ?_
      refine (cc (fun f a b => (sF _ _ (by omega)).trans (hN f a b))).ci ?_
      refine fr_top cn ?_
      refine fr_istore_n 29 [_, _, _, _, _] dX0_visit_28 rfl (Nat.le_of_ble_eq_true rfl) rfl ?_
      refine fr_iload_n 30 dX0_visit_29 rfl rfl ?_
      refine fr_if_ge 42 33 dX0_visit_30 rfl rfl (by omega) (fun h30 => ?_) (fun h30 => ?_)
      · refine fr_aload_n 43 dX0_visit_42 rfl rfl ?_
        refine fr_getr 46 76 dX0_visit_43 rfl fs_kX0_43 fs_l74 rfl ?_
        refine fr_iload_n 47 dX0_visit_46 rfl rfl ?_
        refine fr_iald 48 dX0_visit_47 rfl fs_l76 (by omega) ?_
        refine fr_top eN ?_
        refine fr_istore 50 [_, _, _, _, _] dX0_visit_48 rfl (Nat.le_of_ble_eq_true rfl) rfl ?_
        refine fr_aload_n 51 dX0_visit_50 rfl rfl ?_
        refine fr_getr 54 76 dX0_visit_51 rfl fs_kX0_43 fs_l74 rfl ?_
        refine fr_iload_n 55 dX0_visit_54 rfl rfl ?_
        refine fr_iconst 56 dX0_visit_55 rfl ?_
        refine fr_iload 58 dX0_visit_56 rfl rfl ?_
        refine fr_imul 59 dX0_visit_58 rfl ?_
        refine fr_iast 60 dX0_visit_59 rfl fs_l76 (by omega) ?_
        refine fr_aload_n 61 dX0_visit_60 rfl rfl ?_
        refine fr_iload_n 62 dX0_visit_61 rfl rfl ?_
        refine fr_aload_n 63 dX0_visit_62 rfl rfl ?_
        refine fr_getr 66 42 dX0_visit_63 rfl fs_kX0_46 fs_l74 rfl ?_
        refine fr_getr 69 43 dX0_visit_66 rfl fs_kX0_85 fs_l42 rfl ?_
        refine fr_iload_n 70 dX0_visit_69 rfl rfl ?_
        refine fr_aald 71 dX0_visit_70 rfl fs_l43 (by omega) ?_
        refine fr_iconst 72 dX0_visit_71 rfl ?_
        refine fr_iload 74 dX0_visit_72 rfl rfl ?_
        refine fr_imul 75 dX0_visit_74 rfl ?_
        refine fr_top (show 2 * (w : Int) = ((2 * w : Nat) : Int) by omega) ?_
        refine fr_iald 76 dX0_visit_75 rfl (fs_f44 _ (by omega)) (by omega) ?_
        refine fr_top (((fs_u_k _ _ (by omega)).trans (sF _ _ (by omega))).trans (hP f (2 * w) hf.1 hf.2 (by omega) (by omega))) ?_
        refine fr_iand 77 dX0_visit_76 rfl ?_
        refine fr_top (y := ((hlf t N f 0 : Nat) : Int)) (by rw [fm_and (by omega) (by have := tkm_lt hw f ((ploN (wN f) (2 * w) : Nat) : Int) ((phiN (wN f) (2 * w) : Nat) : Int); omega), hx, ← ew]; rfl) ?_
        refine fr_iload_n 78 dX0_visit_77 rfl rfl ?_
        refine fr_iconst 79 dX0_visit_78 rfl ?_
        refine fr_iadd 80 dX0_visit_79 rfl ?_
        refine fr_callVv 83 (M2 := mX0_visit) [_, _] dX0_visit_80 rfl fs_mX0_62 fs_oX0_visit fs_iX0_visit fs_l74 rfl rfl (fs_Γ_rm (d := 4 + n) (by omega)) (Nat.le_of_ble_eq_true rfl) rfl ?_
        refine (i0 _ (PV.eq hP (fun k i z _ => (fs_u_k _ _ (by omega)).trans (sF k i (by omega)))) ((fs_u_k _ _ (by decide)).trans ((sF _ _ (by decide)).trans hB)) ((fs_u_k _ _ (by decide)).trans ((sF _ _ (by decide)).trans hE)) (fun g a b => ?_) (by rw [fs_u_k _ _ (by decide)]; omega) (by rw [fs_u_k _ _ (by decide)]; omega)).mono ?_
        · show _ = (((if g = f then 2 * N.2.1 f + 0 else N.2.1 g) : Nat) : Int)
          by_cases z : g = f
          · rw [if_pos z, z, fs_u_eq, ← ew]; omega
          · rw [if_neg z, fs_u_i _ z, sF _ _ (by omega)]; exact hN g a b
        rintro _ τ ⟨rfl, ⟨a2, a3, a4, a5, a6, a7⟩, aF⟩
        dsimp only at a2 a3 a4 a5 a6 a7 aF
        rw [fs_u_k _ _ (by decide)] at a2 a3 a4 a5 a6 a7
        have tF : ∀ k i, ¬ (k = 74 ∧ 2 ≤ i ∧ i ≤ 7) → ¬ (k = 76 ∧ i = f) → τ k i = σ k i := fun k i z1 z2 => by rw [aF k i z1, fs_u_ne _ z2, sF k i (by omega)]
        refine ⟨rfl, ?_⟩
        refine fr_aload_n 84 dX0_visit_83 rfl rfl ?_
        refine fr_getr 87 76 dX0_visit_84 rfl fs_kX0_43 fs_l74 rfl ?_
        refine fr_iload_n 88 dX0_visit_87 rfl rfl ?_
        refine fr_iconst 89 dX0_visit_88 rfl ?_
        refine fr_iload 91 dX0_visit_89 rfl rfl ?_
        refine fr_imul 92 dX0_visit_91 rfl ?_
        refine fr_top (show 2 * (w : Int) = ((2 * w : Nat) : Int) by omega) ?_
        refine fr_iconst 93 dX0_visit_92 rfl ?_
        refine fr_iadd 94 dX0_visit_93 rfl ?_
        refine fr_iast 95 dX0_visit_94 rfl fs_l76 (by omega) ?_
        refine fr_aload_n 96 dX0_visit_95 rfl rfl ?_
        refine fr_iload_n 97 dX0_visit_96 rfl rfl ?_
        refine fr_aload_n 98 dX0_visit_97 rfl rfl ?_
        refine fr_getr 101 42 dX0_visit_98 rfl fs_kX0_46 fs_l74 rfl ?_
        refine fr_getr 104 43 dX0_visit_101 rfl fs_kX0_85 fs_l42 rfl ?_
        refine fr_iload_n 105 dX0_visit_104 rfl rfl ?_
        refine fr_aald 106 dX0_visit_105 rfl fs_l43 (by omega) ?_
        refine fr_iconst 107 dX0_visit_106 rfl ?_
        refine fr_iload 109 dX0_visit_107 rfl rfl ?_
        refine fr_imul 110 dX0_visit_109 rfl ?_
        refine fr_top (show 2 * (w : Int) = ((2 * w : Nat) : Int) by omega) ?_
        refine fr_iconst 111 dX0_visit_110 rfl ?_
        refine fr_iadd 112 dX0_visit_111 rfl ?_
        refine fr_top (show ((2 * w : Nat) : Int) + 1 = ((2 * w + 1 : Nat) : Int) by omega) ?_
        refine fr_iald 113 dX0_visit_112 rfl (fs_f44 _ (by omega)) (by omega) ?_
        refine fr_top (((fs_u_k _ _ (by omega)).trans (tF _ _ (by omega) (by omega))).trans (hP f (2 * w + 1) hf.1 hf.2 (by omega) (by omega))) ?_
        refine fr_iand 114 dX0_visit_113 rfl ?_
        refine fr_top (y := ((hlf t N f 1 : Nat) : Int)) (by rw [fm_and (by omega) (by have := tkm_lt hw f ((ploN (wN f) (2 * w + 1) : Nat) : Int) ((phiN (wN f) (2 * w + 1) : Nat) : Int); omega), hx, ← ew]) ?_
        refine fr_iload_n 115 dX0_visit_114 rfl rfl ?_
        refine fr_iconst 116 dX0_visit_115 rfl ?_
        refine fr_iadd 117 dX0_visit_116 rfl ?_
        refine fr_callVv 120 (M2 := mX0_visit) [_, _] dX0_visit_117 rfl fs_mX0_62 fs_oX0_visit fs_iX0_visit fs_l74 rfl rfl (fs_Γ_rm (d := 4 + n) (by omega)) (Nat.le_of_ble_eq_true rfl) rfl ?_
        refine (i1 _ (PV.eq hP (fun k i z _ => (fs_u_k _ _ (by omega)).trans (tF k i (by omega) (by omega)))) ((fs_u_k _ _ (by decide)).trans ((tF _ _ (by decide) (by omega)).trans hB)) ((fs_u_k _ _ (by decide)).trans ((tF _ _ (by decide) (by omega)).trans hE)) (fun g a b => ?_) (by rw [fs_u_k _ _ (by decide)]; omega) (by rw [fs_u_k _ _ (by decide)]; omega)).mono ?_
        · show _ = (((if g = f then 2 * N.2.1 f + 1 else N.2.1 g) : Nat) : Int)
          by_cases z : g = f
          · rw [if_pos z, z, fs_u_eq, ← ew]; omega
          · rw [if_neg z, fs_u_i _ z, tF _ _ (by omega) (by omega)]; exact hN g a b
        rintro _ ρ ⟨rfl, ⟨b2, b3, b4, b5, b6, b7⟩, bF⟩
        dsimp only at b2 b3 b4 b5 b6 b7 bF
        rw [fs_u_k _ _ (by decide)] at b2 b3 b4 b5 b6 b7
        have uF : ∀ k i, ¬ (k = 74 ∧ 2 ≤ i ∧ i ≤ 7) → ¬ (k = 76 ∧ i = f) → ρ k i = σ k i := fun k i z1 z2 => by rw [bF k i z1, fs_u_ne _ z2, tF k i z1 z2]
        refine ⟨rfl, ?_⟩
        refine fr_aload_n 121 dX0_visit_120 rfl rfl ?_
        refine fr_getr 124 76 dX0_visit_121 rfl fs_kX0_43 fs_l74 rfl ?_
        refine fr_iload_n 125 dX0_visit_124 rfl rfl ?_
        refine fr_iload 127 dX0_visit_125 rfl rfl ?_
        refine fr_iast 128 dX0_visit_127 rfl fs_l76 (by omega) ?_
        refine fr_vret dX0_visit_128 rfl ?_
        refine ⟨rfl, ⟨?_, ?_, ?_, ?_, ?_, ?_⟩, fun k i z => ?_⟩
        · rw [fs_u_k _ _ (by decide), b2, a2, s2, cf _ hp]; omega
        · rw [fs_u_k _ _ (by decide), b3, a3, sF _ _ (by decide), cf _ hp, fL]; omega
        · rw [fs_u_k _ _ (by decide), b4, a4, s4, cm _ hp]; omega
        · rw [fs_u_k _ _ (by decide), b5, a5, sF _ _ (by decide), cf _ hp, fP]; omega
        · rw [fs_u_k _ _ (by decide), b6, a6, s6, cm _ hp, fP]; omega
        · rw [fs_u_k _ _ (by decide), b7, a7, sF _ _ (by decide), cf _ hp, fE]; omega
        · by_cases z2 : k = 76 ∧ i = f
          · rw [z2.1, z2.2, fs_u_eq, hN f hf.1 hf.2, ew]
          · rw [fs_u_ne _ z2, uF k i z z2]
      · exact absurd (show f < 0 by omega) hp
    have e4 : fs_u σ 74 2 (σ 74 2 + 1) 74 4 = σ 74 4 := fs_u_i _ (by decide)
    refine fr_aload_n 1 dX0_visit_0 rfl rfl ?_
    refine fr_dup 2 dX0_visit_1 rfl ?_
    refine fr_geti 5 2 dX0_visit_2 rfl fs_kX0_18 rfl fs_l74 rfl ?_
    refine fr_iconst 6 dX0_visit_5 rfl ?_
    refine fr_iadd 7 dX0_visit_6 rfl ?_
    refine fr_puti 10 2 dX0_visit_7 rfl fs_kX0_18 fs_pX0_2 rfl fs_l74 rfl ?_
    refine fr_aload_n 11 dX0_visit_10 rfl rfl ?_
    refine fr_aload_n 12 dX0_visit_11 rfl rfl ?_
    refine fr_geti 15 4 dX0_visit_12 rfl fs_kX0_24 rfl fs_l74 rfl ?_
    refine fr_top e4 ?_
    refine fr_iload_n 16 dX0_visit_15 rfl rfl ?_
    refine fr_mmax 19 dX0_visit_16 rfl fs_mX0_66 fs_sJ9_max_7cf53 fs_iniMath fs_cdmax (fs_Γ_rm (d := 0) (by omega)) (Nat.le_of_ble_eq_true rfl) (by omega) (by omega) ?_
    refine fr_puti 22 4 dX0_visit_19 rfl fs_kX0_24 fs_pX0_4 rfl fs_l74 rfl ?_
    by_cases hp : pick t b e N < 0
    · exact vis_leaf hw hb he hP hB hE hN hg h4 h6 hp _ (by rw [fs_u_i _ (by decide), fs_u_eq]) (fs_u_eq _ _ _ _) (fun k i z => by rw [fs_u_ne _ (by omega), fs_u_ne _ (by omega)])
    · exact key _ hp (by rw [fs_u_i _ (by decide), fs_u_eq]) (fs_u_eq _ _ _ _) (fun k i z => by rw [fs_u_ne _ (by omega), fs_u_ne _ (by omega)])
