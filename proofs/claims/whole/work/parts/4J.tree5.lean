/-! ===== the class: Cutter descend; lookedAt ===== -/
def Q_ds (t : rt) (b e : Int) (x : Int → Int) (F : Nat) (σ : fs_S) : fs_Q := fun r τ => r = some (((wk t b e x 8 (root t) (fun _ => 0)).1.1 : Nat) : Int) ∧ (τ 74 8 = (wk t b e x 8 (root t) (fun _ => 0)).1.2.2 ∧ (∀ f, 0 ≤ f → f < 4 → τ 75 f = (wk t b e x 8 (root t) (fun _ => 0)).2 f) ∧ DV t x F (wk t b e x 8 (root t) (fun _ => 0)).1 (wk t b e x 8 (root t) (fun _ => 0)).2 ∧ gdN (wk t b e x 8 (root t) (fun _ => 0)).1) ∧ ∀ k i, ¬ (k = 74 ∧ i = 8) → ¬ k = 75 → ¬ k = 76 → τ k i = σ k i
theorem wk_leaf {t : rt} {b e : Int} {x : Int → Int} {n : Nat} {N : nd} {c : Int → Int} (h : pick t b e N < 0) : wk t b e x n N c = (N, c) := by
  cases n with
  | zero => rfl
  | succ n => rw [wk, if_pos h]
set_option maxRecDepth 100000 in
set_option maxHeartbeats 3000000 in
theorem cK_descend {σ : fs_S} {t : rt} {b e : Int} {x : Int → Int} {F : Nat} (hw : twf t) (hn : σ 27 0 = tn t) (hP : PV σ t) (hB : σ 74 0 = b) (hE : σ 74 1 = e) (hb : 1 ≤ b ∧ b ≤ 4) (he : 1 ≤ e ∧ e ≤ 8) (hx : ∀ f, 0 ≤ f → f < 4 → 0 ≤ x f ∧ x f ≤ gr f) (hX : ∀ f, 0 ≤ f → f < 4 → σ 82 f = x f) (hF : ∀ f, 0 ≤ f → f < 4 → ∀ i, F.testBit i = true → (tkm t f (x f) (x f)).testBit i = true) (hF2 : ∀ i, F.testBit i = true → (i : Int) < tn t) : fs_C mX0_descend 2 [.inr 74, .inr 82] σ (Q_ds t b e x F σ) := by
  refine fs_C.intro [some (.inr 74), some (.inr 82), none, none, none] fs_oX0_descend (Nat.le_of_ble_eq_true rfl) rfl ?_
  have key : ∀ (n : Nat) (N : nd) (c : Int → Int) (S : fs_S) (y : Option fs_V), N.2.2 = 8 - (n : Int) → gdN N → DV t x F N c → wk t b e x n N c = wk t b e x 8 (root t) (fun _ => 0) → S 74 8 = N.2.2 → (∀ f, 0 ≤ f → f < 4 → S 75 f = c f) → (∀ f, 0 ≤ f → f < 4 → S 76 f = ((N.2.1 f : Nat) : Int)) → (∀ k i, ¬ (k = 74 ∧ i = 8) → ¬ k = 75 → ¬ k = 76 → S k i = σ k i) → fs_W (fs_Γ 2 (Q_ds t b e x F σ)) mX0_descend 31 [some (.inr 74), some (.inr 82), some (.inl ((N.1 : Nat) : Int)), some (.inl N.2.2), y] [] S := by
    intro n
    induction n with
    | zero =>
      intro N c S y hd hg hD hk s8 s75 s76 sF
      rw [wk] at hk
      refine fr_iload_n 32 dX0_descend_31 rfl rfl ?_
      refine fr_bipush 34 dX0_descend_32 rfl (by decide) ?_
      refine fr_icmp_ge 132 37 dX0_descend_34 rfl rfl (by omega) (by omega) (fun h34 => ?_) (fun h34 => ?_)
      · refine fr_iload_n 133 dX0_descend_132 rfl rfl ?_
        refine fr_iret dX0_descend_133 rfl ?_
        exact ⟨congrArg some (by rw [← hk]), by rw [← hk]; exact ⟨s8, s75, hD, hg⟩, sF⟩
      · omega
    | succ n ih =>
      intro N c S y hd hg hD hk s8 s75 s76 sF
      have g3 := hg.2.2
      have pr := pick_r t b e N
      have cc := cK_cutField hw (PV.eq hP (fun k i z _ => sF k i (by omega) (by omega) (by omega))) ((sF _ _ (by decide) (by decide) (by decide)).trans hB) ((sF _ _ (by decide) (by decide) (by decide)).trans hE) hb he s76 hg
      by_cases hp : pick t b e N < 0
      · rw [wk_leaf hp] at hk
        refine fr_iload_n 32 dX0_descend_31 rfl rfl ?_
        refine fr_bipush 34 dX0_descend_32 rfl (by decide) ?_
        refine fr_icmp_ge 132 37 dX0_descend_34 rfl rfl (by omega) (by omega) (fun h34 => ?_) (fun h34 => ?_)
        · omega
        · refine fr_aload_n 38 dX0_descend_37 rfl rfl ?_
          refine fr_iload_n 39 dX0_descend_38 rfl rfl ?_
          refine fr_iload_n 40 dX0_descend_39 rfl rfl ?_
          refine fr_callVi 43 (M2 := mX0_cutField) [_, _] dX0_descend_40 rfl fs_mX0_72 fs_oX0_cutField fs_iX0_cutField fs_l74 rfl rfl (fs_Γ_rm (d := 1) (by decide)) (Nat.le_of_ble_eq_true rfl) rfl ?_
          refine cc.ci ?_
          refine fr_istore 45 [_, _, _, _, _] dX0_descend_43 rfl (Nat.le_of_ble_eq_true rfl) rfl ?_
          refine fr_iload 47 dX0_descend_45 rfl rfl ?_
          refine fr_if_ge 52 50 dX0_descend_47 rfl rfl (by unfold cn1; rw [if_pos hp]; decide) (fun h47 => ?_) (fun h47 => ?_)
          · exact absurd h47 (by unfold cn1; rw [if_pos hp]; decide)
          · refine fr_iload_n 51 dX0_descend_50 rfl rfl ?_
            refine fr_iret dX0_descend_51 rfl ?_
            exact ⟨congrArg some (by rw [← hk]), by rw [← hk]; exact ⟨s8, s75, hD, hg⟩, sF⟩
      · obtain ⟨f, ef⟩ : ∃ f, f = pick t b e N := ⟨_, rfl⟩
        obtain ⟨j, hh, e1, e2, e3, e4, e5, e6⟩ := DV.step hD hF hx hp f ef
        rw [wk, if_neg hp, ← ef] at hk
        have cn : cn1 (pick t b e N) = f := by rw [ef]; exact if_neg hp
        rw [← ef] at pr hp
        have hf : 0 ≤ f ∧ f < 4 := by omega
        have pr2 : N.2.1 f < 2 ^ wN f := by rcases pr with z | z; omega; exact z.1.2.2
        have kg : gdN (kid t N f hh) := kid_g hg e4 hf pr2 (by omega)
        have gw := gr_wN f
        have gf := gr_r f
        have xf := hx f hf.1 hf.2
        have q : 2 * N.2.1 f + hh < 2 ^ (wN f + 1) := by
          have z := (kg.2.1 f hf.1 hf.2).2
          change (if f = f then 2 * N.2.1 f + hh else N.2.1 f) < _ at z
          rw [if_pos rfl] at z; exact z
        have q1 := (hg.2.1 f hf.1 hf.2).1
        have pw : 2 ^ (wN f + 1) = 2 * 2 ^ wN f := by rw [Nat.pow_succ]; omega
        have wdw : wd f = ((wN f : Nat) : Int) := by unfold wd wN; split <;> rfl
        have w6 := wN_r f
        have ec : S 75 f = (j : Int) := (s75 f hf.1 hf.2).trans e1
        clear pr
        refine fr_iload_n 32 dX0_descend_31 rfl rfl ?_
        refine fr_bipush 34 dX0_descend_32 rfl (by decide) ?_
        refine fr_icmp_ge 132 37 dX0_descend_34 rfl rfl (by omega) (by omega) (fun h34 => ?_) (fun h34 => ?_)
        · omega
        · refine fr_aload_n 38 dX0_descend_37 rfl rfl ?_
          refine fr_iload_n 39 dX0_descend_38 rfl rfl ?_
          refine fr_iload_n 40 dX0_descend_39 rfl rfl ?_
          refine fr_callVi 43 (M2 := mX0_cutField) [_, _] dX0_descend_40 rfl fs_mX0_72 fs_oX0_cutField fs_iX0_cutField fs_l74 rfl rfl (fs_Γ_rm (d := 1) (by decide)) (Nat.le_of_ble_eq_true rfl) rfl ?_
          refine cc.ci ?_
          refine fr_top cn ?_
          refine fr_istore 45 [_, _, _, _, _] dX0_descend_43 rfl (Nat.le_of_ble_eq_true rfl) rfl ?_
          refine fr_iload 47 dX0_descend_45 rfl rfl ?_
          refine fr_if_ge 52 50 dX0_descend_47 rfl rfl (by omega) (fun h47 => ?_) (fun h47 => ?_)
          · refine fr_aload_n 53 dX0_descend_52 rfl rfl ?_
            refine fr_getr 56 75 dX0_descend_53 rfl fs_kX0_39 fs_l74 rfl ?_
            refine fr_iload 58 dX0_descend_56 rfl rfl ?_
            refine fr_dup2 59 dX0_descend_58 rfl ?_
            refine fr_iald 60 dX0_descend_59 rfl fs_l75 (by omega) ?_
            refine fr_top ec ?_
            refine fr_iconst 61 dX0_descend_60 rfl ?_
            refine fr_iadd 62 dX0_descend_61 rfl ?_
            refine fr_iast 63 dX0_descend_62 rfl fs_l75 (by omega) ?_
            refine fr_aload_n 64 dX0_descend_63 rfl rfl ?_
            refine fr_getr 67 76 dX0_descend_64 rfl fs_kX0_43 fs_l74 rfl ?_
            refine fr_iload 69 dX0_descend_67 rfl rfl ?_
            refine fr_getsN 72 0 dX0_descend_69 rfl rfl rfl fs_nX0_89 ?_
            refine fr_iload 74 dX0_descend_72 rfl rfl ?_
            refine fr_ialdS 75 0 dX0_descend_74 rfl rfl rfl (by decide) (by omega) (st_gr hf) ?_
            refine fr_iconst 76 dX0_descend_75 rfl ?_
            refine fr_iadd 77 dX0_descend_76 rfl ?_
            refine fr_aload_n 78 dX0_descend_77 rfl rfl ?_
            refine fr_iload 80 dX0_descend_78 rfl rfl ?_
            refine fr_iald 81 dX0_descend_80 rfl fs_l82 (by omega) ?_
            refine fr_top ((fs_u_k _ _ (by decide)).trans ((sF _ _ (by omega) (by decide) (by decide)).trans (hX f hf.1 hf.2))) ?_
            refine fr_iadd 82 dX0_descend_81 rfl ?_
            refine fr_getsN 85 1 dX0_descend_82 rfl rfl rfl fs_nX0_92 ?_
            refine fr_iload 87 dX0_descend_85 rfl rfl ?_
            refine fr_ialdS 88 1 dX0_descend_87 rfl rfl rfl (by decide) (by omega) (st_wd hf) ?_
            refine fr_aload_n 89 dX0_descend_88 rfl rfl ?_
            refine fr_getr 92 75 dX0_descend_89 rfl fs_kX0_39 fs_l74 rfl ?_
            refine fr_iload 94 dX0_descend_92 rfl rfl ?_
            refine fr_iald 95 dX0_descend_94 rfl fs_l75 (by omega) ?_
            refine fr_top (fs_u_eq _ _ _ _) ?_
            refine fr_isub 96 dX0_descend_95 rfl ?_
            refine fr_ishr 97 dX0_descend_96 rfl ?_
            refine fr_top (y := ((2 * N.2.1 f + hh : Nat) : Int)) (by rw [e5, show gr f + 1 + x f = ((2 ^ wN f + (x f).toNat : Nat) : Int) by omega, show wd f - ((j : Int) + 1) = ((wN f - (j + 1) : Nat) : Int) by omega]; exact fm_shr (by omega) (by omega)) ?_
            refine fr_iast 98 dX0_descend_97 rfl fs_l76 (by omega) ?_
            refine fr_iload_n 99 dX0_descend_98 rfl rfl ?_
            refine fr_aload_n 100 dX0_descend_99 rfl rfl ?_
            refine fr_getr 103 42 dX0_descend_100 rfl fs_kX0_46 fs_l74 rfl ?_
            refine fr_getr 106 43 dX0_descend_103 rfl fs_kX0_85 fs_l42 rfl ?_
            refine fr_iload 108 dX0_descend_106 rfl rfl ?_
            refine fr_aald 109 dX0_descend_108 rfl fs_l43 (by omega) ?_
            refine fr_aload_n 110 dX0_descend_109 rfl rfl ?_
            refine fr_getr 113 76 dX0_descend_110 rfl fs_kX0_43 fs_l74 rfl ?_
            refine fr_iload 115 dX0_descend_113 rfl rfl ?_
            refine fr_iald 116 dX0_descend_115 rfl fs_l76 (by omega) ?_
            refine fr_top (fs_u_eq _ _ _ _) ?_
            refine fr_iald 117 dX0_descend_116 rfl (fs_f44 _ (by omega)) (by omega) ?_
            refine fr_top (((fs_u_k _ _ (by omega)).trans ((fs_u_k _ _ (by omega)).trans (sF _ _ (by omega) (by omega) (by omega)))).trans (hP f (2 * N.2.1 f + hh) hf.1 hf.2 (by omega) (by omega))) ?_
            refine fr_iand 118 dX0_descend_117 rfl ?_
            refine fr_top (y := (((kid t N f hh).1 : Nat) : Int)) (by rw [fm_and (by have := hg.1; omega) (by have := tkm_lt hw f ((ploN (wN f) (2 * N.2.1 f + hh) : Nat) : Int) ((phiN (wN f) (2 * N.2.1 f + hh) : Nat) : Int); omega)]; rfl) ?_
            refine fr_istore_n 119 [_, _, _, _, _] dX0_descend_118 rfl (Nat.le_of_ble_eq_true rfl) rfl ?_
            refine fr_aload_n 120 dX0_descend_119 rfl rfl ?_
            refine fr_iload_n 121 dX0_descend_120 rfl rfl ?_
            refine fr_iconst 122 dX0_descend_121 rfl ?_
            refine fr_iadd 123 dX0_descend_122 rfl ?_
            refine fr_puti 126 8 dX0_descend_123 rfl fs_kX0_36 fs_pX0_8 rfl fs_l74 rfl ?_
            refine fr_iinc 129 [_, _, _, _, _] dX0_descend_126 rfl rfl rfl ?_
            refine fr_goto 31 dX0_descend_129 rfl ?_
            refine ih (kid t N f hh) (fun g => c g + (if g = f then 1 else 0)) _ _ (by show N.2.2 + 1 = _; omega) kg e6 (by rw [e3]; exact hk) (fs_u_eq _ _ _ _) (fun g a b => ?_) (fun g a b => ?_) (fun k i z1 z2 z3 => ?_)
            · rw [fs_u_k _ _ (by decide), fs_u_k _ _ (by decide)]
              by_cases z : g = f
              · rw [z, fs_u_eq, if_pos rfl, e1]
              · rw [fs_u_i _ z, if_neg z, s75 g a b, Int.add_zero]
            · rw [fs_u_k _ _ (by decide)]
              show _ = (((if g = f then 2 * N.2.1 f + hh else N.2.1 g) : Nat) : Int)
              by_cases z : g = f
              · rw [z, fs_u_eq, if_pos rfl]
              · rw [fs_u_i _ z, if_neg z, fs_u_k _ _ (by decide), s76 g a b]
            · rw [fs_u_ne _ (by omega), fs_u_ne _ (by omega), fs_u_ne _ (by omega)]; exact sF k i z1 z2 z3
          · exact absurd (show f < 0 by omega) hp
  refine fr_aload_n 1 dX0_descend_0 rfl rfl ?_
  refine fr_getr 4 76 dX0_descend_1 rfl fs_kX0_43 fs_l74 rfl ?_
  refine fr_iconst 5 dX0_descend_4 rfl ?_
  refine fr_callSv 8 (M2 := mJ7_fill_53178) [_, _] dX0_descend_5 rfl fs_mX0_50 fs_oJ7_fill_53178 fs_sJ7_fill_53178 rfl (fs_Γ_rm (d := 0) (by decide)) (Nat.le_of_ble_eq_true rfl) rfl ?_
  refine (cK_fill fs_l76).mono ?_
  rintro _ τ ⟨rfl, f1, f2⟩
  refine ⟨rfl, ?_⟩
  refine fr_aload_n 9 dX0_descend_8 rfl rfl ?_
  refine fr_getr 12 75 dX0_descend_9 rfl fs_kX0_39 fs_l74 rfl ?_
  refine fr_iconst 13 dX0_descend_12 rfl ?_
  refine fr_callSv 16 (M2 := mJ7_fill_53178) [_, _] dX0_descend_13 rfl fs_mX0_50 fs_oJ7_fill_53178 fs_sJ7_fill_53178 rfl (fs_Γ_rm (d := 0) (by decide)) (Nat.le_of_ble_eq_true rfl) rfl ?_
  refine (cK_fill fs_l75).mono ?_
  rintro _ ρ ⟨rfl, f3, f4⟩
  refine ⟨rfl, ?_⟩
  refine fr_aload_n 17 dX0_descend_16 rfl rfl ?_
  refine fr_iconst 18 dX0_descend_17 rfl ?_
  refine fr_puti 21 8 dX0_descend_18 rfl fs_kX0_36 fs_pX0_8 rfl fs_l74 rfl ?_
  refine fr_aload_n 22 dX0_descend_21 rfl rfl ?_
  refine fr_getr 25 42 dX0_descend_22 rfl fs_kX0_46 fs_l74 rfl ?_
  refine fr_callVi 28 (M2 := mX2_all) [] dX0_descend_25 rfl fs_mX0_56 fs_oX2_all fs_iX2_all fs_l42 rfl rfl (fs_Γ_rm (d := 0) (by decide)) (Nat.le_of_ble_eq_true rfl) rfl ?_
  refine (cK_all hw ((fs_u_k _ _ (by decide)).trans ((f4 _ _ (by decide)).trans ((f2 _ _ (by decide)).trans hn)))).ci ?_
  refine fr_istore_n 29 [_, _, _, _, _] dX0_descend_28 rfl (Nat.le_of_ble_eq_true rfl) rfl ?_
  refine fr_iconst 30 dX0_descend_29 rfl ?_
  refine fr_istore_n 31 [_, _, _, _, _] dX0_descend_30 rfl (Nat.le_of_ble_eq_true rfl) rfl ?_
  refine key 8 (root t) (fun _ => 0) _ _ rfl (root_g hw) ⟨fun f a b => ⟨0, rfl, Nat.zero_le _, ?_⟩, fun i z => ?_, fun i z => ?_⟩ rfl (fs_u_eq _ _ _ _) (fun f a b => (fs_u_k _ _ (by decide)).trans (f3 f a b)) (fun f a b => (fs_u_k _ _ (by decide)).trans ((f4 _ _ (by omega)).trans (f1 f a b))) (fun k i z1 z2 z3 => (fs_u_ne _ z1).trans ((f4 k i (by omega)).trans (f2 k i (by omega))))
  · show 1 = _
    have gx := hx f a b
    have gw := gr_wN f
    have hp : 0 < 2 ^ wN f := Nat.two_pow_pos _
    rw [Nat.sub_zero, Nat.add_div_left _ hp, Nat.div_eq_of_lt (by omega)]
  · show (bm _ _).testBit i = true
    have := hF2 i z
    rw [bm_bit]
    simp
    omega
  · change (bm _ _).testBit i = true at z
    rw [bm_bit] at z
    simp at z
    omega
