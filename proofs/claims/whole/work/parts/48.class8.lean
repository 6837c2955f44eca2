/-! ===== the class: Survey, the sweep ===== -/
def SF (t : rt) : Nat → Int → Nat → (Nat → Int) → Int
  | 0, _, m, g => g m
  | n + 1, f, m, g => smI (fun v => SF t n (f + 1) (m &&& tkm t f v v) g) (gr f + 1)
def rst (n : Nat) : Int := if n = 0 then 1 else if n = 1 then 4 else if n = 2 then 256 else if n = 3 then 16384 else 1048576
theorem SF_0 (t : rt) (g : Nat → Int) : ∀ (n : Nat) (f : Int), n ≤ 4 → f = 4 - (n : Int) → SF t n f 0 g = rst n * g 0
  | 0, f, _, _ => by show g 0 = 1 * g 0; omega
  | n + 1, f, hn, hf => by
    show smI (fun v => SF t n (f + 1) (0 &&& tkm t f v v) g) (gr f + 1) = _
    have ih := SF_0 t g n (f + 1) (by omega) (by omega)
    have e : smI (fun v => SF t n (f + 1) (0 &&& tkm t f v v) g) (gr f + 1) = smI (fun _ => rst n * g 0) (gr f + 1) := smI_congr (fun v a b => by rw [Nat.zero_and, ih])
    rw [e]
    unfold smI
    rw [sm_const]
    rcases (by omega : n = 0 ∨ n = 1 ∨ n = 2 ∨ n = 3) with rfl | rfl | rfl | rfl
    · subst hf; show (4 : Int) * (1 * g 0) = 4 * g 0; omega
    · subst hf; show (64 : Int) * (4 * g 0) = 256 * g 0; omega
    · subst hf; show (64 : Int) * (256 * g 0) = 16384 * g 0; omega
    · subst hf; show (64 : Int) * (16384 * g 0) = 1048576 * g 0; omega
theorem st_rest {f : Int} {n : Nat} (hn : n ≤ 4) (hf : f = 4 - (n : Int)) : ([1048576, 16384, 256, 4, 1] : List Int).getD f.toNat 0 = rst n := by
  rcases (by omega : n = 0 ∨ n = 1 ∨ n = 2 ∨ n = 3 ∨ n = 4) with rfl | rfl | rfl | rfl | rfl <;> (subst hf; decide)
theorem rst_pos (n : Nat) : 1 ≤ rst n := by unfold rst; (repeat' split) <;> omega
theorem SF_all {t : rt} (g : Nat → Int) : SF t 4 0 (bm (fun _ => true) (tn t).toNat) g = S4 t g := by
  have hA : ∀ f v, bm (fun _ => true) (tn t).toNat &&& tkm t f v v = tkm t f v v := fun f v => by
    unfold tkm; rw [bm_and]; exact bm_congr (fun q a b => by simp)
  show smI (fun v => SF t 3 1 (_ &&& tkm t 0 v v) g) 64 = _
  unfold S4
  refine smI_congr (fun a _ _ => ?_)
  rw [hA]
  rfl
abbrev frSw (σ τ : fs_S) : Prop := frT σ τ
/-- the sum over the runs up to i -/
def rsum (σ : fs_S) (t : rt) (n : Nat) (f : Int) (m : Nat) (B : Int → Int) (g : Nat → Int) (i : Int) : Int := smI (fun j => σ (58 + f) j * SF t n (f + 1) (m &&& tkm t f (B j) (B j)) g) i
abbrev Q_swp (t : rt) (n : Nat) (f : Int) (m : Nat) (w : Int) (Acc : (Nat → Int) → Int) (σ : fs_S) : fs_Q := fun x τ => x = none ∧ AS τ t (fun g => Acc g + w * SF t n f m g) ∧ frT σ τ
set_option maxRecDepth 100000 in
set_option maxHeartbeats 3000000 in
theorem cK_sweep (t : rt) (hw : twf t) : ∀ (n : Nat), n ≤ 4 → ∀ (f : Int) (m : Nat) (w : Int) (Acc : (Nat → Int) → Int) (σ : fs_S), f = 4 - (n : Int) → RC 27 σ t → OC σ t → m < 65536 → (∀ i, m.testBit i = true → (i : Int) < tn t) → 1 ≤ w → (∀ f, 0 ≤ f → f < 4 → RV σ t f) → AS σ t Acc → fs_C mX4_sweep (5 + n) [.inr 48, .inl f, .inl (m : Int), .inl w] σ (Q_swp t n f m w Acc σ) := by
  intro n
  induction n with
  | zero =>
    intro _ f m w Acc σ hf hR hO hm hb hw1 hV hA
    subst hf
    refine fs_C.intro [some (.inr 48), some (.inl (4 - ((0 : Nat) : Int))), some (.inl (m : Int)), some (.inl w), none, none, none, none] fs_oX4_sweep (Nat.le_of_ble_eq_true rfl) rfl ?_
    refine fr_iload_n 1 dX4_sweep_0 rfl rfl ?_
    refine fr_if_eq 9 4 dX4_sweep_1 rfl rfl (by omega) (fun h1 => ?_) (fun h1 => ?_)
    · refine fr_aload_n 10 dX4_sweep_9 rfl rfl ?_
      refine fr_iload_n 11 dX4_sweep_10 rfl rfl ?_
      refine fr_iload_n 12 dX4_sweep_11 rfl rfl ?_
      refine fr_gets 15 2 dX4_sweep_12 rfl rfl rfl fs_kX4_67 ?_
      refine fr_iload_n 16 dX4_sweep_15 rfl rfl ?_
      refine fr_ialdS 17 2 dX4_sweep_16 rfl rfl rfl (by decide) (by decide) (st_rest (n := 0) (by decide) rfl) ?_
      refine fr_imul 18 dX4_sweep_17 rfl ?_
      refine fr_callVv 21 (M2 := mX4_tally) [_, _] dX4_sweep_18 rfl fs_mX4_70 fs_oX4_tally fs_iX4_tally fs_l48 rfl rfl (fs_Γ_rm (d := 2) (by decide)) (Nat.le_of_ble_eq_true rfl) rfl ?_
      refine (cK_tally hw hR hO hm hb (w := w * rst 0) (by show 1 ≤ w * 1; omega) hA).mono ?_
      rintro _ τ ⟨rfl, h1, h2⟩
      refine ⟨rfl, ?_⟩
      refine fr_vret dX4_sweep_21 rfl ?_
      exact ⟨rfl, h1.congr (fun g => by show Acc g + w * g m = Acc g + w * 1 * g m; rw [Int.mul_one]), h2⟩
    · refine fr_iload_n 5 dX4_sweep_4 rfl rfl ?_
      refine fr_iconst 6 dX4_sweep_5 rfl ?_
      refine fr_icmp_lt 22 9 dX4_sweep_6 rfl rfl (by omega) (by omega) (fun h6 => ?_) (fun h6 => ?_)
      · exact absurd h6 (by decide)
      · refine fr_aload_n 10 dX4_sweep_9 rfl rfl ?_
        refine fr_iload_n 11 dX4_sweep_10 rfl rfl ?_
        refine fr_iload_n 12 dX4_sweep_11 rfl rfl ?_
        refine fr_gets 15 2 dX4_sweep_12 rfl rfl rfl fs_kX4_67 ?_
        refine fr_iload_n 16 dX4_sweep_15 rfl rfl ?_
        refine fr_ialdS 17 2 dX4_sweep_16 rfl rfl rfl (by decide) (by decide) (st_rest (n := 0) (by decide) rfl) ?_
        refine fr_imul 18 dX4_sweep_17 rfl ?_
        refine fr_callVv 21 (M2 := mX4_tally) [_, _] dX4_sweep_18 rfl fs_mX4_70 fs_oX4_tally fs_iX4_tally fs_l48 rfl rfl (fs_Γ_rm (d := 2) (by decide)) (Nat.le_of_ble_eq_true rfl) rfl ?_
        refine (cK_tally hw hR hO hm hb (w := w * rst 0) (by show 1 ≤ w * 1; omega) hA).mono ?_
        rintro _ τ ⟨rfl, h1, h2⟩
        refine ⟨rfl, ?_⟩
        refine fr_vret dX4_sweep_21 rfl ?_
        exact ⟨rfl, h1.congr (fun g => by show Acc g + w * g m = Acc g + w * 1 * g m; rw [Int.mul_one]), h2⟩
  | succ n ihn =>
    intro hn4 f m w Acc σ hf hR hO hm hb hw1 hV hA
    refine fs_C.intro [some (.inr 48), some (.inl f), some (.inl (m : Int)), some (.inl w), none, none, none, none] fs_oX4_sweep (Nat.le_of_ble_eq_true rfl) rfl ?_
    have hn := hw.1
    have hg := gr_r f
    have hp := rst_pos (n + 1)
    by_cases h0 : m = 0
    · subst h0
      have hpw : 1 ≤ w * rst (n + 1) := by
        have := Int.mul_le_mul hw1 hp (by decide) (by omega)
        omega
      refine fr_iload_n 1 dX4_sweep_0 rfl rfl ?_
      refine fr_if_eq 9 4 dX4_sweep_1 rfl rfl (by omega) (fun h1 => ?_) (fun h1 => ?_)
      · refine fr_aload_n 10 dX4_sweep_9 rfl rfl ?_
        refine fr_iload_n 11 dX4_sweep_10 rfl rfl ?_
        refine fr_iload_n 12 dX4_sweep_11 rfl rfl ?_
        refine fr_gets 15 2 dX4_sweep_12 rfl rfl rfl fs_kX4_67 ?_
        refine fr_iload_n 16 dX4_sweep_15 rfl rfl ?_
        refine fr_ialdS 17 2 dX4_sweep_16 rfl rfl rfl (by decide) ⟨(by omega : 0 ≤ f), (by omega : f < 5)⟩ (st_rest hn4 hf) ?_
        refine fr_imul 18 dX4_sweep_17 rfl ?_
        refine fr_callVv 21 (M2 := mX4_tally) [_, _] dX4_sweep_18 rfl fs_mX4_70 fs_oX4_tally fs_iX4_tally fs_l48 rfl rfl (fs_Γ_rm (d := 2) (by omega)) (Nat.le_of_ble_eq_true rfl) rfl ?_
        refine (cK_tally hw hR hO hm hb hpw hA).mono ?_
        rintro _ τ ⟨rfl, h1, h2⟩
        refine ⟨rfl, ?_⟩
        refine fr_vret dX4_sweep_21 rfl ?_
        exact ⟨rfl, h1.congr (fun g => by rw [SF_0 t g (n + 1) f hn4 hf, Int.mul_assoc]), h2⟩
      · exact absurd rfl h1
    · have hf4 : 0 ≤ f ∧ f < 4 := by omega
      obtain ⟨B, hS, hM⟩ := hV f hf4.1 hf4.2
      have hs1 := hS.2.1 (by omega)
      have hs2 := hS.1
      have hZ1 := hS.2.2.1
      have hsum : ∀ g, SF t (n + 1) f m g = rsum σ t n f m B g (σ 51 f) := fun g => by
        show smI (fun v => SF t n (f + 1) (m &&& tkm t f v v) g) (gr f + 1) = _
        exact hS.2.2.2 (fun k => SF t n (f + 1) (m &&& k) g)
      have hml : ∀ x : Nat, m &&& x < 65536 := fun x => Nat.lt_of_le_of_lt Nat.and_le_left hm
      have hmb : ∀ x : Nat, ∀ i, (m &&& x).testBit i = true → (i : Int) < tn t := fun x i z => hb i (by rw [Nat.testBit_and, Bool.and_eq_true] at z; exact z.1)
      have Fq : ∀ τ, frT σ τ → RC 27 τ t ∧ OC τ t ∧ (∀ f, 0 ≤ f → f < 4 → RV τ t f) := fun τ h => ⟨hR.eq (h _ _ (by decide) (by decide) (by decide)) (fun k i z => h k i (by omega) (by omega) (by omega)), hO.eq (fun k i z => h k i (by omega) (by omega) (by omega)), fun f a b => (hV f a b).eq (h _ _ (by decide) (by decide) (by omega)) (fun i => ⟨h _ _ (by omega) (by omega) (by omega), h _ _ (by omega) (by omega) (by omega)⟩)⟩
      have key : ∀ (q : Nat) (i al : Int) (x : Nat) (τ : fs_S) (y : Option fs_V), 1 ≤ i → i ≤ σ 51 f → σ 51 f - i < q → 1 ≤ al → frT σ τ → AS τ t (fun g => Acc g + w * (rsum σ t n f m B g i - al * SF t n (f + 1) (m &&& x) g)) →
          fs_W (fs_Γ (5 + (n + 1)) (Q_swp t (n + 1) f m w Acc σ)) mX4_sweep 47 [some (.inr 48), some (.inl f), some (.inl (m : Int)), some (.inl w), some (.inl ((m &&& x : Nat) : Int)), some (.inl al), some (.inl i), y] [] τ := by
        intro q
        induction q with
        | zero => intro i al x τ y h0 h1 h2; omega
        | succ q ih =>
          intro i al x τ y h0 h1 h2 h3 hF hT
          have e51 : τ 51 f = σ 51 f := hF _ _ (by decide) (by decide) (by omega)
          obtain ⟨r1, r2, r3⟩ := Fq τ hF
          have hx := hml x
          have hwa : 1 ≤ w * al := by
            have := Int.mul_le_mul hw1 h3 (by decide) (by omega)
            omega
          refine fr_iload 49 dX4_sweep_47 rfl rfl ?_
          refine fr_aload_n 50 dX4_sweep_49 rfl rfl ?_
          refine fr_getr 53 51 dX4_sweep_50 rfl fs_kX4_27 fs_l48 rfl ?_
          refine fr_iload_n 54 dX4_sweep_53 rfl rfl ?_
          refine fr_iald 55 dX4_sweep_54 rfl fs_l51 hf4 ?_
          refine fr_icmp_ge 118 58 dX4_sweep_55 rfl rfl (by omega) (by omega) (fun h55 => ?_) (fun h55 => ?_)
          · have ei : i = σ 51 f := by omega
            refine fr_aload_n 119 dX4_sweep_118 rfl rfl ?_
            refine fr_iload_n 120 dX4_sweep_119 rfl rfl ?_
            refine fr_iconst 121 dX4_sweep_120 rfl ?_
            refine fr_iadd 122 dX4_sweep_121 rfl ?_
            refine fr_iload 124 dX4_sweep_122 rfl rfl ?_
            refine fr_iload_n 125 dX4_sweep_124 rfl rfl ?_
            refine fr_iload 127 dX4_sweep_125 rfl rfl ?_
            refine fr_imul 128 dX4_sweep_127 rfl ?_
            refine fr_callVv 131 (M2 := mX4_sweep) [_, _, _] dX4_sweep_128 rfl fs_mX4_56 fs_oX4_sweep fs_iX4_sweep fs_l48 rfl rfl (fs_Γ_rm (d := 5 + n) (by omega)) (Nat.le_of_ble_eq_true rfl) rfl ?_
            refine (ihn (by omega) (f + 1) (m &&& x) (w * al) _ τ (by omega) r1 r2 hx (hmb x) hwa r3 hT).mono ?_
            rintro _ ρ ⟨rfl, p1, p2⟩
            refine ⟨rfl, ?_⟩
            refine fr_vret dX4_sweep_131 rfl ?_
            refine ⟨rfl, p1.congr (fun g => ?_), fun k j a b c => (p2 k j a b c).trans (hF k j a b c)⟩
            dsimp only
            rw [hsum g, ← ei]
            generalize SF t n (f + 1) (m &&& x) g = X2
            generalize rsum σ t n f m B g i = X3
            rw [Int.mul_sub, ← Int.mul_assoc]
            omega
          · have ei : τ (54 + f) i = ((tkm t f (B i) (B i) : Nat) : Int) := (hF _ _ (by omega) (by omega) (by omega)).trans (hM i (by omega) (by omega))
            have ez : τ (58 + f) i = σ (58 + f) i := hF _ _ (by omega) (by omega) (by omega)
            have hz : 1 ≤ σ (58 + f) i := (hZ1 i (by omega) (by omega)).2
            have hti := tkm_lt hw f (B i) (B i)
            have hxi := hml (tkm t f (B i) (B i))
            have st : ∀ g, rsum σ t n f m B g (i + 1) = rsum σ t n f m B g i + σ (58 + f) i * SF t n (f + 1) (m &&& tkm t f (B i) (B i)) g := fun g => smI_s _ (by omega)
            refine fr_iload_n 59 dX4_sweep_58 rfl rfl ?_
            refine fr_aload_n 60 dX4_sweep_59 rfl rfl ?_
            refine fr_getr 63 52 dX4_sweep_60 rfl fs_kX4_32 fs_l48 rfl ?_
            refine fr_iload_n 64 dX4_sweep_63 rfl rfl ?_
            refine fr_aald 65 dX4_sweep_64 rfl fs_l52 (by omega) ?_
            refine fr_iload 67 dX4_sweep_65 rfl rfl ?_
            refine fr_iald 68 dX4_sweep_67 rfl (fs_f54 _ (by omega)) (by omega) ?_
            refine fr_top ei ?_
            refine fr_iand 69 dX4_sweep_68 rfl ?_
            refine fr_top (fm_and (by omega) (by omega)) ?_
            refine fr_istore 71 [_, _, _, _, _, _, _, _] dX4_sweep_69 rfl (Nat.le_of_ble_eq_true rfl) rfl ?_
            refine fr_iload 73 dX4_sweep_71 rfl rfl ?_
            refine fr_iload 75 dX4_sweep_73 rfl rfl ?_
            refine fr_icmp_eq 98 78 dX4_sweep_75 rfl rfl (by omega) (by omega) (fun h75 => ?_) (fun h75 => ?_)
            · have ex : m &&& tkm t f (B i) (B i) = m &&& x := by omega
              refine fr_iload 100 dX4_sweep_98 rfl rfl ?_
              refine fr_aload_n 101 dX4_sweep_100 rfl rfl ?_
              refine fr_getr 104 53 dX4_sweep_101 rfl fs_kX4_35 fs_l48 rfl ?_
              refine fr_iload_n 105 dX4_sweep_104 rfl rfl ?_
              refine fr_aald 106 dX4_sweep_105 rfl fs_l53 (by omega) ?_
              refine fr_iload 108 dX4_sweep_106 rfl rfl ?_
              refine fr_iald 109 dX4_sweep_108 rfl (fs_f58 _ (by omega)) (by omega) ?_
              refine fr_top ez ?_
              refine fr_iadd 110 dX4_sweep_109 rfl ?_
              refine fr_istore 112 [_, _, _, _, _, _, _, _] dX4_sweep_110 rfl (Nat.le_of_ble_eq_true rfl) rfl ?_
              refine fr_iinc 115 [_, _, _, _, _, _, _, _] dX4_sweep_112 rfl rfl rfl ?_
              refine fr_goto 47 dX4_sweep_115 rfl ?_
              refine ih (i + 1) (al + σ (58 + f) i) x τ _ (by omega) (by omega) (by omega) (by omega) hF (hT.congr (fun g => ?_))
              rw [st g, ex]
              generalize SF t n (f + 1) (m &&& x) g = X2
              generalize rsum σ t n f m B g i = X3
              rw [Int.add_mul, show X3 + σ (58 + f) i * X2 - (al * X2 + σ (58 + f) i * X2) = X3 - al * X2 by omega]
            · refine fr_aload_n 79 dX4_sweep_78 rfl rfl ?_
              refine fr_iload_n 80 dX4_sweep_79 rfl rfl ?_
              refine fr_iconst 81 dX4_sweep_80 rfl ?_
              refine fr_iadd 82 dX4_sweep_81 rfl ?_
              refine fr_iload 84 dX4_sweep_82 rfl rfl ?_
              refine fr_iload_n 85 dX4_sweep_84 rfl rfl ?_
              refine fr_iload 87 dX4_sweep_85 rfl rfl ?_
              refine fr_imul 88 dX4_sweep_87 rfl ?_
              refine fr_callVv 91 (M2 := mX4_sweep) [_, _, _] dX4_sweep_88 rfl fs_mX4_56 fs_oX4_sweep fs_iX4_sweep fs_l48 rfl rfl (fs_Γ_rm (d := 5 + n) (by omega)) (Nat.le_of_ble_eq_true rfl) rfl ?_
              refine (ihn (by omega) (f + 1) (m &&& x) (w * al) _ τ (by omega) r1 r2 hx (hmb x) hwa r3 hT).mono ?_
              rintro _ ρ ⟨rfl, p1, p2⟩
              refine ⟨rfl, ?_⟩
              have ez2 : ρ (58 + f) i = σ (58 + f) i := (p2 _ _ (by omega) (by omega) (by omega)).trans ez
              refine fr_iload 93 dX4_sweep_91 rfl rfl ?_
              refine fr_istore 95 [_, _, _, _, _, _, _, _] dX4_sweep_93 rfl (Nat.le_of_ble_eq_true rfl) rfl ?_
              refine fr_iconst 96 dX4_sweep_95 rfl ?_
              refine fr_istore 98 [_, _, _, _, _, _, _, _] dX4_sweep_96 rfl (Nat.le_of_ble_eq_true rfl) rfl ?_
              refine fr_iload 100 dX4_sweep_98 rfl rfl ?_
              refine fr_aload_n 101 dX4_sweep_100 rfl rfl ?_
              refine fr_getr 104 53 dX4_sweep_101 rfl fs_kX4_35 fs_l48 rfl ?_
              refine fr_iload_n 105 dX4_sweep_104 rfl rfl ?_
              refine fr_aald 106 dX4_sweep_105 rfl fs_l53 (by omega) ?_
              refine fr_iload 108 dX4_sweep_106 rfl rfl ?_
              refine fr_iald 109 dX4_sweep_108 rfl (fs_f58 _ (by omega)) (by omega) ?_
              refine fr_top ez2 ?_
              refine fr_iadd 110 dX4_sweep_109 rfl ?_
              refine fr_istore 112 [_, _, _, _, _, _, _, _] dX4_sweep_110 rfl (Nat.le_of_ble_eq_true rfl) rfl ?_
              refine fr_iinc 115 [_, _, _, _, _, _, _, _] dX4_sweep_112 rfl rfl rfl ?_
              refine fr_goto 47 dX4_sweep_115 rfl ?_
              refine ih (i + 1) (0 + σ (58 + f) i) (tkm t f (B i) (B i)) ρ _ (by omega) (by omega) (by omega) (by omega) (fun k j a b c => (p2 k j a b c).trans (hF k j a b c)) (p1.congr (fun g => ?_))
              rw [st g]
              show _ = Acc g + w * (rsum σ t n f m B g i - al * SF t n (f + 1) (m &&& x) g) + w * al * SF t n (f + 1) (m &&& x) g
              generalize SF t n (f + 1) (m &&& tkm t f (B i) (B i)) g = X1
              generalize SF t n (f + 1) (m &&& x) g = X2
              generalize rsum σ t n f m B g i = X3
              rw [show X3 + σ (58 + f) i * X1 - (0 + σ (58 + f) i) * X1 = X3 by rw [Int.zero_add]; omega, Int.mul_sub, ← Int.mul_assoc]
              omega
      have hz0 : 1 ≤ σ (58 + f) 0 := (hZ1 0 (by omega) (by omega)).2
      have e0 := hM 0 (by omega) (by omega)
      have ht0 := tkm_lt hw f (B 0) (B 0)
      refine fr_iload_n 1 dX4_sweep_0 rfl rfl ?_
      refine fr_if_eq 9 4 dX4_sweep_1 rfl rfl (by omega) (fun h1 => ?_) (fun h1 => ?_)
      · exact absurd h1 (by omega)
      · refine fr_iload_n 5 dX4_sweep_4 rfl rfl ?_
        refine fr_iconst 6 dX4_sweep_5 rfl ?_
        refine fr_icmp_lt 22 9 dX4_sweep_6 rfl rfl (by omega) (by omega) (fun h6 => ?_) (fun h6 => ?_)
        · refine fr_iload_n 23 dX4_sweep_22 rfl rfl ?_
          refine fr_aload_n 24 dX4_sweep_23 rfl rfl ?_
          refine fr_getr 27 52 dX4_sweep_24 rfl fs_kX4_32 fs_l48 rfl ?_
          refine fr_iload_n 28 dX4_sweep_27 rfl rfl ?_
          refine fr_aald 29 dX4_sweep_28 rfl fs_l52 (by omega) ?_
          refine fr_iconst 30 dX4_sweep_29 rfl ?_
          refine fr_iald 31 dX4_sweep_30 rfl (fs_f54 _ (by omega)) (by omega) ?_
          refine fr_top e0 ?_
          refine fr_iand 32 dX4_sweep_31 rfl ?_
          refine fr_top (fm_and (by omega) (by omega)) ?_
          refine fr_istore 34 [_, _, _, _, _, _, _, _] dX4_sweep_32 rfl (Nat.le_of_ble_eq_true rfl) rfl ?_
          refine fr_aload_n 35 dX4_sweep_34 rfl rfl ?_
          refine fr_getr 38 53 dX4_sweep_35 rfl fs_kX4_35 fs_l48 rfl ?_
          refine fr_iload_n 39 dX4_sweep_38 rfl rfl ?_
          refine fr_aald 40 dX4_sweep_39 rfl fs_l53 (by omega) ?_
          refine fr_iconst 41 dX4_sweep_40 rfl ?_
          refine fr_iald 42 dX4_sweep_41 rfl (fs_f58 _ (by omega)) (by omega) ?_
          refine fr_istore 44 [_, _, _, _, _, _, _, _] dX4_sweep_42 rfl (Nat.le_of_ble_eq_true rfl) rfl ?_
          refine fr_iconst 45 dX4_sweep_44 rfl ?_
          refine fr_istore 47 [_, _, _, _, _, _, _, _] dX4_sweep_45 rfl (Nat.le_of_ble_eq_true rfl) rfl ?_
          refine key ((σ 51 f).toNat + 1) 1 (σ (58 + f) 0) (tkm t f (B 0) (B 0)) σ _ (by omega) (by omega) (by omega) hz0 (fun _ _ _ _ _ => rfl) (hA.congr (fun g => ?_))
          have st : rsum σ t n f m B g (0 + 1) = rsum σ t n f m B g 0 + σ (58 + f) 0 * SF t n (f + 1) (m &&& tkm t f (B 0) (B 0)) g := smI_s _ (by decide)
          have z : rsum σ t n f m B g 0 = 0 := rfl
          rw [show (0 : Int) + 1 = 1 from rfl] at st
          rw [st, z, show (0 : Int) + σ (58 + f) 0 * SF t n (f + 1) (m &&& tkm t f (B 0) (B 0)) g - σ (58 + f) 0 * SF t n (f + 1) (m &&& tkm t f (B 0) (B 0)) g = 0 by omega, Int.mul_zero, Int.add_zero]
        · exact absurd h6 (by omega)
