/-! ===== the class: Tuples, enter ===== -/
def blk : Nat → Nat
  | 0 => 1
  | 1 => 3
  | 2 => 21
  | 3 => 147
  | _ => 1029
def sh (f : Int) : Int := if f = 0 then 8 else if f = 1 then 5 else if f = 2 then 2 else 0
def pw2 (f : Int) : Int := if f = 0 then 256 else if f = 1 then 32 else if f = 2 then 4 else 1
theorem st_sh {f : Int} (h : 0 ≤ f ∧ f < 4) : ([8, 5, 2, 0] : List Int).getD f.toNat 0 = sh f := by
  rcases (by omega : f = 0 ∨ f = 1 ∨ f = 2 ∨ f = 3) with rfl | rfl | rfl | rfl <;> decide
theorem cl0 (c : Int) : cl c 0 = 6 - c / 147 := rfl
theorem cl1 (c : Int) : cl c 1 = 6 - c / 21 % 7 := rfl
theorem cl2 (c : Int) : cl c 2 = 6 - c / 3 % 7 := rfl
theorem cl3 (c : Int) : cl c 3 = 2 - c % 3 := rfl
theorem blk_s {n : Nat} (hn : n < 4) {f : Int} (hf : f = 3 - (n : Int)) : (wN f + 1) * blk n = blk (n + 1) := by
  subst hf
  rcases (by omega : n = 0 ∨ n = 1 ∨ n = 2 ∨ n = 3) with rfl | rfl | rfl | rfl <;> rfl
theorem blk_lo {n : Nat} (hn : n < 4) {f : Int} (hf : f = 3 - (n : Int)) {C : Nat} (hC : C % blk (n + 1) = 0) {x : Int} (h1 : (C : Int) ≤ x) (h2 : x < ((C + blk (n + 1) : Nat) : Int)) {g : Int} (g0 : 0 ≤ g) (g1 : g < f) : cl x g = cl (C : Int) g := by
  subst hf
  rcases (by omega : n = 0 ∨ n = 1 ∨ n = 2 ∨ n = 3) with rfl | rfl | rfl | rfl <;> simp only [blk] at hC h2
  · rcases (by omega : g = 0 ∨ g = 1 ∨ g = 2) with rfl | rfl | rfl
    · rw [cl0, cl0]; omega
    · rw [cl1, cl1]; omega
    · rw [cl2, cl2]; omega
  · rcases (by omega : g = 0 ∨ g = 1) with rfl | rfl
    · rw [cl0, cl0]; omega
    · rw [cl1, cl1]; omega
  · rcases (by omega : g = 0) with rfl
    rw [cl0, cl0]; omega
  · omega
theorem blk_at {n : Nat} (hn : n < 4) {f : Int} (hf : f = 3 - (n : Int)) {C j : Nat} (hC : C % blk (n + 1) = 0) (h3 : C + blk (n + 1) ≤ 1029) (hj : j ≤ wN f) {x : Int} (h1 : ((C + j * blk n : Nat) : Int) ≤ x) (h2 : x < ((C + j * blk n + blk n : Nat) : Int)) : cl x f = ((wN f - j : Nat) : Int) ∧ (C + j * blk n) % blk n = 0 := by
  subst hf
  rcases (by omega : n = 0 ∨ n = 1 ∨ n = 2 ∨ n = 3) with rfl | rfl | rfl | rfl <;> simp only [blk] at hC h1 h2 h3 ⊢
  · change j ≤ 2 at hj
    show cl x 3 = ((2 - j : Nat) : Int) ∧ _
    rw [cl3]; omega
  · change j ≤ 6 at hj
    show cl x 2 = ((6 - j : Nat) : Int) ∧ _
    rw [cl2]; omega
  · change j ≤ 6 at hj
    show cl x 1 = ((6 - j : Nat) : Int) ∧ _
    rw [cl1]; omega
  · change j ≤ 6 at hj
    show cl x 0 = ((6 - j : Nat) : Int) ∧ _
    rw [cl0]; omega
def kp (c f : Int) : Int := (if 0 < f then 256 * cl c 0 else 0) + (if 1 < f then 32 * cl c 1 else 0) + (if 2 < f then 4 * cl c 2 else 0) + (if 3 < f then cl c 3 else 0)
theorem kp_s (c : Int) {f : Int} (h : 0 ≤ f ∧ f < 4) : kp c (f + 1) = kp c f + cl c f * pw2 f := by
  rcases (by omega : f = 0 ∨ f = 1 ∨ f = 2 ∨ f = 3) with rfl | rfl | rfl | rfl <;> simp [kp, pw2] <;> omega
theorem kp_congr {c d f : Int} (h : ∀ g, 0 ≤ g → g < f → cl c g = cl d g) (hf : f ≤ 4) : kp c f = kp d f := by
  have e : ∀ g, 0 ≤ g → (if g < f then cl c g else 0) = (if g < f then cl d g else 0) := fun g a => by
    by_cases z : g < f
    · rw [if_pos z, if_pos z, h g a z]
    · rw [if_neg z, if_neg z]
  have q0 := e 0 (by decide)
  have q1 := e 1 (by decide)
  have q2 := e 2 (by decide)
  have q3 := e 3 (by decide)
  unfold kp
  (repeat' split at *) <;> omega
theorem shl_f {f l : Int} (h : 0 ≤ f ∧ f < 4) (hl : 0 ≤ l ∧ l ≤ 6) : fi_shl l (sh f) = l * pw2 f := by
  rcases (by omega : f = 0 ∨ f = 1 ∨ f = 2 ∨ f = 3) with rfl | rfl | rfl | rfl <;>
  rcases (by omega : l = 0 ∨ l = 1 ∨ l = 2 ∨ l = 3 ∨ l = 4 ∨ l = 5 ∨ l = 6) with rfl | rfl | rfl | rfl | rfl | rfl | rfl <;> decide
theorem or_add {a k b : Nat} (hk : k ≤ 11) (ha : 2 ^ k * a < 2048) (hb : b < 2 ^ k) : fi_or ((2 ^ k * a : Nat) : Int) (b : Int) = ((2 ^ k * a + b : Nat) : Int) := by
  have h1 : 2 ^ k ≤ 2 ^ 11 := Nat.pow_le_pow_right (by decide) hk
  have h2 : (2 : Nat) ^ 11 = 2048 := rfl
  rw [fm_or (by omega) (by omega), Nat.two_pow_add_eq_or_of_lt hb]
theorem kp_or {c f l : Int} (hc : 0 ≤ c ∧ c < 1029) (h : 0 ≤ f ∧ f < 4) (hl : 0 ≤ l ∧ l ≤ (wN f : Nat)) : fi_or (kp c f) (fi_shl l (sh f)) = kp c f + l * pw2 f := by
  have w6 := wN_r f
  rw [shl_f h (by omega)]
  obtain ⟨-, d0, d1, d2, d3⟩ := cl_code hc.1 hc.2
  rcases (by omega : f = 0 ∨ f = 1 ∨ f = 2 ∨ f = 3) with rfl | rfl | rfl | rfl
  · change 0 ≤ l ∧ l ≤ 6 at hl
    have e : kp c 0 = ((2 ^ 11 * 0 : Nat) : Int) := by simp [kp]
    have e2 : l * pw2 0 = ((256 * l.toNat : Nat) : Int) := by simp [pw2]; omega
    rw [e, e2, or_add (by decide) (by decide) (by omega)]; omega
  · change 0 ≤ l ∧ l ≤ 6 at hl
    have e : kp c 1 = ((2 ^ 8 * (cl c 0).toNat : Nat) : Int) := by simp [kp]; omega
    have e2 : l * pw2 1 = ((32 * l.toNat : Nat) : Int) := by simp [pw2]; omega
    rw [e, e2, or_add (by decide) (by omega) (by omega)]; omega
  · change 0 ≤ l ∧ l ≤ 6 at hl
    have e : kp c 2 = ((2 ^ 5 * (8 * (cl c 0).toNat + (cl c 1).toNat) : Nat) : Int) := by simp [kp]; omega
    have e2 : l * pw2 2 = ((4 * l.toNat : Nat) : Int) := by simp [pw2]; omega
    rw [e, e2, or_add (by decide) (by omega) (by omega)]; omega
  · change 0 ≤ l ∧ l ≤ 2 at hl
    have e : kp c 3 = ((2 ^ 2 * (64 * (cl c 0).toNat + 8 * (cl c 1).toNat + (cl c 2).toNat) : Nat) : Int) := by simp [kp]; omega
    have e2 : l * pw2 3 = ((l.toNat : Nat) : Int) := by simp [pw2]; omega
    rw [e, e2, or_add (by decide) (by omega) (by omega)]; omega
def PCs (σ : fs_S) (t : rt) (r : Int) : Prop := ∀ f l, 0 ≤ f → f < 4 → 0 ≤ l → l ≤ ((wN f : Nat) : Int) → σ (70 + f) l = ol t r f l
theorem PCs.eq {σ τ : fs_S} {t : rt} {r : Int} (h : PCs σ t r) (e : ∀ k i, 70 ≤ k → k < 74 → τ k i = σ k i) : PCs τ t r := fun f l a b c d => by rw [e _ _ (by omega) (by omega)]; exact h f l a b c d
theorem prI_congr {g h : Int → Int} {n : Nat} (e : ∀ f, 0 ≤ f → f < (n : Int) → g f = h f) : prI g (n : Int) = prI h (n : Int) := by
  induction n with
  | zero => rfl
  | succ n ih =>
    rw [show ((n + 1 : Nat) : Int) = (n : Int) + 1 by omega, prI_s _ (by omega), prI_s _ (by omega), ih (fun f a b => e f a (by omega)), e (n : Int) (by omega) (by omega)]
theorem prI_fac {g : Int → Int} {f : Int} (h : 0 ≤ f ∧ f < 4) (h0 : g f = 0) : prI g 4 = 0 := by
  have e : prI g 4 = g 0 * g 1 * g 2 * g 3 := by
    rw [show (4 : Int) = 0 + 1 + 1 + 1 + 1 from rfl, prI_s _ (by omega), prI_s _ (by omega), prI_s _ (by omega), prI_s _ (by omega), prI_0, Int.one_mul]
    rfl
  rw [e]
  rcases (by omega : f = 0 ∨ f = 1 ∨ f = 2 ∨ f = 3) with rfl | rfl | rfl | rfl <;> rw [h0] <;> simp
set_option maxRecDepth 100000 in
set_option maxHeartbeats 3000000 in
theorem cK_enter {t : rt} (hw : twf t) {P : Nat} (hP : (P : Int) < tn t) : ∀ (n : Nat), n ≤ 4 → ∀ (C : Nat) (f : Int) (σ : fs_S), f = 4 - (n : Int) → C % blk n = 0 → C + blk n ≤ 1029 → TS σ t P C → PCs σ t (tod t (P : Int)) → 0 < prI (fun g => ol t (tod t (P : Int)) g (cl (C : Int) g)) f → fs_C mX5_enter (3 + n) [.inr 62, .inl f, .inl (kp (C : Int) f), .inl (prI (fun g => ol t (tod t (P : Int)) g (cl (C : Int) g)) f), .inl (P : Int)] σ (fun x τ => x = none ∧ TS τ t P (C + blk n) ∧ frU σ τ) := by
  intro n
  induction n with
  | zero =>
    intro _ C f σ hf hC h9 hT hQ hp
    subst hf
    refine fs_C.intro [some (.inr 62), some (.inl (4 - ((0 : Nat) : Int))), some (.inl (kp (C : Int) (4 - ((0 : Nat) : Int)))), some (.inl (prI (fun g => ol t (tod t (P : Int)) g (cl (C : Int) g)) (4 - ((0 : Nat) : Int)))), some (.inl (P : Int)), none] fs_oX5_enter (Nat.le_of_ble_eq_true rfl) rfl ?_
    change C + 1 ≤ 1029 at h9
    change 0 < eo t (tod t (P : Int)) (C : Int) at hp
    have ek : kp (C : Int) (4 - ((0 : Nat) : Int)) = ky (C : Int) := by unfold kp ky; simp
    have cp := cK_put hw hP (show C < 1029 by omega) hT (decide_eq_true hp)
    rw [← ek] at cp
    refine fr_iload_n 1 dX5_enter_0 rfl rfl ?_
    refine fr_iconst 2 dX5_enter_1 rfl ?_
    refine fr_icmp_lt 14 5 dX5_enter_2 rfl rfl (by omega) (by omega) (fun h2 => ?_) (fun h2 => ?_)
    · omega
    · refine fr_aload_n 6 dX5_enter_5 rfl rfl ?_
      refine fr_iload_n 7 dX5_enter_6 rfl rfl ?_
      refine fr_iload_n 8 dX5_enter_7 rfl rfl ?_
      refine fr_iload 10 dX5_enter_8 rfl rfl ?_
      refine fr_callVv 13 (M2 := mX5_put) [_, _, _] dX5_enter_10 rfl fs_mX5_86 fs_oX5_put fs_iX5_put fs_l62 rfl rfl (fs_Γ_rm (d := 0) (by omega)) (Nat.le_of_ble_eq_true rfl) rfl ?_
      refine cp.mono ?_
      rintro _ τ ⟨rfl, h1, h2⟩
      refine ⟨rfl, ?_⟩
      refine fr_vret dX5_enter_13 rfl ?_
      exact ⟨rfl, h1, h2⟩
  | succ n ih =>
    intro hn4 C f σ hf hC h9 hT hQ hp
    refine fs_C.intro [some (.inr 62), some (.inl f), some (.inl (kp (C : Int) f)), some (.inl (prI (fun g => ol t (tod t (P : Int)) g (cl (C : Int) g)) f)), some (.inl (P : Int)), none] fs_oX5_enter (Nat.le_of_ble_eq_true rfl) rfl ?_
    have hf4 : 0 ≤ f ∧ f < 4 := by omega
    have hf3 : f = 3 - (n : Int) := by omega
    have bs := blk_s (n := n) (by omega) hf3
    have w6 := wN_r f
    have wdw := wN_wd f
    obtain ⟨pd, epd⟩ : ∃ pd, pd = prI (fun g => ol t (tod t (P : Int)) g (cl (C : Int) g)) f := ⟨_, rfl⟩
    rw [← epd] at hp ⊢
    have key : ∀ (m : Nat) (τ : fs_S), m ≤ wN f + 1 → TS τ t P (C + (wN f + 1 - m) * blk n) → frU σ τ → fs_W (fs_Γ (3 + (n + 1)) (fun x τ => x = none ∧ TS τ t P (C + blk (n + 1)) ∧ frU σ τ)) mX5_enter 21 [some (.inr 62), some (.inl f), some (.inl (kp (C : Int) f)), some (.inl pd), some (.inl (P : Int)), some (.inl ((m : Int) - 1))] [] τ := by
      intro m
      induction m with
      | zero =>
        intro τ hm h1 h2
        rw [Nat.sub_zero, bs] at h1
        refine fr_iload 23 dX5_enter_21 rfl rfl ?_
        refine fr_if_lt 74 26 dX5_enter_23 rfl rfl (by omega) (fun h23 => ?_) (fun h23 => ?_)
        · refine fr_vret dX5_enter_74 rfl ?_
          exact ⟨rfl, h1, h2⟩
        · omega
      | succ m ihm =>
        intro τ hm h1 h2
        obtain ⟨j, ej⟩ : ∃ j, j = wN f + 1 - (m + 1) := ⟨_, rfl⟩
        rw [← ej] at h1
        have cb : C + j * blk n + blk n ≤ C + blk (n + 1) := by
          have : (j + 1) * blk n ≤ (wN f + 1) * blk n := Nat.mul_le_mul_right _ (by omega)
          rw [bs, Nat.add_mul, Nat.one_mul] at this
          omega
        have nx : C + j * blk n + blk n = C + (wN f + 1 - m) * blk n := by rw [show wN f + 1 - m = j + 1 by omega, Nat.add_mul, Nat.one_mul, Nat.add_assoc]
        have at1 := fun (x : Int) => @blk_at n (by omega) f hf3 C j hC h9 (by omega) x
        have lo1 := fun (x : Int) h1 h2 (g : Int) => @blk_lo n (by omega) f hf3 C hC x h1 h2 g
        have bp : 0 < blk n := by
          rcases (by omega : n = 0 ∨ n = 1 ∨ n = 2 ∨ n = 3) with rfl | rfl | rfl | rfl <;> decide
        obtain ⟨C1, eC1⟩ : ∃ C1, C1 = C + j * blk n := ⟨_, rfl⟩
        rw [← eC1] at cb nx at1 h1
        have cC := (at1 (C1 : Int) (by omega) (by omega)).1
        have el : ((wN f - j : Nat) : Int) = (m : Int) := by omega
        rw [el] at cC
        have ps : τ (70 + f) (m : Int) = ol t (tod t (P : Int)) f (m : Int) := by rw [h2 _ _ (by omega) (by omega)]; exact hQ f _ hf4.1 hf4.2 (by omega) (by omega)
        have olr := ol_r t (tod t (P : Int)) f (m : Int)
        have same : ∀ g, 0 ≤ g → g < f → cl (C1 : Int) g = cl (C : Int) g := fun g a b => lo1 (C1 : Int) (by omega) (by omega) g a b
        have kpe : fi_or (kp (C : Int) f) (fi_shl (m : Int) (sh f)) = kp (C1 : Int) (f + 1) := by
          rw [kp_or ⟨by omega, by omega⟩ hf4 ⟨by omega, by omega⟩, kp_s _ hf4, kp_congr same (by omega), cC]
        have pde : pd * ol t (tod t (P : Int)) f (m : Int) = prI (fun g => ol t (tod t (P : Int)) g (cl (C1 : Int) g)) (f + 1) := by
          rw [prI_s _ hf4.1, epd, cC]
          congr 1
          have := prI_congr (g := fun g => ol t (tod t (P : Int)) g (cl (C : Int) g)) (h := fun g => ol t (tod t (P : Int)) g (cl (C1 : Int) g)) (n := f.toNat) (fun g a b => by show ol _ _ _ _ = ol _ _ _ _; rw [same g a (by omega)])
          rw [Int.toNat_of_nonneg hf4.1] at this
          exact this
        rw [show ((m + 1 : Nat) : Int) - 1 = (m : Int) by omega]
        refine fr_iload 23 dX5_enter_21 rfl rfl ?_
        refine fr_if_lt 74 26 dX5_enter_23 rfl rfl (by omega) (fun h23 => ?_) (fun h23 => ?_)
        · omega
        · refine fr_aload_n 27 dX5_enter_26 rfl rfl ?_
          refine fr_getr 30 68 dX5_enter_27 rfl fs_kX5_37 fs_l62 rfl ?_
          refine fr_iload_n 31 dX5_enter_30 rfl rfl ?_
          refine fr_aald 32 dX5_enter_31 rfl fs_l68 (by omega) ?_
          refine fr_iload 34 dX5_enter_32 rfl rfl ?_
          refine fr_iald 35 dX5_enter_34 rfl (fs_f70 _ (by omega)) (by omega) ?_
          refine fr_top ps ?_
          refine fr_if_le 68 38 dX5_enter_35 rfl rfl (by omega) (fun h35 => ?_) (fun h35 => ?_)
          · refine fr_iinc 71 [_, _, _, _, _, _] dX5_enter_68 rfl rfl rfl ?_
            refine fr_goto 21 dX5_enter_71 rfl ?_
            refine ihm τ (by omega) ?_ h2
            rw [← nx]
            exact TS.skips hw hP (blk n) C1 h1 (fun x a b => prI_fac hf4 (by show ol _ _ _ _ = 0; rw [(at1 (x : Int) (by omega) (by omega)).1, el]; omega))
          · refine fr_aload_n 39 dX5_enter_38 rfl rfl ?_
            refine fr_iload_n 40 dX5_enter_39 rfl rfl ?_
            refine fr_iconst 41 dX5_enter_40 rfl ?_
            refine fr_iadd 42 dX5_enter_41 rfl ?_
            refine fr_iload_n 43 dX5_enter_42 rfl rfl ?_
            refine fr_iload 45 dX5_enter_43 rfl rfl ?_
            refine fr_gets 48 3 dX5_enter_45 rfl rfl rfl fs_kX5_53 ?_
            refine fr_iload_n 49 dX5_enter_48 rfl rfl ?_
            refine fr_ialdS 50 3 dX5_enter_49 rfl rfl rfl (by decide) (by omega) (st_sh hf4) ?_
            refine fr_ishl 51 dX5_enter_50 rfl ?_
            refine fr_ior 52 dX5_enter_51 rfl ?_
            refine fr_top kpe ?_
            refine fr_iload_n 53 dX5_enter_52 rfl rfl ?_
            refine fr_aload_n 54 dX5_enter_53 rfl rfl ?_
            refine fr_getr 57 68 dX5_enter_54 rfl fs_kX5_37 fs_l62 rfl ?_
            refine fr_iload_n 58 dX5_enter_57 rfl rfl ?_
            refine fr_aald 59 dX5_enter_58 rfl fs_l68 (by omega) ?_
            refine fr_iload 61 dX5_enter_59 rfl rfl ?_
            refine fr_iald 62 dX5_enter_61 rfl (fs_f70 _ (by omega)) (by omega) ?_
            refine fr_top ps ?_
            refine fr_imul 63 dX5_enter_62 rfl ?_
            refine fr_top pde ?_
            refine fr_iload 65 dX5_enter_63 rfl rfl ?_
            refine fr_callVv 68 (M2 := mX5_enter) [_, _, _, _] dX5_enter_65 rfl fs_mX5_75 fs_oX5_enter fs_iX5_enter fs_l62 rfl rfl (fs_Γ_rm (d := 3 + n) (by omega)) (Nat.le_of_ble_eq_true rfl) rfl ?_
            refine (ih (by omega) C1 (f + 1) τ (by omega) ((at1 (C1 : Int) (by omega) (by omega)).2) (by omega) h1 (hQ.eq (fun k i a b => h2 k i (by omega) (by omega))) (by rw [← pde]; exact Int.mul_pos hp (by omega))).mono ?_
            rintro _ ρ ⟨rfl, g1, g2⟩
            rw [nx] at g1
            refine ⟨rfl, ?_⟩
            refine fr_iinc 71 [_, _, _, _, _, _] dX5_enter_68 rfl rfl rfl ?_
            refine fr_goto 21 dX5_enter_71 rfl ?_
            exact ihm ρ (by omega) g1 (h2.trans g2)
    refine fr_iload_n 1 dX5_enter_0 rfl rfl ?_
    refine fr_iconst 2 dX5_enter_1 rfl ?_
    refine fr_icmp_lt 14 5 dX5_enter_2 rfl rfl (by omega) (by omega) (fun h2 => ?_) (fun h2 => ?_)
    · refine fr_getsN 17 1 dX5_enter_14 rfl rfl rfl fs_nX5_79 ?_
      refine fr_iload_n 18 dX5_enter_17 rfl rfl ?_
      refine fr_ialdS 19 1 dX5_enter_18 rfl rfl rfl (by decide) (by omega) (st_wd hf4) ?_
      refine fr_top (show wd f = ((wN f + 1 : Nat) : Int) - 1 by omega) ?_
      refine fr_istore 21 [_, _, _, _, _, _] dX5_enter_19 rfl (Nat.le_of_ble_eq_true rfl) rfl ?_
      exact key (wN f + 1) σ (Nat.le_refl _) (by rw [Nat.sub_self, Nat.zero_mul]; exact hT) (fun _ _ _ _ => rfl)
    · omega
