/-! ===== the class: prefixes, numbers ===== -/
theorem mul_step {s a b : Nat} (ha : s ∣ a) (hb : s ∣ b) (h : a < b) : a + s ≤ b := by
  obtain ⟨i, rfl⟩ := ha
  obtain ⟨j, rfl⟩ := hb
  have : i < j := Nat.lt_of_mul_lt_mul_left h
  calc s * i + s = s * (i + 1) := by rw [Nat.mul_add, Nat.mul_one]
    _ ≤ s * j := Nat.mul_le_mul_left s this
theorem la_spec (w fr to : Nat) : ∀ (l : Nat), l ≤ w → fr % 2 ^ (w - l) = 0 → fr % 2 ^ (w - laN fr to l (2 ^ (w - l))) = 0 ∧ (0 < laN fr to l (2 ^ (w - l)) → ¬ (fr % 2 ^ (w - laN fr to l (2 ^ (w - l)) + 1) = 0 ∧ fr + 2 ^ (w - laN fr to l (2 ^ (w - l)) + 1) ≤ to + 1))
  | 0, _, h => ⟨h, fun z => absurd z (Nat.lt_irrefl 0)⟩
  | l + 1, hl, h => by
    have e : 2 * 2 ^ (w - (l + 1)) = 2 ^ (w - l) := by rw [show w - l = (w - (l + 1)) + 1 by omega, Nat.pow_succ]; omega
    rw [laN]
    split
    · next hc =>
      rw [e] at hc ⊢
      exact la_spec w fr to l (by omega) hc.1
    · next hc =>
      refine ⟨h, fun _ z => hc ?_⟩
      rw [show w - (l + 1) + 1 = w - l by omega] at z
      rw [e]; exact z
theorem la_dvd (w fr to : Nat) : 2 ^ (w - laN fr to w 1) ∣ fr := by
  have := (la_spec w fr to w (Nat.le_refl _) (by rw [Nat.sub_self]; exact Nat.mod_one _)).1
  rw [Nat.sub_self] at this
  exact Nat.dvd_of_mod_eq_zero this
theorem la_max {w fr to K : Nat} (hK : K ≤ w) (h1 : 2 ^ K ∣ fr) (h2 : fr + 2 ^ K ≤ to + 1) : K ≤ w - laN fr to w 1 := by
  have q := (la_spec w fr to w (Nat.le_refl _) (by rw [Nat.sub_self]; exact Nat.mod_one _)).2
  rw [Nat.sub_self] at q
  change 0 < laN fr to w 1 → ¬ (fr % 2 ^ (w - laN fr to w 1 + 1) = 0 ∧ fr + 2 ^ (w - laN fr to w 1 + 1) ≤ to + 1) at q
  have hle := laN_le fr to w 1
  rcases Nat.lt_or_ge (w - laN fr to w 1) K with z | z
  · exfalso
    have hd : 2 ^ (w - laN fr to w 1 + 1) ∣ 2 ^ K := Nat.pow_dvd_pow 2 z
    have hp : 2 ^ (w - laN fr to w 1 + 1) ≤ 2 ^ K := Nat.pow_le_pow_right (by decide) z
    exact q (by omega) ⟨Nat.mod_eq_zero_of_dvd (Nat.dvd_trans hd h1), by omega⟩
  · exact z
/-- the block of x of length l stays within lo .. hi -/
def bok (W lo hi x l : Nat) : Prop := lo ≤ x - x % 2 ^ (W - l) ∧ x - x % 2 ^ (W - l) + 2 ^ (W - l) ≤ hi + 1
def IsPL (W lo hi x R : Nat) : Prop := R ≤ W ∧ bok W lo hi x R ∧ ∀ l, l < R → ¬ bok W lo hi x l
theorem dvd_blk (x k : Nat) : 2 ^ k ∣ x - x % 2 ^ k := by
  have := Nat.div_add_mod x (2 ^ k)
  exact ⟨x / 2 ^ k, by omega⟩
theorem blk_of {x v k : Nat} (h : 2 ^ k ∣ v) (h1 : v ≤ x) (h2 : x < v + 2 ^ k) : x - x % 2 ^ k = v := by
  have hp := Nat.two_pow_pos k
  have d := dvd_blk x k
  have hm := Nat.mod_lt x hp
  have hle := Nat.mod_le x (2 ^ k)
  rcases Nat.lt_trichotomy (x - x % 2 ^ k) v with z | z | z
  · have := mul_step d h z; omega
  · exact z
  · have := mul_step h d z; omega
def noS (W lo hi v : Nat) : Prop := ∀ b k, k ≤ W → 2 ^ k ∣ b → lo ≤ b → b + 2 ^ k ≤ hi + 1 → ¬ (b < v ∧ v < b + 2 ^ k)
theorem noS_nx {W lo hi v : Nat} (h : noS W lo hi v) : noS W lo hi (nxN W v hi) := by
  intro b k hk hd hl hh hs
  have hs2 := la_dvd W v hi
  obtain ⟨s, es⟩ : ∃ s, s = 2 ^ (W - laN v hi W 1) := ⟨_, rfl⟩
  have en : nxN W v hi = v + s := by unfold nxN; rw [es]
  rw [en] at hs
  rw [← es] at hs2
  have hp : 0 < s := by rw [es]; exact Nat.two_pow_pos _
  rcases Nat.lt_trichotomy b v with z | z | z
  · exact h b k hk hd hl hh ⟨z, by omega⟩
  · subst z
    have := la_max hk hd hh
    have : 2 ^ k ≤ s := by rw [es]; exact Nat.pow_le_pow_right (by decide) this
    omega
  · rcases Nat.lt_or_ge k (W - laN v hi W 1) with y | y
    · have d2 : 2 ^ k ∣ s := by rw [es]; exact Nat.pow_dvd_pow 2 (by omega)
      have d3 : 2 ^ k ∣ v + s := Nat.dvd_add (Nat.dvd_trans d2 hs2) d2
      have := mul_step hd d3 hs.1
      omega
    · have d2 : s ∣ 2 ^ k := by rw [es]; exact Nat.pow_dvd_pow 2 y
      have := mul_step hs2 (Nat.dvd_trans d2 hd) z
      omega
theorem noS_lo (W lo hi : Nat) : noS W lo hi lo := fun b k _ _ h1 _ h => by omega
theorem la_PL {W lo hi v x : Nat} (h : noS W lo hi v) (h1 : lo ≤ v) (h2 : v ≤ x) (h3 : x < nxN W v hi) (h4 : x ≤ hi) : IsPL W lo hi x (laN v hi W 1) := by
  have hs2 := la_dvd W v hi
  have hle := laN_le v hi W 1
  have hnx := nx_le (w := W) (fr := v) (to := hi) (by omega)
  unfold nxN at h3 hnx
  have eb := blk_of hs2 h2 h3
  refine ⟨hle, ⟨by rw [eb]; exact h1, by rw [eb]; exact hnx⟩, fun l hl hb => ?_⟩
  obtain ⟨b1, b2⟩ := hb
  obtain ⟨b, ebb⟩ : ∃ b, b = x - x % 2 ^ (W - l) := ⟨_, rfl⟩
  have d := dvd_blk x (W - l)
  rw [← ebb] at b1 b2 d
  have hm := Nat.mod_lt x (Nat.two_pow_pos (W - l))
  have hle2 := Nat.mod_le x (2 ^ (W - l))
  have d2 : 2 ^ (W - laN v hi W 1) ∣ 2 ^ (W - l) := Nat.pow_dvd_pow 2 (by omega)
  rcases Nat.lt_trichotomy b v with z | z | z
  · exact h b (W - l) (by omega) d b1 b2 ⟨z, by omega⟩
  · have := la_max (w := W) (fr := v) (to := hi) (K := W - l) (by omega) (by rw [← z]; exact d) (by rw [← z]; exact b2)
    omega
  · have := mul_step hs2 (Nat.dvd_trans d2 d) z
    omega
theorem loF_PL {W lo hi x : Nat} (hx : x ≤ hi) : ∀ (n v : Nat), noS W lo hi v → lo ≤ v → v ≤ x → hi + 1 - v ≤ n → IsPL W lo hi x (loF W hi x n v)
  | 0, v, _, _, _, h => by omega
  | n + 1, v, h, h1, h2, h3 => by
    rw [loF]
    have g := nx_gt W v hi
    split
    · next hc => exact loF_PL hx n _ (noS_nx h) (by omega) hc (by omega)
    · next hc => exact la_PL h h1 h2 (by omega) hx
theorem IsPL.uniq {W lo hi x R S : Nat} (h : IsPL W lo hi x R) (g : IsPL W lo hi x S) : R = S := by
  rcases Nat.lt_trichotomy R S with z | z | z
  · exact absurd h.2.1 (g.2.2 R z)
  · exact z
  · exact absurd g.2.1 (h.2.2 S z)
theorem fm_align : ∀ k : Nat, k < 7 → ∀ x : Nat, x < 64 → fi_and (x : Int) (fi_xor (((2 ^ k : Nat) : Int) - 1) (-1)) = ((x - x % 2 ^ k : Nat) : Int) := by decide +kernel
set_option maxRecDepth 100000 in
set_option maxHeartbeats 3000000 in
theorem cK_prefixLength {σ : fs_S} {t : rt} {r f : Int} {x R : Nat} (hw : twf t) (hR : RC 27 σ t) (hr : 0 ≤ r ∧ r < tn t) (hf : 0 ≤ f ∧ f < 4) (hx : x < 64) (hP : IsPL (wN f) (tL t r f) (tH t r f) x R) : fs_C mX3_prefixLength 0 [.inr 27, .inl r, .inl f, .inl (x : Int)] σ (fun y τ => y = some (R : Int) ∧ τ = σ) := by
  refine fs_C.intro [some (.inr 27), some (.inl r), some (.inl f), some (.inl (x : Int)), none, none, none] fs_oX3_prefixLength (Nat.le_of_ble_eq_true rfl) rfl ?_
  have hn := hw.1
  have e := hR.lh hr hf
  obtain ⟨q1, q2, q3, q4⟩ := tLH hw hr.1 hr.2 hf.1 hf.2
  have hW := wN_r f
  have ewd := wN_wd f
  have key : ∀ (m l : Nat) (y z : Option fs_V), l ≤ wN f → wN f - l < m → (∀ l', l' < l → ¬ bok (wN f) (tL t r f) (tH t r f) x l') → fs_W (fs_Γ 0 (fun y τ => y = some (R : Int) ∧ τ = σ)) mX3_prefixLength 3 [some (.inr 27), some (.inl r), some (.inl f), some (.inl (x : Int)), some (.inl (l : Int)), y, z] [] σ := by
    intro m
    induction m with
    | zero => intro l y z h1 h2; omega
    | succ m ih =>
      intro l y z h1 h2 hI
      have hp := Nat.two_pow_pos (wN f - l)
      have hpl : 2 ^ (wN f - l) ≤ 64 := by
        have : 2 ^ (wN f - l) ≤ 2 ^ 6 := Nat.pow_le_pow_right (by decide) (by omega)
        omega
      have sl := fm_shlw f h1
      have sa := fm_align (wN f - l) (by omega) x hx
      have hmod := Nat.mod_le x (2 ^ (wN f - l))
      refine fr_iload 5 dX3_prefixLength_3 rfl rfl ?_
      refine fr_getsN 8 1 dX3_prefixLength_5 rfl rfl rfl fs_nX3_60 ?_
      refine fr_iload_n 9 dX3_prefixLength_8 rfl rfl ?_
      refine fr_ialdS 10 1 dX3_prefixLength_9 rfl rfl rfl (by decide) hf (st_wd hf) ?_
      refine fr_icmp_ge 73 13 dX3_prefixLength_10 rfl rfl (by omega) (by omega) (fun h10 => ?_) (fun h10 => ?_)
      · refine fr_getsN 76 1 dX3_prefixLength_73 rfl rfl rfl fs_nX3_60 ?_
        refine fr_iload_n 77 dX3_prefixLength_76 rfl rfl ?_
        refine fr_ialdS 78 1 dX3_prefixLength_77 rfl rfl rfl (by decide) hf (st_wd hf) ?_
        refine fr_iret dX3_prefixLength_78 rfl ?_
        refine ⟨congrArg some ?_, rfl⟩
        have : ¬ R < l := fun z => hI R z hP.2.1
        have := hP.1
        omega
      · refine fr_iconst 14 dX3_prefixLength_13 rfl ?_
        refine fr_getsN 17 1 dX3_prefixLength_14 rfl rfl rfl fs_nX3_60 ?_
        refine fr_iload_n 18 dX3_prefixLength_17 rfl rfl ?_
        refine fr_ialdS 19 1 dX3_prefixLength_18 rfl rfl rfl (by decide) hf (st_wd hf) ?_
        refine fr_iload 21 dX3_prefixLength_19 rfl rfl ?_
        refine fr_isub 22 dX3_prefixLength_21 rfl ?_
        refine fr_ishl 23 dX3_prefixLength_22 rfl ?_
        refine fr_top sl ?_
        refine fr_iconst 24 dX3_prefixLength_23 rfl ?_
        refine fr_isub 25 dX3_prefixLength_24 rfl ?_
        refine fr_istore 27 [_, _, _, _, _, _, _] dX3_prefixLength_25 rfl (Nat.le_of_ble_eq_true rfl) rfl ?_
        refine fr_iload_n 28 dX3_prefixLength_27 rfl rfl ?_
        refine fr_iload 30 dX3_prefixLength_28 rfl rfl ?_
        refine fr_iconst 31 dX3_prefixLength_30 rfl ?_
        refine fr_ixor 32 dX3_prefixLength_31 rfl ?_
        refine fr_iand 33 dX3_prefixLength_32 rfl ?_
        refine fr_top sa ?_
        refine fr_istore 35 [_, _, _, _, _, _, _] dX3_prefixLength_33 rfl (Nat.le_of_ble_eq_true rfl) rfl ?_
        refine fr_aload_n 36 dX3_prefixLength_35 rfl rfl ?_
        refine fr_getr 39 28 dX3_prefixLength_36 rfl fs_kX3_17 fs_l27 rfl ?_
        refine fr_iload_n 40 dX3_prefixLength_39 rfl rfl ?_
        refine fr_aald 41 dX3_prefixLength_40 rfl fs_l28 (by omega) ?_
        refine fr_iload_n 42 dX3_prefixLength_41 rfl rfl ?_
        refine fr_iald 43 dX3_prefixLength_42 rfl (fs_f34 _ (by omega)) (by omega) ?_
        refine fr_iload 45 dX3_prefixLength_43 rfl rfl ?_
        refine fr_icmp_gt 67 48 dX3_prefixLength_45 rfl rfl (by omega) (by omega) (fun h45 => ?_) (fun h45 => ?_)
        · refine fr_iinc 70 [_, _, _, _, _, _, _] dX3_prefixLength_67 rfl rfl rfl ?_
          refine fr_goto 3 dX3_prefixLength_70 rfl ?_
          have hno : ¬ bok (wN f) (tL t r f) (tH t r f) x l := fun z => by
            have z1 := z.1
            have z2 := z.2
            omega
          exact ih (l + 1) _ _ (by omega) (by omega) (fun l' z => by
            by_cases e : l' = l
            · rw [e]; exact hno
            · exact hI l' (by omega))
        · refine fr_iload 50 dX3_prefixLength_48 rfl rfl ?_
          refine fr_iload 52 dX3_prefixLength_50 rfl rfl ?_
          refine fr_iadd 53 dX3_prefixLength_52 rfl ?_
          refine fr_aload_n 54 dX3_prefixLength_53 rfl rfl ?_
          refine fr_getr 57 29 dX3_prefixLength_54 rfl fs_kX3_20 fs_l27 rfl ?_
          refine fr_iload_n 58 dX3_prefixLength_57 rfl rfl ?_
          refine fr_aald 59 dX3_prefixLength_58 rfl fs_l29 (by omega) ?_
          refine fr_iload_n 60 dX3_prefixLength_59 rfl rfl ?_
          refine fr_iald 61 dX3_prefixLength_60 rfl (fs_f38 _ (by omega)) (by omega) ?_
          refine fr_icmp_gt 67 64 dX3_prefixLength_61 rfl rfl (by omega) (by omega) (fun h61 => ?_) (fun h61 => ?_)
          · refine fr_iinc 70 [_, _, _, _, _, _, _] dX3_prefixLength_67 rfl rfl rfl ?_
            refine fr_goto 3 dX3_prefixLength_70 rfl ?_
            have hno : ¬ bok (wN f) (tL t r f) (tH t r f) x l := fun z => by
              have z1 := z.1
              have z2 := z.2
              omega
            exact ih (l + 1) _ _ (by omega) (by omega) (fun l' z => by
              by_cases e : l' = l
              · rw [e]; exact hno
              · exact hI l' (by omega))
          · refine fr_iload 66 dX3_prefixLength_64 rfl rfl ?_
            refine fr_iret dX3_prefixLength_66 rfl ?_
            refine ⟨congrArg some ?_, rfl⟩
            have hok : bok (wN f) (tL t r f) (tH t r f) x l := ⟨by omega, by omega⟩
            have := hP.uniq ⟨h1, hok, hI⟩
            omega
  refine fr_iconst 1 dX3_prefixLength_0 rfl ?_
  refine fr_istore 3 [_, _, _, _, _, _, _] dX3_prefixLength_1 rfl (Nat.le_of_ble_eq_true rfl) rfl ?_
  exact key (wN f + 1) 0 _ _ (by omega) (by omega) (fun l' z => by omega)
