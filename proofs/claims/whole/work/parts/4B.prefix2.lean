/-! ===== the class: how many prefixes, the i-th ===== -/
/-- how many blocks of size K lie within v .. hi -/
def wiN (K hi v : Nat) : Int := max 0 ((((hi + 1) / K : Nat) : Int) - (((v + K - 1) / K : Nat) : Int))
theorem up_dvd {K v : Nat} (hK : 0 < K) (h : K ∣ v) : (v + K - 1) / K = v / K := by
  obtain ⟨q, rfl⟩ := h
  rw [Nat.mul_div_cancel_left _ hK, show K * q + K - 1 = (K - 1) + K * q by omega, Nat.add_mul_div_left _ _ hK, Nat.div_eq_of_lt (by omega)]
  omega
theorem up_not {K v : Nat} (hK : 0 < K) (h : ¬ K ∣ v) : (v + K - 1) / K = v / K + 1 := by
  have e := Nat.div_add_mod v K
  have hm := Nat.mod_lt v hK
  have hz : v % K ≠ 0 := fun z => h (Nat.dvd_of_mod_eq_zero z)
  obtain ⟨q, eq⟩ : ∃ q, q = v / K := ⟨_, rfl⟩
  rw [← eq] at e ⊢
  rw [show v + K - 1 = (v % K - 1) + K * (q + 1) by rw [Nat.mul_add]; omega, Nat.add_mul_div_left _ _ hK, Nat.div_eq_of_lt (by omega)]
  omega
theorem wi_step {W hi v k : Nat} (hk : k ≤ W) (hv : v ≤ hi) : wiN (2 ^ k) hi v = wiN (2 ^ k) hi (nxN W v hi) + (if k ≤ W - laN v hi W 1 then ((2 ^ (W - laN v hi W 1 - k) : Nat) : Int) else 0) := by
  have hs2 := la_dvd W v hi
  have hnx := nx_le (w := W) hv
  have hmx := la_max (w := W) (fr := v) (to := hi) hk
  unfold nxN at hnx ⊢
  obtain ⟨e, ee⟩ : ∃ e, e = W - laN v hi W 1 := ⟨_, rfl⟩
  rw [← ee] at hs2 hnx hmx ⊢
  have hK := Nat.two_pow_pos k
  have hS := Nat.two_pow_pos e
  by_cases h : k ≤ e
  · rw [if_pos h]
    have dd : 2 ^ k ∣ 2 ^ e := Nat.pow_dvd_pow 2 h
    have es : 2 ^ e = 2 ^ k * 2 ^ (e - k) := by rw [← Nat.pow_add, show k + (e - k) = e by omega]
    have dv := Nat.dvd_trans dd hs2
    unfold wiN
    rw [up_dvd hK dv, up_dvd hK (Nat.dvd_add dv dd)]
    have h1 : (v + 2 ^ e) / 2 ^ k = v / 2 ^ k + 2 ^ (e - k) := by rw [es, Nat.add_mul_div_left _ _ hK]
    have h2 : (v + 2 ^ e) / 2 ^ k ≤ (hi + 1) / 2 ^ k := Nat.div_le_div_right hnx
    rw [h1] at h2 ⊢
    generalize (hi + 1) / 2 ^ k = X1 at h2 ⊢
    generalize v / 2 ^ k = X2 at h2 ⊢
    generalize 2 ^ (e - k) = X3 at h2 ⊢
    omega
  · rw [if_neg h, Int.add_zero]
    have dd : 2 ^ e ∣ 2 ^ k := Nat.pow_dvd_pow 2 (by omega)
    have hlt : 2 ^ e < 2 ^ k := Nat.pow_lt_pow_right (by decide) (by omega)
    unfold wiN
    by_cases hd : 2 ^ k ∣ v
    · have hbig : ¬ v + 2 ^ k ≤ hi + 1 := fun z => h (hmx hd z)
      have hn : ¬ 2 ^ k ∣ v + 2 ^ e := fun z => by
        have : 2 ^ k ∣ 2 ^ e := (Nat.dvd_add_right hd).1 z
        have := Nat.le_of_dvd hS this
        omega
      rw [up_dvd hK hd, up_not hK hn]
      have e1 : (hi + 1) / 2 ^ k < v / 2 ^ k + 1 := by
        obtain ⟨q, rfl⟩ := hd
        rw [Nat.mul_div_cancel_left _ hK]
        apply Nat.div_lt_of_lt_mul
        rw [Nat.mul_add]; omega
      have e2 : v / 2 ^ k ≤ (v + 2 ^ e) / 2 ^ k := Nat.div_le_div_right (by omega)
      omega
    · rw [up_not hK hd]
      have ev := Nat.div_add_mod v (2 ^ k)
      have hm := Nat.mod_lt v hK
      have hz : v % 2 ^ k ≠ 0 := fun z => hd (Nat.dvd_of_mod_eq_zero z)
      have dm : 2 ^ e ∣ v % 2 ^ k := (Nat.dvd_mod_iff dd).2 hs2
      have hst := mul_step dm dd hm
      obtain ⟨q, eq⟩ : ∃ q, q = v / 2 ^ k := ⟨_, rfl⟩
      rw [← eq] at ev ⊢
      have : (v + 2 ^ e + 2 ^ k - 1) / 2 ^ k = q + 1 := by
        rw [show v + 2 ^ e + 2 ^ k - 1 = (v % 2 ^ k + 2 ^ e - 1) + 2 ^ k * (q + 1) by rw [Nat.mul_add]; omega, Nat.add_mul_div_left _ _ hK, Nat.div_eq_of_lt (by omega)]
        omega
      rw [this]
theorem wi_0 {K hi v : Nat} (hK : 0 < K) (h : hi < v) : wiN K hi v = 0 := by
  unfold wiN
  have : (hi + 1) / K ≤ (v + K - 1) / K := Nat.div_le_div_right (by omega)
  omega
theorem olF_wi {W hi len : Nat} (hl : len ≤ W) : ∀ (n v : Nat), hi + 1 - v ≤ n → olF W hi (len : Int) n v = wiN (2 ^ (W - len)) hi v - 2 * (if len = 0 then 0 else wiN (2 ^ (W - len + 1)) hi v)
  | 0, v, h => by
    rw [olF, wi_0 (Nat.two_pow_pos _) (by omega), wi_0 (Nat.two_pow_pos _) (by omega)]
    split <;> rfl
  | n + 1, v, h => by
    rw [olF]
    split
    · next hv =>
      have g := nx_gt W v hi
      have hle := laN_le v hi W 1
      rw [olF_wi hl n (nxN W v hi) (by omega), wi_step (W := W) (k := W - len) (by omega) hv]
      by_cases e0 : len = 0
      · subst e0
        rw [if_pos rfl, if_pos rfl]
        by_cases e : laN v hi W 1 = 0
        · rw [if_pos (by omega), if_pos (by omega), e, show W - 0 - (W - 0) = 0 by omega]; omega
        · rw [if_neg (by omega), if_neg (by omega)]; omega
      · rw [if_neg e0, if_neg e0, wi_step (W := W) (k := W - len + 1) (by omega) hv]
        by_cases e : laN v hi W 1 = len
        · rw [if_pos (by omega), if_pos (by omega), if_neg (by omega), e, show W - len - (W - len) = 0 by omega]; omega
        · rw [if_neg (by omega)]
          by_cases e2 : W - len ≤ W - laN v hi W 1
          · rw [if_pos e2, if_pos (by omega), show W - laN v hi W 1 - (W - len) = (W - laN v hi W 1 - (W - len + 1)) + 1 by omega, Nat.pow_succ]; omega
          · rw [if_neg e2, if_neg (by omega)]; omega
    · next hv =>
      rw [wi_0 (Nat.two_pow_pos _) (by omega), wi_0 (Nat.two_pow_pos _) (by omega)]
      split <;> rfl
set_option maxRecDepth 100000 in
set_option maxHeartbeats 3000000 in
theorem cK_prefixesWithin {σ : fs_S} {t : rt} {r f : Int} {len : Nat} (hw : twf t) (hR : RC 27 σ t) (hr : 0 ≤ r ∧ r < tn t) (hf : 0 ≤ f ∧ f < 4) (hl : len ≤ wN f) : fs_C mX3_prefixesWithin 1 [.inr 27, .inl r, .inl f, .inl (len : Int)] σ (fun y τ => y = some (wiN (2 ^ (wN f - len)) (tH t r f) (tL t r f)) ∧ τ = σ) := by
  refine fs_C.intro [some (.inr 27), some (.inl r), some (.inl f), some (.inl (len : Int)), none, none, none] fs_oX3_prefixesWithin (Nat.le_of_ble_eq_true rfl) rfl ?_
  have hn := hw.1
  have e := hR.lh hr hf
  obtain ⟨q1, q2, q3, q4⟩ := tLH hw hr.1 hr.2 hf.1 hf.2
  have hW := wN_r f
  have hp := Nat.two_pow_pos (wN f - len)
  have hpl : 2 ^ (wN f - len) ≤ 64 := by
    have : 2 ^ (wN f - len) ≤ 2 ^ 6 := Nat.pow_le_pow_right (by decide) (by omega)
    omega
  have eb : wd f - (len : Int) = ((wN f - len : Nat) : Int) := by rw [wN_wd]; omega
  have s1 := fm_shl1 (wN f - len) (by omega)
  have s2 : fi_shr (tlo t r f + ((2 ^ (wN f - len) : Nat) : Int) - 1) ((wN f - len : Nat) : Int) = (((tL t r f + 2 ^ (wN f - len) - 1) / 2 ^ (wN f - len) : Nat) : Int) := by
    rw [← fm_shr (by omega) (by omega)]
    congr 1
    omega
  have s3 : fi_shr (thi t r f + 1) ((wN f - len : Nat) : Int) = (((tH t r f + 1) / 2 ^ (wN f - len) : Nat) : Int) := by
    rw [← fm_shr (by omega) (by omega)]
    congr 1
    omega
  have d1 : (tL t r f + 2 ^ (wN f - len) - 1) / 2 ^ (wN f - len) ≤ tL t r f + 2 ^ (wN f - len) - 1 := Nat.div_le_self _ _
  have d2 : (tH t r f + 1) / 2 ^ (wN f - len) ≤ tH t r f + 1 := Nat.div_le_self _ _
  generalize hX : (tL t r f + 2 ^ (wN f - len) - 1) / 2 ^ (wN f - len) = X at s2 d1
  generalize hY : (tH t r f + 1) / 2 ^ (wN f - len) = Y at s3 d2
  refine fr_getsN 3 1 dX3_prefixesWithin_0 rfl rfl rfl fs_nX3_60 ?_
  refine fr_iload_n 4 dX3_prefixesWithin_3 rfl rfl ?_
  refine fr_ialdS 5 1 dX3_prefixesWithin_4 rfl rfl rfl (by decide) hf (st_wd hf) ?_
  refine fr_iload_n 6 dX3_prefixesWithin_5 rfl rfl ?_
  refine fr_isub 7 dX3_prefixesWithin_6 rfl ?_
  refine fr_top eb ?_
  refine fr_istore 9 [_, _, _, _, _, _, _] dX3_prefixesWithin_7 rfl (Nat.le_of_ble_eq_true rfl) rfl ?_
  refine fr_aload_n 10 dX3_prefixesWithin_9 rfl rfl ?_
  refine fr_getr 13 28 dX3_prefixesWithin_10 rfl fs_kX3_17 fs_l27 rfl ?_
  refine fr_iload_n 14 dX3_prefixesWithin_13 rfl rfl ?_
  refine fr_aald 15 dX3_prefixesWithin_14 rfl fs_l28 (by omega) ?_
  refine fr_iload_n 16 dX3_prefixesWithin_15 rfl rfl ?_
  refine fr_iald 17 dX3_prefixesWithin_16 rfl (fs_f34 _ (by omega)) (by omega) ?_
  refine fr_top e.1 ?_
  refine fr_iconst 18 dX3_prefixesWithin_17 rfl ?_
  refine fr_iload 20 dX3_prefixesWithin_18 rfl rfl ?_
  refine fr_ishl 21 dX3_prefixesWithin_20 rfl ?_
  refine fr_top s1 ?_
  refine fr_iadd 22 dX3_prefixesWithin_21 rfl ?_
  refine fr_iconst 23 dX3_prefixesWithin_22 rfl ?_
  refine fr_isub 24 dX3_prefixesWithin_23 rfl ?_
  refine fr_iload 26 dX3_prefixesWithin_24 rfl rfl ?_
  refine fr_ishr 27 dX3_prefixesWithin_26 rfl ?_
  refine fr_top s2 ?_
  refine fr_istore 29 [_, _, _, _, _, _, _] dX3_prefixesWithin_27 rfl (Nat.le_of_ble_eq_true rfl) rfl ?_
  refine fr_aload_n 30 dX3_prefixesWithin_29 rfl rfl ?_
  refine fr_getr 33 29 dX3_prefixesWithin_30 rfl fs_kX3_20 fs_l27 rfl ?_
  refine fr_iload_n 34 dX3_prefixesWithin_33 rfl rfl ?_
  refine fr_aald 35 dX3_prefixesWithin_34 rfl fs_l29 (by omega) ?_
  refine fr_iload_n 36 dX3_prefixesWithin_35 rfl rfl ?_
  refine fr_iald 37 dX3_prefixesWithin_36 rfl (fs_f38 _ (by omega)) (by omega) ?_
  refine fr_top e.2 ?_
  refine fr_iconst 38 dX3_prefixesWithin_37 rfl ?_
  refine fr_iadd 39 dX3_prefixesWithin_38 rfl ?_
  refine fr_iload 41 dX3_prefixesWithin_39 rfl rfl ?_
  refine fr_ishr 42 dX3_prefixesWithin_41 rfl ?_
  refine fr_top s3 ?_
  refine fr_istore 44 [_, _, _, _, _, _, _] dX3_prefixesWithin_42 rfl (Nat.le_of_ble_eq_true rfl) rfl ?_
  refine fr_iconst 45 dX3_prefixesWithin_44 rfl ?_
  refine fr_iload 47 dX3_prefixesWithin_45 rfl rfl ?_
  refine fr_iload 49 dX3_prefixesWithin_47 rfl rfl ?_
  refine fr_isub 50 dX3_prefixesWithin_49 rfl ?_
  refine fr_mmax 53 dX3_prefixesWithin_50 rfl fs_mX3_48 fs_sJ9_max_7cf53 fs_iniMath fs_cdmax (fs_Γ_rm (d := 0) (by decide)) (Nat.le_of_ble_eq_true rfl) (by omega) (by omega) ?_
  refine fr_iret dX3_prefixesWithin_53 rfl ?_
  exact ⟨congrArg some (by unfold wiN; rw [hX, hY]), rfl⟩
set_option maxRecDepth 100000 in
set_option maxHeartbeats 3000000 in
theorem cK_prefixesOf {σ : fs_S} {t : rt} {r f : Int} {len : Nat} (hw : twf t) (hR : RC 27 σ t) (hr : 0 ≤ r ∧ r < tn t) (hf : 0 ≤ f ∧ f < 4) (hl : len ≤ wN f) : fs_C mX3_prefixesOf 2 [.inr 27, .inl r, .inl f, .inl (len : Int)] σ (fun y τ => y = some (ol t r f (len : Int)) ∧ τ = σ) := by
  refine fs_C.intro [some (.inr 27), some (.inl r), some (.inl f), some (.inl (len : Int)), none] fs_oX3_prefixesOf (Nat.le_of_ble_eq_true rfl) rfl ?_
  obtain ⟨q1, q2, q3, q4⟩ := tLH hw hr.1 hr.2 hf.1 hf.2
  have hW := wN_r f
  have hol : ol t r f (len : Int) = _ := olF_wi (W := wN f) (hi := tH t r f) hl 65 (tL t r f) (by omega)
  by_cases h0 : len = 0
  · subst h0
    rw [if_pos rfl] at hol
    refine fr_iload_n 1 dX3_prefixesOf_0 rfl rfl ?_
    refine fr_if_le 16 4 dX3_prefixesOf_1 rfl rfl (by omega) (fun h1 => ?_) (fun h1 => ?_)
    · refine fr_iconst 17 dX3_prefixesOf_16 rfl ?_
      refine fr_istore 19 [_, _, _, _, _] dX3_prefixesOf_17 rfl (Nat.le_of_ble_eq_true rfl) rfl ?_
      refine fr_aload_n 20 dX3_prefixesOf_19 rfl rfl ?_
      refine fr_iload_n 21 dX3_prefixesOf_20 rfl rfl ?_
      refine fr_iload_n 22 dX3_prefixesOf_21 rfl rfl ?_
      refine fr_iload_n 23 dX3_prefixesOf_22 rfl rfl ?_
      refine fr_callVi 26 (M2 := mX3_prefixesWithin) [_, _, _] dX3_prefixesOf_23 rfl fs_mX3_67 fs_oX3_prefixesWithin fs_iX3_prefixesWithin fs_l27 rfl rfl (fs_Γ_rm (d := 1) (by decide)) (Nat.le_of_ble_eq_true rfl) rfl ?_
      refine (cK_prefixesWithin (len := 0) hw hR hr hf hl).ci ?_
      refine fr_iconst 27 dX3_prefixesOf_26 rfl ?_
      refine fr_iload 29 dX3_prefixesOf_27 rfl rfl ?_
      refine fr_imul 30 dX3_prefixesOf_29 rfl ?_
      refine fr_isub 31 dX3_prefixesOf_30 rfl ?_
      refine fr_iret dX3_prefixesOf_31 rfl ?_
      exact ⟨congrArg some hol.symm, rfl⟩
    · exact absurd h1 (by decide)
  · rw [if_neg h0] at hol
    have c1 := cK_prefixesWithin (σ := σ) (len := len - 1) hw hR hr hf (by omega)
    rw [show ((len - 1 : Nat) : Int) = (len : Int) - 1 by omega, show wN f - (len - 1) = wN f - len + 1 by omega] at c1
    refine fr_iload_n 1 dX3_prefixesOf_0 rfl rfl ?_
    refine fr_if_le 16 4 dX3_prefixesOf_1 rfl rfl (by omega) (fun h1 => ?_) (fun h1 => ?_)
    · exact absurd h1 (by omega)
    · refine fr_aload_n 5 dX3_prefixesOf_4 rfl rfl ?_
      refine fr_iload_n 6 dX3_prefixesOf_5 rfl rfl ?_
      refine fr_iload_n 7 dX3_prefixesOf_6 rfl rfl ?_
      refine fr_iload_n 8 dX3_prefixesOf_7 rfl rfl ?_
      refine fr_iconst 9 dX3_prefixesOf_8 rfl ?_
      refine fr_isub 10 dX3_prefixesOf_9 rfl ?_
      refine fr_callVi 13 (M2 := mX3_prefixesWithin) [_, _, _] dX3_prefixesOf_10 rfl fs_mX3_67 fs_oX3_prefixesWithin fs_iX3_prefixesWithin fs_l27 rfl rfl (fs_Γ_rm (d := 1) (by decide)) (Nat.le_of_ble_eq_true rfl) rfl ?_
      refine c1.ci ?_
      refine fr_goto 17 dX3_prefixesOf_13 rfl ?_
      refine fr_istore 19 [_, _, _, _, _] dX3_prefixesOf_17 rfl (Nat.le_of_ble_eq_true rfl) rfl ?_
      refine fr_aload_n 20 dX3_prefixesOf_19 rfl rfl ?_
      refine fr_iload_n 21 dX3_prefixesOf_20 rfl rfl ?_
      refine fr_iload_n 22 dX3_prefixesOf_21 rfl rfl ?_
      refine fr_iload_n 23 dX3_prefixesOf_22 rfl rfl ?_
      refine fr_callVi 26 (M2 := mX3_prefixesWithin) [_, _, _] dX3_prefixesOf_23 rfl fs_mX3_67 fs_oX3_prefixesWithin fs_iX3_prefixesWithin fs_l27 rfl rfl (fs_Γ_rm (d := 1) (by decide)) (Nat.le_of_ble_eq_true rfl) rfl ?_
      refine (cK_prefixesWithin hw hR hr hf hl).ci ?_
      refine fr_iconst 27 dX3_prefixesOf_26 rfl ?_
      refine fr_iload 29 dX3_prefixesOf_27 rfl rfl ?_
      refine fr_imul 30 dX3_prefixesOf_29 rfl ?_
      refine fr_isub 31 dX3_prefixesOf_30 rfl ?_
      refine fr_iret dX3_prefixesOf_31 rfl ?_
      exact ⟨congrArg some hol.symm, rfl⟩
