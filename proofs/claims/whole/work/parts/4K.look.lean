/-! ===== the class: lookedAt ===== -/
def pcN (m : Nat) (k : Nat) : Int := sm (fun i => if m.testBit i.toNat then 1 else 0) k
theorem pcN_s (m k : Nat) : pcN m (k + 1) = pcN m k + (if m.testBit k then 1 else 0) := rfl
theorem pop_pcN (m : Nat) : pop m = pcN m 16 := rfl
theorem pcN_up {m n : Nat} (h : ∀ i, m.testBit i = true → i < n) : ∀ k, pcN m (n + k) = pcN m n
  | 0 => rfl
  | k + 1 => by
    rw [← Nat.add_assoc, pcN_s, pcN_up h k]
    by_cases z : m.testBit (n + k) = true
    · have := h _ z; omega
    · rw [if_neg z]; omega
theorem pcN_cut (m j : Nat) : ∀ k, k ≤ j → pcN (m &&& (2 ^ j - 1)) k = pcN m k
  | 0, _ => rfl
  | k + 1, h => by
    rw [pcN_s, pcN_s, pcN_cut m j k (by omega), Nat.testBit_and, Nat.testBit_two_pow_sub_one]
    simp [show k < j by omega]
theorem pop_cut {m j : Nat} (hj : j ≤ 16) : pop (m &&& (2 ^ j - 1)) = pcN m j := by
  rw [pop_pcN, show 16 = j + (16 - j) by omega, pcN_up, pcN_cut m j j (Nat.le_refl _)]
  intro i h
  rw [Nat.testBit_and, Nat.testBit_two_pow_sub_one] at h
  simp at h
  exact h.2
theorem lkF_no {m fit : Nat} : ∀ (j k : Nat), (∀ i, k ≤ i → i < k + j → fit.testBit i = false) → lkF m fit j k (pcN m k) = pcN m (k + j)
  | 0, k, _ => rfl
  | j + 1, k, h => by
    have ih := lkF_no (m := m) j (k + 1) (fun i a b => h i (by omega) (by omega))
    rw [pcN_s] at ih
    rw [lkF]
    by_cases z : m.testBit k = true
    · rw [if_pos z] at ih ⊢
      rw [h k (by omega) (by omega), if_neg (by decide), ih]
      congr 1; omega
    · rw [if_neg z] at ih ⊢
      rw [Int.add_zero] at ih
      rw [ih]
      congr 1; omega
theorem lkF_at {m fit q : Nat} (h1 : fit.testBit q = true) (h2 : m.testBit q = true) : ∀ (j k : Nat), k ≤ q → q < k + j → (∀ i, i < q → fit.testBit i = false) → lkF m fit j k (pcN m k) = pcN m q + 1
  | 0, k, a, b, _ => by omega
  | j + 1, k, a, b, h => by
    rw [lkF]
    by_cases e : k = q
    · subst e
      rw [if_pos h2, if_pos h1]
    · have ih := lkF_at h1 h2 j (k + 1) (by omega) (by omega) h
      rw [pcN_s] at ih
      by_cases z : m.testBit k = true
      · rw [if_pos z] at ih ⊢
        rw [h k (by omega), if_neg (by decide), ih]
      · rw [if_neg z] at ih ⊢
        rw [Int.add_zero] at ih
        rw [ih]
set_option maxRecDepth 100000 in
set_option maxHeartbeats 3000000 in
theorem cK_lookedAt {σ : fs_S} {t : rt} {m fit : Nat} (hw : twf t) (hm : m < 65536) (hf : fit < 65536) (h1 : ∀ i, fit.testBit i = true → m.testBit i = true) (h2 : ∀ i, m.testBit i = true → (i : Int) < tn t) : fs_C mX6_lookedAt 2 [.inl (m : Int), .inl (fit : Int)] σ (fun x τ => x = some (lk t m fit) ∧ τ = σ) := by
  refine fs_C.intro [some (.inl (m : Int)), some (.inl (fit : Int)), none] fs_oX6_lookedAt (Nat.le_of_ble_eq_true rfl) rfl ?_
  have hn := hw.1
  by_cases h0 : fit = 0
  · subst h0
    refine fr_iload_n 1 dX6_lookedAt_0 rfl rfl ?_
    refine fr_callSi 4 (M2 := mX6_lowestBit) [_] dX6_lookedAt_1 rfl fs_mX6_127 fs_oX6_lowestBit fs_sX6_lowestBit rfl (fs_Γ_rm (d := 1) (by decide)) (Nat.le_of_ble_eq_true rfl) rfl ?_
    refine (cK_lowestBit hf).ci ?_
    rw [if_pos rfl]
    refine fr_istore_n 5 [_, _, _] dX6_lookedAt_4 rfl (Nat.le_of_ble_eq_true rfl) rfl ?_
    refine fr_iload_n 6 dX6_lookedAt_5 rfl rfl ?_
    refine fr_if_ge 16 9 dX6_lookedAt_6 rfl rfl (by omega) (fun h6 => ?_) (fun h6 => ?_)
    · exact absurd h6 (by decide)
    · refine fr_iload_n 10 dX6_lookedAt_9 rfl rfl ?_
      refine fr_callSi 13 (M2 := mJ6_bitCount_0f7a4) [_] dX6_lookedAt_10 rfl fs_mX6_229 fs_oJ6_bitCount_0f7a4 fs_sJ6_bitCount_0f7a4 rfl (fs_Γ_rm (d := 0) (by decide)) (Nat.le_of_ble_eq_true rfl) rfl ?_
      refine (cK_bitCount hm).ci ?_
      refine fr_goto 28 dX6_lookedAt_13 rfl ?_
      refine fr_iret dX6_lookedAt_28 rfl ?_
      refine ⟨congrArg some ?_, rfl⟩
      have z := lkF_no (m := m) (fit := 0) (tn t).toNat 0 (fun i _ _ => Nat.zero_testBit i)
      rw [Nat.zero_add] at z
      unfold lk
      rw [pop_pcN, show 16 = (tn t).toNat + (16 - (tn t).toNat) by omega, pcN_up (fun i y => by have := h2 i y; omega)]
      exact z.symm
  · obtain ⟨j, e1, e2, e3, e4⟩ := lowb_spec hf h0
    have tj := h2 j (h1 j e3)
    have p1 : 1 ≤ 2 ^ j := Nat.two_pow_pos j
    have p2 : 2 ^ j ≤ 2 ^ 15 := Nat.pow_le_pow_right (by decide) (by omega)
    have p3 : (2 : Nat) ^ 15 = 32768 := rfl
    refine fr_iload_n 1 dX6_lookedAt_0 rfl rfl ?_
    refine fr_callSi 4 (M2 := mX6_lowestBit) [_] dX6_lookedAt_1 rfl fs_mX6_127 fs_oX6_lowestBit fs_sX6_lowestBit rfl (fs_Γ_rm (d := 1) (by decide)) (Nat.le_of_ble_eq_true rfl) rfl ?_
    refine (cK_lowestBit hf).ci ?_
    rw [if_neg h0, e1]
    refine fr_istore_n 5 [_, _, _] dX6_lookedAt_4 rfl (Nat.le_of_ble_eq_true rfl) rfl ?_
    refine fr_iload_n 6 dX6_lookedAt_5 rfl rfl ?_
    refine fr_if_ge 16 9 dX6_lookedAt_6 rfl rfl (by omega) (fun h6 => ?_) (fun h6 => ?_)
    · refine fr_iload_n 17 dX6_lookedAt_16 rfl rfl ?_
      refine fr_iconst 18 dX6_lookedAt_17 rfl ?_
      refine fr_iload_n 19 dX6_lookedAt_18 rfl rfl ?_
      refine fr_ishl 20 dX6_lookedAt_19 rfl ?_
      refine fr_top (fm_shl1 j (by omega)) ?_
      refine fr_iconst 21 dX6_lookedAt_20 rfl ?_
      refine fr_isub 22 dX6_lookedAt_21 rfl ?_
      refine fr_top (show ((2 ^ j : Nat) : Int) - 1 = ((2 ^ j - 1 : Nat) : Int) by omega) ?_
      refine fr_iand 23 dX6_lookedAt_22 rfl ?_
      refine fr_top (fm_and (by omega) (by omega)) ?_
      refine fr_callSi 26 (M2 := mJ6_bitCount_0f7a4) [_] dX6_lookedAt_23 rfl fs_mX6_229 fs_oJ6_bitCount_0f7a4 fs_sJ6_bitCount_0f7a4 rfl (fs_Γ_rm (d := 0) (by decide)) (Nat.le_of_ble_eq_true rfl) rfl ?_
      refine (cK_bitCount (Nat.lt_of_le_of_lt Nat.and_le_left hm)).ci ?_
      refine fr_iconst 27 dX6_lookedAt_26 rfl ?_
      refine fr_iadd 28 dX6_lookedAt_27 rfl ?_
      refine fr_iret dX6_lookedAt_28 rfl ?_
      refine ⟨congrArg some ?_, rfl⟩
      rw [pop_cut (by omega)]
      exact (lkF_at (m := m) e3 (h1 j e3) (tn t).toNat 0 (by omega) (by omega) e4).symm
    · omega
