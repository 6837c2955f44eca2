/-! ===== the model: small methods, order, masks ===== -/
set_option maxRecDepth 100000 in
set_option maxHeartbeats 4000000 in
theorem cM_in {σ : fs_S} {v a b : Int} (hv : -2147483648 ≤ v ∧ v < 2147483648) (ha : -2147483648 ≤ a ∧ a < 2147483648) (hb : -2147483648 ≤ b ∧ b < 2147483648) : fs_C mX7_in 0 [.inl v, .inl a, .inl b] σ (fun r τ => r = some (if a ≤ v ∧ v ≤ b then 1 else 0) ∧ τ = σ) := by
  refine fs_C.intro [some (.inl v), some (.inl a), some (.inl b)] fs_oX7_in (Nat.le_of_ble_eq_true rfl) rfl ?_
  refine fr_iload_n 1 dX7_in_0 rfl rfl ?_
  refine fr_iload_n 2 dX7_in_1 rfl rfl ?_
  refine fr_icmp_lt 14 5 dX7_in_2 rfl rfl (by omega) (by omega) (fun h2 => ?_) (fun h2 => ?_)
  · refine fr_iconst 15 dX7_in_14 rfl ?_
    refine fr_zret dX7_in_15 rfl (by omega) ?_
    exact ⟨congrArg some (by split <;> omega), rfl⟩
  · refine fr_iload_n 6 dX7_in_5 rfl rfl ?_
    refine fr_iload_n 7 dX7_in_6 rfl rfl ?_
    refine fr_icmp_gt 14 10 dX7_in_7 rfl rfl (by omega) (by omega) (fun h7 => ?_) (fun h7 => ?_)
    · refine fr_iconst 15 dX7_in_14 rfl ?_
      refine fr_zret dX7_in_15 rfl (by omega) ?_
      exact ⟨congrArg some (by split <;> omega), rfl⟩
    · refine fr_iconst 11 dX7_in_10 rfl ?_
      refine fr_goto 15 dX7_in_11 rfl ?_
      refine fr_zret dX7_in_15 rfl (by omega) ?_
      exact ⟨congrArg some (by split <;> omega), rfl⟩
set_option maxRecDepth 100000 in
set_option maxHeartbeats 4000000 in
theorem cM_width {σ : fs_S} {f : Int} (hf : -2147483648 ≤ f ∧ f < 2147483648) : fs_C mX7_width 0 [.inl f] σ (fun r τ => r = some (wd f) ∧ τ = σ) := by
  refine fs_C.intro [some (.inl f)] fs_oX7_width (Nat.le_of_ble_eq_true rfl) rfl ?_
  refine fr_iload_n 1 dX7_width_0 rfl rfl ?_
  refine fr_iconst 2 dX7_width_1 rfl ?_
  refine fr_icmp_ne 9 5 dX7_width_2 rfl rfl (by omega) (by omega) (fun h2 => ?_) (fun h2 => ?_)
  · refine fr_bipush 11 dX7_width_9 rfl (by decide) ?_
    refine fr_iret dX7_width_11 rfl ?_
    exact ⟨congrArg some (by unfold wd; split <;> omega), rfl⟩
  · refine fr_iconst 6 dX7_width_5 rfl ?_
    refine fr_goto 11 dX7_width_6 rfl ?_
    refine fr_iret dX7_width_11 rfl ?_
    exact ⟨congrArg some (by unfold wd; split <;> omega), rfl⟩
theorem shl_wd (f : Int) : fi_shl 1 (wd f) = gr f + 1 := by
  unfold wd gr
  split <;> decide
set_option maxRecDepth 100000 in
set_option maxHeartbeats 4000000 in
theorem cM_most {σ : fs_S} {f : Int} (hf : -2147483648 ≤ f ∧ f < 2147483648) : fs_C mX7_most 1 [.inl f] σ (fun r τ => r = some (gr f) ∧ τ = σ) := by
  refine fs_C.intro [some (.inl f)] fs_oX7_most (Nat.le_of_ble_eq_true rfl) rfl ?_
  refine fr_iconst 1 dX7_most_0 rfl ?_
  refine fr_iload_n 2 dX7_most_1 rfl rfl ?_
  refine fr_callSi 5 (M2 := mX7_width) [_] dX7_most_2 rfl fs_mX7_96 fs_oX7_width fs_sX7_width rfl (fs_Γ_rm (d := 0) (by decide)) (Nat.le_of_ble_eq_true rfl) rfl ?_
  refine (cM_width hf).ci ?_
  refine fr_ishl 6 dX7_most_5 rfl ?_
  refine fr_iconst 7 dX7_most_6 rfl ?_
  refine fr_isub 8 dX7_most_7 rfl ?_
  refine fr_iret dX7_most_8 rfl ?_
  exact ⟨congrArg some (by rw [shl_wd]; omega), rfl⟩
set_option maxRecDepth 100000 in
set_option maxHeartbeats 4000000 in
theorem cM_isField {σ : fs_S} {f : Int} (hf : -2147483648 ≤ f ∧ f < 2147483648) : fs_C mX7_isField 1 [.inl f] σ (fun r τ => r = some (if 0 ≤ f ∧ f < 4 then 1 else 0) ∧ τ = σ) := by
  refine fs_C.intro [some (.inl f)] fs_oX7_isField (Nat.le_of_ble_eq_true rfl) rfl ?_
  refine fr_iload_n 1 dX7_isField_0 rfl rfl ?_
  refine fr_iconst 2 dX7_isField_1 rfl ?_
  refine fr_iconst 3 dX7_isField_2 rfl ?_
  refine fr_callSi 6 (M2 := mX7_in) [_, _, _] dX7_isField_3 rfl fs_mX7_100 fs_oX7_in fs_sX7_in rfl (fs_Γ_rm (d := 0) (by decide)) (Nat.le_of_ble_eq_true rfl) rfl ?_
  refine (cM_in hf (by omega) (by omega)).ci ?_
  refine fr_zret dX7_isField_6 rfl (by omega) ?_
  exact ⟨congrArg some (by split <;> split <;> omega), rfl⟩
set_option maxRecDepth 100000 in
set_option maxHeartbeats 4000000 in
theorem cM_isRule {σ : fs_S} {r n : Int} (hn : σ 0 0 = n) (h : 0 ≤ n ∧ n ≤ 16) (hr : -2147483648 ≤ r ∧ r < 2147483648) : fs_C mX7_isRule 1 [.inr 0, .inl r] σ (fun x τ => x = some (if 0 ≤ r ∧ r < n then 1 else 0) ∧ τ = σ) := by
  refine fs_C.intro [some (.inr 0), some (.inl r)] fs_oX7_isRule (Nat.le_of_ble_eq_true rfl) rfl ?_
  refine fr_iload_n 1 dX7_isRule_0 rfl rfl ?_
  refine fr_iconst 2 dX7_isRule_1 rfl ?_
  refine fr_aload_n 3 dX7_isRule_2 rfl rfl ?_
  refine fr_geti 6 0 dX7_isRule_3 rfl fs_kX7_104 rfl fs_l0 rfl ?_
  refine fr_iconst 7 dX7_isRule_6 rfl ?_
  refine fr_isub 8 dX7_isRule_7 rfl ?_
  refine fr_callSi 11 (M2 := mX7_in) [_, _, _] dX7_isRule_8 rfl fs_mX7_100 fs_oX7_in fs_sX7_in rfl (fs_Γ_rm (d := 0) (by decide)) (Nat.le_of_ble_eq_true rfl) rfl ?_
  refine (cM_in hr (by omega) (by omega)).ci ?_
  refine fr_zret dX7_isRule_11 rfl (by omega) ?_
  exact ⟨congrArg some (by split <;> split <;> omega), rfl⟩
set_option maxRecDepth 100000 in
set_option maxHeartbeats 4000000 in
theorem cM_isPacket {σ : fs_S} {a b c d : Int} (ha : -2147483648 ≤ a ∧ a < 2147483648) (hb : -2147483648 ≤ b ∧ b < 2147483648) (hc : -2147483648 ≤ c ∧ c < 2147483648) (hd : -2147483648 ≤ d ∧ d < 2147483648) : fs_C mX7_isPacket 1 [.inl a, .inl b, .inl c, .inl d] σ (fun x τ => x = some (if (0 ≤ a ∧ a ≤ 63) ∧ (0 ≤ b ∧ b ≤ 63) ∧ (0 ≤ c ∧ c ≤ 63) ∧ 0 ≤ d ∧ d ≤ 3 then 1 else 0) ∧ τ = σ) := by
  refine fs_C.intro [some (.inl a), some (.inl b), some (.inl c), some (.inl d)] fs_oX7_isPacket (Nat.le_of_ble_eq_true rfl) rfl ?_
  refine fr_iload_n 1 dX7_isPacket_0 rfl rfl ?_
  refine fr_iconst 2 dX7_isPacket_1 rfl ?_
  refine fr_bipush 4 dX7_isPacket_2 rfl (by decide) ?_
  refine fr_callSi 7 (M2 := mX7_in) [_, _, _] dX7_isPacket_4 rfl fs_mX7_100 fs_oX7_in fs_sX7_in rfl (fs_Γ_rm (d := 0) (by decide)) (Nat.le_of_ble_eq_true rfl) rfl ?_
  refine (cM_in (by omega) (by omega) (by omega)).ci ?_
  refine fr_if_eq 43 10 dX7_isPacket_7 rfl rfl (by omega) (fun h7 => ?_) (fun h7 => ?_)
  · refine fr_iconst 44 dX7_isPacket_43 rfl ?_
    refine fr_zret dX7_isPacket_44 rfl (by omega) ?_
    exact ⟨congrArg some (by split <;> omega), rfl⟩
  · refine fr_iload_n 11 dX7_isPacket_10 rfl rfl ?_
    refine fr_iconst 12 dX7_isPacket_11 rfl ?_
    refine fr_bipush 14 dX7_isPacket_12 rfl (by decide) ?_
    refine fr_callSi 17 (M2 := mX7_in) [_, _, _] dX7_isPacket_14 rfl fs_mX7_100 fs_oX7_in fs_sX7_in rfl (fs_Γ_rm (d := 0) (by decide)) (Nat.le_of_ble_eq_true rfl) rfl ?_
    refine (cM_in (by omega) (by omega) (by omega)).ci ?_
    refine fr_if_eq 43 20 dX7_isPacket_17 rfl rfl (by omega) (fun h17 => ?_) (fun h17 => ?_)
    · refine fr_iconst 44 dX7_isPacket_43 rfl ?_
      refine fr_zret dX7_isPacket_44 rfl (by omega) ?_
      exact ⟨congrArg some (by split <;> omega), rfl⟩
    · refine fr_iload_n 21 dX7_isPacket_20 rfl rfl ?_
      refine fr_iconst 22 dX7_isPacket_21 rfl ?_
      refine fr_bipush 24 dX7_isPacket_22 rfl (by decide) ?_
      refine fr_callSi 27 (M2 := mX7_in) [_, _, _] dX7_isPacket_24 rfl fs_mX7_100 fs_oX7_in fs_sX7_in rfl (fs_Γ_rm (d := 0) (by decide)) (Nat.le_of_ble_eq_true rfl) rfl ?_
      refine (cM_in (by omega) (by omega) (by omega)).ci ?_
      refine fr_if_eq 43 30 dX7_isPacket_27 rfl rfl (by omega) (fun h27 => ?_) (fun h27 => ?_)
      · refine fr_iconst 44 dX7_isPacket_43 rfl ?_
        refine fr_zret dX7_isPacket_44 rfl (by omega) ?_
        exact ⟨congrArg some (by split <;> omega), rfl⟩
      · refine fr_iload_n 31 dX7_isPacket_30 rfl rfl ?_
        refine fr_iconst 32 dX7_isPacket_31 rfl ?_
        refine fr_iconst 33 dX7_isPacket_32 rfl ?_
        refine fr_callSi 36 (M2 := mX7_in) [_, _, _] dX7_isPacket_33 rfl fs_mX7_100 fs_oX7_in fs_sX7_in rfl (fs_Γ_rm (d := 0) (by decide)) (Nat.le_of_ble_eq_true rfl) rfl ?_
        refine (cM_in (by omega) (by omega) (by omega)).ci ?_
        refine fr_if_eq 43 39 dX7_isPacket_36 rfl rfl (by omega) (fun h36 => ?_) (fun h36 => ?_)
        · refine fr_iconst 44 dX7_isPacket_43 rfl ?_
          refine fr_zret dX7_isPacket_44 rfl (by omega) ?_
          exact ⟨congrArg some (by split <;> omega), rfl⟩
        · refine fr_iconst 40 dX7_isPacket_39 rfl ?_
          refine fr_goto 44 dX7_isPacket_40 rfl ?_
          refine fr_zret dX7_isPacket_44 rfl (by omega) ?_
          exact ⟨congrArg some (by split <;> omega), rfl⟩
set_option maxRecDepth 100000 in
set_option maxHeartbeats 4000000 in
theorem cM_has {σ : fs_S} {m i : Nat} (hm : m < 65536) (hi : i < 32) : fs_C mX7_has 0 [.inl (m : Int), .inl (i : Int)] σ (fun x τ => x = some (if m.testBit i then 1 else 0) ∧ τ = σ) := by
  refine fs_C.intro [some (.inl (m : Int)), some (.inl (i : Int))] fs_oX7_has (Nat.le_of_ble_eq_true rfl) rfl ?_
  refine fr_iload_n 1 dX7_has_0 rfl rfl ?_
  refine fr_iload_n 2 dX7_has_1 rfl rfl ?_
  refine fr_ishr 3 dX7_has_2 rfl ?_
  refine fr_iconst 4 dX7_has_3 rfl ?_
  refine fr_iand 5 dX7_has_4 rfl ?_
  refine fr_top (fm_bit (by omega) hi) ?_
  refine fr_iconst 6 dX7_has_5 rfl ?_
  refine fr_icmp_ne 13 9 dX7_has_6 rfl rfl (by split <;> decide) (by decide) (fun h6 => ?_) (fun h6 => ?_)
  · refine fr_iconst 14 dX7_has_13 rfl ?_
    refine fr_zret dX7_has_14 rfl (by omega) ?_
    exact ⟨congrArg some (by split at h6 <;> simp_all), rfl⟩
  · refine fr_iconst 10 dX7_has_9 rfl ?_
    refine fr_goto 14 dX7_has_10 rfl ?_
    refine fr_zret dX7_has_14 rfl (by omega) ?_
    exact ⟨congrArg some (by split at h6 <;> simp_all), rfl⟩
set_option maxRecDepth 100000 in
set_option maxHeartbeats 4000000 in
theorem cM_lowest {σ : fs_S} {m : Nat} (hm : m < 65536) : fs_C mX7_lowest 1 [.inl (m : Int)] σ (fun x τ => x = some (lowb m) ∧ τ = σ) := by
  refine fs_C.intro [some (.inl (m : Int)), none] fs_oX7_lowest (Nat.le_of_ble_eq_true rfl) rfl ?_
  have key : ∀ (j i : Nat), i + j = 16 → lowg m j i = lowg m 16 0 → fs_W (fs_Γ 1 (fun x τ => x = some (lowb m) ∧ τ = σ)) mX7_lowest 2 [some (.inl (m : Int)), some (.inl (i : Int))] [] σ := by
    intro j
    induction j with
    | zero =>
      intro i hi hl
      refine fr_iload_n 3 dX7_lowest_2 rfl rfl ?_
      refine fr_bipush 5 dX7_lowest_3 rfl (by decide) ?_
      refine fr_icmp_ge 22 8 dX7_lowest_5 rfl rfl (by omega) (by omega) (fun h5 => ?_) (fun h5 => ?_)
      · refine fr_iload_n 23 dX7_lowest_22 rfl rfl ?_
        refine fr_iret dX7_lowest_23 rfl ?_
        exact ⟨congrArg some (by unfold lowb; rw [← hl]; rfl), rfl⟩
      · exact absurd h5 (by omega)
    | succ j ih =>
      intro i hi hl
      refine fr_iload_n 3 dX7_lowest_2 rfl rfl ?_
      refine fr_bipush 5 dX7_lowest_3 rfl (by decide) ?_
      refine fr_icmp_ge 22 8 dX7_lowest_5 rfl rfl (by omega) (by omega) (fun h5 => ?_) (fun h5 => ?_)
      · exact absurd h5 (by omega)
      · refine fr_iload_n 9 dX7_lowest_8 rfl rfl ?_
        refine fr_iload_n 10 dX7_lowest_9 rfl rfl ?_
        refine fr_callSi 13 (M2 := mX7_has) [_, _] dX7_lowest_10 rfl fs_mX7_107 fs_oX7_has fs_sX7_has rfl (fs_Γ_rm (d := 0) (by decide)) (Nat.le_of_ble_eq_true rfl) rfl ?_
        refine (cM_has hm (by omega)).ci ?_
        refine fr_if_ne 22 16 dX7_lowest_13 rfl rfl (by split <;> decide) (fun h13 => ?_) (fun h13 => ?_)
        · refine fr_iload_n 23 dX7_lowest_22 rfl rfl ?_
          refine fr_iret dX7_lowest_23 rfl ?_
          exact ⟨congrArg some (by unfold lowb; rw [← hl, lowg]; split at h13 <;> simp_all), rfl⟩
        · refine fr_iinc 19 [_, _] dX7_lowest_16 rfl rfl rfl ?_
          refine fr_goto 2 dX7_lowest_19 rfl ?_
          exact ih (i + 1) (by omega) (by rw [← hl]; rw [lowg]; split at h13 <;> simp_all)
  refine fr_iconst 1 dX7_lowest_0 rfl ?_
  refine fr_istore_n 2 [_, _] dX7_lowest_1 rfl (Nat.le_of_ble_eq_true rfl) rfl ?_
  exact key 16 0 rfl rfl
set_option maxRecDepth 100000 in
set_option maxHeartbeats 4000000 in
theorem cM_bits {σ : fs_S} {m : Nat} (hm : m < 65536) : fs_C mX7_bits 0 [.inl (m : Int)] σ (fun x τ => x = some (pop m) ∧ τ = σ) := by
  refine fs_C.intro [some (.inl (m : Int)), none, none] fs_oX7_bits (Nat.le_of_ble_eq_true rfl) rfl ?_
  have key : ∀ (j i : Nat), i + j = 16 → fs_W (fs_Γ 0 (fun x τ => x = some (pop m) ∧ τ = σ)) mX7_bits 4 [some (.inl (m : Int)), some (.inl (smI (fun i => if m.testBit i.toNat then 1 else 0) (i : Int))), some (.inl (i : Int))] [] σ := by
    intro j
    induction j with
    | zero =>
      intro i hi
      refine fr_iload_n 5 dX7_bits_4 rfl rfl ?_
      refine fr_bipush 7 dX7_bits_5 rfl (by decide) ?_
      refine fr_icmp_ge 24 10 dX7_bits_7 rfl rfl (by omega) (by omega) (fun h7 => ?_) (fun h7 => ?_)
      · refine fr_iload_n 25 dX7_bits_24 rfl rfl ?_
        refine fr_iret dX7_bits_25 rfl ?_
        exact ⟨congrArg some (by rw [show i = 16 by omega]; rfl), rfl⟩
      · exact absurd h7 (by omega)
    | succ j ih =>
      intro i hi
      refine fr_iload_n 5 dX7_bits_4 rfl rfl ?_
      refine fr_bipush 7 dX7_bits_5 rfl (by decide) ?_
      refine fr_icmp_ge 24 10 dX7_bits_7 rfl rfl (by omega) (by omega) (fun h7 => ?_) (fun h7 => ?_)
      · exact absurd h7 (by omega)
      · refine fr_iload_n 11 dX7_bits_10 rfl rfl ?_
        refine fr_iload_n 12 dX7_bits_11 rfl rfl ?_
        refine fr_iload_n 13 dX7_bits_12 rfl rfl ?_
        refine fr_ishr 14 dX7_bits_13 rfl ?_
        refine fr_iconst 15 dX7_bits_14 rfl ?_
        refine fr_iand 16 dX7_bits_15 rfl ?_
        refine fr_top (fm_bit (by omega) (by omega)) ?_
        refine fr_iadd 17 dX7_bits_16 rfl ?_
        refine fr_top (y := smI (fun i => if m.testBit i.toNat then 1 else 0) ((i + 1 : Nat) : Int)) (by rw [show ((i + 1 : Nat) : Int) = (i : Int) + 1 by omega, smI_s _ (by omega)]; rfl) ?_
        refine fr_istore_n 18 [_, _, _] dX7_bits_17 rfl (Nat.le_of_ble_eq_true rfl) rfl ?_
        refine fr_iinc 21 [_, _, _] dX7_bits_18 rfl rfl rfl ?_
        refine fr_goto 4 dX7_bits_21 rfl ?_
        exact ih (i + 1) (by omega)
  refine fr_iconst 1 dX7_bits_0 rfl ?_
  refine fr_istore_n 2 [_, _, _] dX7_bits_1 rfl (Nat.le_of_ble_eq_true rfl) rfl ?_
  refine fr_iconst 3 dX7_bits_2 rfl ?_
  refine fr_istore_n 4 [_, _, _] dX7_bits_3 rfl (Nat.le_of_ble_eq_true rfl) rfl ?_
  exact key 16 0 rfl
set_option maxRecDepth 100000 in
set_option maxHeartbeats 4000000 in
theorem cM_change {σ : fs_S} : fs_C mX7_change 0 [.inr 0] σ (fun x τ => x = none ∧ (∀ i, 7 ≤ i → i ≤ 10 → τ 0 i = 0) ∧ (∀ k i, ¬ (k = 0 ∧ 7 ≤ i ∧ i ≤ 10) → τ k i = σ k i)) := by
  refine fs_C.intro [some (.inr 0)] fs_oX7_change (Nat.le_of_ble_eq_true rfl) rfl ?_
  refine fr_aload_n 1 dX7_change_0 rfl rfl ?_
  refine fr_iconst 2 dX7_change_1 rfl ?_
  refine fr_putz 5 7 dX7_change_2 rfl fs_kX7_111 fs_pX7_7 rfl fs_l0 rfl (by omega) ?_
  refine fr_aload_n 6 dX7_change_5 rfl rfl ?_
  refine fr_iconst 7 dX7_change_6 rfl ?_
  refine fr_putz 10 8 dX7_change_7 rfl fs_kX7_115 fs_pX7_8 rfl fs_l0 rfl (by omega) ?_
  refine fr_aload_n 11 dX7_change_10 rfl rfl ?_
  refine fr_iconst 12 dX7_change_11 rfl ?_
  refine fr_putz 15 9 dX7_change_12 rfl fs_kX7_118 fs_pX7_9 rfl fs_l0 rfl (by omega) ?_
  refine fr_aload_n 16 dX7_change_15 rfl rfl ?_
  refine fr_iconst 17 dX7_change_16 rfl ?_
  refine fr_putz 20 10 dX7_change_17 rfl fs_kX7_121 fs_pX7_10 rfl fs_l0 rfl (by omega) ?_
  refine fr_vret dX7_change_20 rfl ?_
  refine ⟨rfl, fun i a b => ?_, fun k i h => ?_⟩
  · unfold fs_u; (repeat' split) <;> omega
  · unfold fs_u; (repeat' split) <;> omega
set_option maxRecDepth 100000 in
set_option maxHeartbeats 4000000 in
theorem cM_clearDraft {σ : fs_S} : fs_C mX7_clearDraft 2 [.inr 0] σ (fun x τ => x = none ∧ (∀ f, 0 ≤ f → f < 4 → τ 1 (64 + f) = 0 ∧ τ 2 (64 + f) = gr f) ∧ (∀ k i, ¬ ((k = 1 ∨ k = 2) ∧ 64 ≤ i ∧ i < 68) → τ k i = σ k i)) := by
  refine fs_C.intro [some (.inr 0), none] fs_oX7_clearDraft (Nat.le_of_ble_eq_true rfl) rfl ?_
  have key : ∀ (m : Nat) (k : Int) (τ : fs_S), 0 ≤ k → k ≤ 4 → 4 - k < m → (∀ f, 0 ≤ f → f < k → τ 1 (64 + f) = 0 ∧ τ 2 (64 + f) = gr f) → (∀ k i, ¬ ((k = 1 ∨ k = 2) ∧ 64 ≤ i ∧ i < 68) → τ k i = σ k i) → fs_W (fs_Γ 2 (fun x τ => x = none ∧ (∀ f, 0 ≤ f → f < 4 → τ 1 (64 + f) = 0 ∧ τ 2 (64 + f) = gr f) ∧ (∀ k i, ¬ ((k = 1 ∨ k = 2) ∧ 64 ≤ i ∧ i < 68) → τ k i = σ k i))) mX7_clearDraft 2 [some (.inr 0), some (.inl k)] [] τ := by
    intro m
    induction m with
    | zero => intro k τ h0 h1 h2; omega
    | succ m ih =>
      intro k τ h0 h1 h2 hA hF
      refine fr_iload_n 3 dX7_clearDraft_2 rfl rfl ?_
      refine fr_iconst 4 dX7_clearDraft_3 rfl ?_
      refine fr_icmp_ge 36 7 dX7_clearDraft_4 rfl rfl (by omega) (by omega) (fun h4 => ?_) (fun h4 => ?_)
      · refine fr_vret dX7_clearDraft_36 rfl ?_
        exact ⟨rfl, fun f a b => hA f a (by omega), hF⟩
      · refine fr_aload_n 8 dX7_clearDraft_7 rfl rfl ?_
        refine fr_getr 11 1 dX7_clearDraft_8 rfl fs_kX7_7 fs_l0 rfl ?_
        refine fr_bipush 13 dX7_clearDraft_11 rfl (by decide) ?_
        refine fr_iload_n 14 dX7_clearDraft_13 rfl rfl ?_
        refine fr_iadd 15 dX7_clearDraft_14 rfl ?_
        refine fr_iconst 16 dX7_clearDraft_15 rfl ?_
        refine fr_iast 17 dX7_clearDraft_16 rfl fs_l1 (by omega) ?_
        refine fr_aload_n 18 dX7_clearDraft_17 rfl rfl ?_
        refine fr_getr 21 2 dX7_clearDraft_18 rfl fs_kX7_13 fs_l0 rfl ?_
        refine fr_bipush 23 dX7_clearDraft_21 rfl (by decide) ?_
        refine fr_iload_n 24 dX7_clearDraft_23 rfl rfl ?_
        refine fr_iadd 25 dX7_clearDraft_24 rfl ?_
        refine fr_iload_n 26 dX7_clearDraft_25 rfl rfl ?_
        refine fr_callSi 29 (M2 := mX7_most) [_] dX7_clearDraft_26 rfl fs_mX7_124 fs_oX7_most fs_sX7_most rfl (fs_Γ_rm (d := 1) (by decide)) (Nat.le_of_ble_eq_true rfl) rfl ?_
        refine (cM_most (by omega)).ci ?_
        refine fr_iast 30 dX7_clearDraft_29 rfl fs_l2 (by omega) ?_
        refine fr_iinc 33 [_, _] dX7_clearDraft_30 rfl rfl rfl ?_
        refine fr_goto 2 dX7_clearDraft_33 rfl ?_
        refine ih (k + 1) _ (by omega) (by omega) (by omega) (fun f a b => ?_) (fun k2 i h => ?_)
        · by_cases e : f = k
          · subst e; exact ⟨by unfold fs_u; (repeat' split) <;> omega, by unfold fs_u; (repeat' split) <;> omega⟩
          · have := hA f a (by omega); exact ⟨by unfold fs_u; (repeat' split) <;> omega, by unfold fs_u; (repeat' split) <;> omega⟩
        · have := hF k2 i h; unfold fs_u; (repeat' split) <;> omega
  refine fr_iconst 1 dX7_clearDraft_0 rfl ?_
  refine fr_istore_n 2 [_, _] dX7_clearDraft_1 rfl (Nat.le_of_ble_eq_true rfl) rfl ?_
  exact key 5 0 σ (by omega) (by omega) (by omega) (fun f a b => by omega) (fun _ _ _ => rfl)
set_option maxRecDepth 100000 in
set_option maxHeartbeats 4000000 in
theorem cM_isAhead {σ : fs_S} {t : rt} {q r : Int} (hw : twf t) (hR : RM σ t) (h0 : 0 ≤ q) (h1 : q < tn t) (g0 : 0 ≤ r) (g1 : r < tn t) : fs_C mX7_isAhead 0 [.inr 0, .inl q, .inl r] σ (fun x τ => x = some (if tah t q r then 1 else 0) ∧ τ = σ) := by
  refine fs_C.intro [some (.inr 0), some (.inl q), some (.inl r)] fs_oX7_isAhead (Nat.le_of_ble_eq_true rfl) rfl ?_
  have hn := hw.1
  have eq := (hR.2.2 q h0 h1).1
  have er := (hR.2.2 r g0 g1).1
  have rq := (hw.2.2 q h0 h1).1
  have rr := (hw.2.2 r g0 g1).1
  refine fr_aload_n 1 dX7_isAhead_0 rfl rfl ?_
  refine fr_getr 4 3 dX7_isAhead_1 rfl fs_kX7_16 fs_l0 rfl ?_
  refine fr_iload_n 5 dX7_isAhead_4 rfl rfl ?_
  refine fr_iald 6 dX7_isAhead_5 rfl fs_l3 (by omega) ?_
  refine fr_aload_n 7 dX7_isAhead_6 rfl rfl ?_
  refine fr_getr 10 3 dX7_isAhead_7 rfl fs_kX7_16 fs_l0 rfl ?_
  refine fr_iload_n 11 dX7_isAhead_10 rfl rfl ?_
  refine fr_iald 12 dX7_isAhead_11 rfl fs_l3 (by omega) ?_
  refine fr_icmp_lt 35 15 dX7_isAhead_12 rfl rfl (by omega) (by omega) (fun h12 => ?_) (fun h12 => ?_)
  · refine fr_iconst 36 dX7_isAhead_35 rfl ?_
    refine fr_goto 40 dX7_isAhead_36 rfl ?_
    refine fr_zret dX7_isAhead_40 rfl (by omega) ?_
    exact ⟨congrArg some (by simp only [tah, decide_eq_true_eq]; split <;> omega), rfl⟩
  · refine fr_aload_n 16 dX7_isAhead_15 rfl rfl ?_
    refine fr_getr 19 3 dX7_isAhead_16 rfl fs_kX7_16 fs_l0 rfl ?_
    refine fr_iload_n 20 dX7_isAhead_19 rfl rfl ?_
    refine fr_iald 21 dX7_isAhead_20 rfl fs_l3 (by omega) ?_
    refine fr_aload_n 22 dX7_isAhead_21 rfl rfl ?_
    refine fr_getr 25 3 dX7_isAhead_22 rfl fs_kX7_16 fs_l0 rfl ?_
    refine fr_iload_n 26 dX7_isAhead_25 rfl rfl ?_
    refine fr_iald 27 dX7_isAhead_26 rfl fs_l3 (by omega) ?_
    refine fr_icmp_ne 39 30 dX7_isAhead_27 rfl rfl (by omega) (by omega) (fun h27 => ?_) (fun h27 => ?_)
    · refine fr_iconst 40 dX7_isAhead_39 rfl ?_
      refine fr_zret dX7_isAhead_40 rfl (by omega) ?_
      exact ⟨congrArg some (by simp only [tah, decide_eq_true_eq]; split <;> omega), rfl⟩
    · refine fr_iload_n 31 dX7_isAhead_30 rfl rfl ?_
      refine fr_iload_n 32 dX7_isAhead_31 rfl rfl ?_
      refine fr_icmp_ge 39 35 dX7_isAhead_32 rfl rfl (by omega) (by omega) (fun h32 => ?_) (fun h32 => ?_)
      · refine fr_iconst 40 dX7_isAhead_39 rfl ?_
        refine fr_zret dX7_isAhead_40 rfl (by omega) ?_
        exact ⟨congrArg some (by simp only [tah, decide_eq_true_eq]; split <;> omega), rfl⟩
      · refine fr_iconst 36 dX7_isAhead_35 rfl ?_
        refine fr_goto 40 dX7_isAhead_36 rfl ?_
        refine fr_zret dX7_isAhead_40 rfl (by omega) ?_
        exact ⟨congrArg some (by simp only [tah, decide_eq_true_eq]; split <;> omega), rfl⟩
set_option maxRecDepth 100000 in
set_option maxHeartbeats 4000000 in
theorem cM_aheadOf {σ : fs_S} {t : rt} {r : Int} (hw : twf t) (hR : RM σ t) (g0 : 0 ≤ r) (g1 : r < tn t) : fs_C mX7_aheadOf 1 [.inr 0, .inl r] σ (fun x τ => x = some (tpl t r) ∧ τ = σ) := by
  refine fs_C.intro [some (.inr 0), some (.inl r), none, none] fs_oX7_aheadOf (Nat.le_of_ble_eq_true rfl) rfl ?_
  have hn := hw.1
  have hm := hR.1
  have key : ∀ (m : Nat) (k : Int), 0 ≤ k → k ≤ tn t → tn t - k < m → fs_W (fs_Γ 1 (fun x τ => x = some (tpl t r) ∧ τ = σ)) mX7_aheadOf 4 [some (.inr 0), some (.inl r), some (.inl (smI (fun q => if tah t q r then 1 else 0) k)), some (.inl k)] [] σ := by
    intro m
    induction m with
    | zero => intro k h0 h1 h2; omega
    | succ m ih =>
      intro k h0 h1 h2
      refine fr_iload_n 5 dX7_aheadOf_4 rfl rfl ?_
      refine fr_aload_n 6 dX7_aheadOf_5 rfl rfl ?_
      refine fr_geti 9 0 dX7_aheadOf_6 rfl fs_kX7_104 rfl fs_l0 rfl ?_
      refine fr_icmp_ge 35 12 dX7_aheadOf_9 rfl rfl (by omega) (by omega) (fun h9 => ?_) (fun h9 => ?_)
      · refine fr_iload_n 36 dX7_aheadOf_35 rfl rfl ?_
        refine fr_iret dX7_aheadOf_36 rfl ?_
        exact ⟨congrArg some (by rw [show k = tn t by omega]; rfl), rfl⟩
      · refine fr_iload_n 13 dX7_aheadOf_12 rfl rfl ?_
        refine fr_aload_n 14 dX7_aheadOf_13 rfl rfl ?_
        refine fr_iload_n 15 dX7_aheadOf_14 rfl rfl ?_
        refine fr_iload_n 16 dX7_aheadOf_15 rfl rfl ?_
        refine fr_callVi 19 (M2 := mX7_isAhead) [_, _] dX7_aheadOf_16 rfl fs_mX7_137 fs_oX7_isAhead fs_iX7_isAhead fs_l0 rfl rfl (fs_Γ_rm (d := 0) (by decide)) (Nat.le_of_ble_eq_true rfl) rfl ?_
        refine (cM_isAhead hw hR h0 (by omega) g0 g1).ci ?_
        refine fr_if_eq 26 22 dX7_aheadOf_19 rfl rfl (by omega) (fun h19 => ?_) (fun h19 => ?_)
        · refine fr_iconst 27 dX7_aheadOf_26 rfl ?_
          refine fr_iadd 28 dX7_aheadOf_27 rfl ?_
          refine fr_top (y := smI (fun q => if tah t q r then 1 else 0) (k + 1)) (by rw [smI_s _ h0]; split at h19 <;> simp_all) ?_
          refine fr_istore_n 29 [_, _, _, _] dX7_aheadOf_28 rfl (Nat.le_of_ble_eq_true rfl) rfl ?_
          refine fr_iinc 32 [_, _, _, _] dX7_aheadOf_29 rfl rfl rfl ?_
          refine fr_goto 4 dX7_aheadOf_32 rfl ?_
          exact ih (k + 1) (by omega) (by omega) (by omega)
        · refine fr_iconst 23 dX7_aheadOf_22 rfl ?_
          refine fr_goto 27 dX7_aheadOf_23 rfl ?_
          refine fr_iadd 28 dX7_aheadOf_27 rfl ?_
          refine fr_top (y := smI (fun q => if tah t q r then 1 else 0) (k + 1)) (by rw [smI_s _ h0]; split at h19 <;> simp_all) ?_
          refine fr_istore_n 29 [_, _, _, _] dX7_aheadOf_28 rfl (Nat.le_of_ble_eq_true rfl) rfl ?_
          refine fr_iinc 32 [_, _, _, _] dX7_aheadOf_29 rfl rfl rfl ?_
          refine fr_goto 4 dX7_aheadOf_32 rfl ?_
          exact ih (k + 1) (by omega) (by omega) (by omega)
  refine fr_iconst 1 dX7_aheadOf_0 rfl ?_
  refine fr_istore_n 2 [_, _, _, _] dX7_aheadOf_1 rfl (Nat.le_of_ble_eq_true rfl) rfl ?_
  refine fr_iconst 3 dX7_aheadOf_2 rfl ?_
  refine fr_istore_n 4 [_, _, _, _] dX7_aheadOf_3 rfl (Nat.le_of_ble_eq_true rfl) rfl ?_
  exact key ((tn t).toNat + 1) 0 (by omega) (by omega) (by omega)
set_option maxRecDepth 100000 in
set_option maxHeartbeats 4000000 in
theorem cM_takersOf {σ : fs_S} {t : rt} {f a b : Int} (hw : twf t) (hR : RM σ t) (hO : ∀ p, 0 ≤ p → p < tn t → σ 5 p = tod t p) (hf : 0 ≤ f ∧ f < 4) (ha : -2147483648 ≤ a ∧ a < 2147483648) (hb : -2147483648 ≤ b ∧ b < 2147483648) : fs_C mX7_takersOf 0 [.inr 0, .inl f, .inl a, .inl b] σ (fun r τ => r = some ((tkm t f a b : Nat) : Int) ∧ τ = σ) := by
  refine fs_C.intro [some (.inr 0), some (.inl f), some (.inl a), some (.inl b), none, none, none] fs_oX7_takersOf (Nat.le_of_ble_eq_true rfl) rfl ?_
  have hn := hw.1
  have hm := hR.1
  have key : ∀ (m : Nat) (k : Int) (x6 : Option fs_V), 0 ≤ k → k ≤ tn t → tn t - k < m → fs_W (fs_Γ 0 (fun r τ => r = some ((tkm t f a b : Nat) : Int) ∧ τ = σ)) mX7_takersOf 6 [some (.inr 0), some (.inl f), some (.inl a), some (.inl b), some (.inl ((bm (tkP t f a b) k.toNat : Nat) : Int)), some (.inl k), x6] [] σ := by
    intro m
    induction m with
    | zero => intro k x6 h0 h1 h2; omega
    | succ m ih =>
      intro k x6 h0 h1 h2
      refine fr_iload 8 dX7_takersOf_6 rfl rfl ?_
      refine fr_aload_n 9 dX7_takersOf_8 rfl rfl ?_
      refine fr_geti 12 0 dX7_takersOf_9 rfl fs_kX7_104 rfl fs_l0 rfl ?_
      refine fr_icmp_ge 69 15 dX7_takersOf_12 rfl rfl (by omega) (by omega) (fun h12 => ?_) (fun h12 => ?_)
      · refine fr_iload 71 dX7_takersOf_69 rfl rfl ?_
        refine fr_iret dX7_takersOf_71 rfl ?_
        exact ⟨by rw [show k = tn t by omega]; rfl, rfl⟩
      · have hod := tod_r (t := t) h0 (by omega)
        have hlo := hw.2.1 (tod t k) f hod.1 hod.2.1 hf.1 hf.2
        have hg := gr_r f
        refine fr_iconst 16 dX7_takersOf_15 rfl ?_
        refine fr_aload_n 17 dX7_takersOf_16 rfl rfl ?_
        refine fr_getr 20 5 dX7_takersOf_17 rfl fs_kX7_29 fs_l0 rfl ?_
        refine fr_iload 22 dX7_takersOf_20 rfl rfl ?_
        refine fr_iald 23 dX7_takersOf_22 rfl fs_l5 (by omega) ?_
        refine fr_top (hO k h0 (by omega)) ?_
        refine fr_imul 24 dX7_takersOf_23 rfl ?_
        refine fr_iload_n 25 dX7_takersOf_24 rfl rfl ?_
        refine fr_iadd 26 dX7_takersOf_25 rfl ?_
        refine fr_istore 28 [_, _, _, _, _, _, _] dX7_takersOf_26 rfl (Nat.le_of_ble_eq_true rfl) rfl ?_
        refine fr_iload 30 dX7_takersOf_28 rfl rfl ?_
        refine fr_aload_n 31 dX7_takersOf_30 rfl rfl ?_
        refine fr_getr 34 1 dX7_takersOf_31 rfl fs_kX7_7 fs_l0 rfl ?_
        refine fr_iload 36 dX7_takersOf_34 rfl rfl ?_
        refine fr_iald 37 dX7_takersOf_36 rfl fs_l1 (by omega) ?_
        refine fr_top (hR.2.1 _ f hod.1 hod.2.1 hf.1 hf.2).1 ?_
        refine fr_iload_n 38 dX7_takersOf_37 rfl rfl ?_
        refine fr_icmp_gt 59 41 dX7_takersOf_38 rfl rfl (by omega) (by omega) (fun h38 => ?_) (fun h38 => ?_)
        · refine fr_iconst 60 dX7_takersOf_59 rfl ?_
          refine fr_ior 61 dX7_takersOf_60 rfl ?_
          refine fr_top (y := ((bm (tkP t f a b) (k + 1).toNat : Nat) : Int)) (by first | exact bmI_t h0 (by omega) (decide_eq_true (by omega)) | exact bmI_f h0 (by omega) (decide_eq_false (by omega))) ?_
          refine fr_istore 63 [_, _, _, _, _, _, _] dX7_takersOf_61 rfl (Nat.le_of_ble_eq_true rfl) rfl ?_
          refine fr_iinc 66 [_, _, _, _, _, _, _] dX7_takersOf_63 rfl rfl rfl ?_
          refine fr_goto 6 dX7_takersOf_66 rfl ?_
          exact ih (k + 1) _ (by omega) (by omega) (by omega)
        · refine fr_aload_n 42 dX7_takersOf_41 rfl rfl ?_
          refine fr_getr 45 2 dX7_takersOf_42 rfl fs_kX7_13 fs_l0 rfl ?_
          refine fr_iload 47 dX7_takersOf_45 rfl rfl ?_
          refine fr_iald 48 dX7_takersOf_47 rfl fs_l2 (by omega) ?_
          refine fr_top (hR.2.1 _ f hod.1 hod.2.1 hf.1 hf.2).2 ?_
          refine fr_iload_n 49 dX7_takersOf_48 rfl rfl ?_
          refine fr_icmp_lt 59 52 dX7_takersOf_49 rfl rfl (by omega) (by omega) (fun h49 => ?_) (fun h49 => ?_)
          · refine fr_iconst 60 dX7_takersOf_59 rfl ?_
            refine fr_ior 61 dX7_takersOf_60 rfl ?_
            refine fr_top (y := ((bm (tkP t f a b) (k + 1).toNat : Nat) : Int)) (by first | exact bmI_t h0 (by omega) (decide_eq_true (by omega)) | exact bmI_f h0 (by omega) (decide_eq_false (by omega))) ?_
            refine fr_istore 63 [_, _, _, _, _, _, _] dX7_takersOf_61 rfl (Nat.le_of_ble_eq_true rfl) rfl ?_
            refine fr_iinc 66 [_, _, _, _, _, _, _] dX7_takersOf_63 rfl rfl rfl ?_
            refine fr_goto 6 dX7_takersOf_66 rfl ?_
            exact ih (k + 1) _ (by omega) (by omega) (by omega)
          · refine fr_iconst 53 dX7_takersOf_52 rfl ?_
            refine fr_iload 55 dX7_takersOf_53 rfl rfl ?_
            refine fr_ishl 56 dX7_takersOf_55 rfl ?_
            refine fr_goto 60 dX7_takersOf_56 rfl ?_
            refine fr_ior 61 dX7_takersOf_60 rfl ?_
            refine fr_top (y := ((bm (tkP t f a b) (k + 1).toNat : Nat) : Int)) (by first | exact bmI_t h0 (by omega) (decide_eq_true (by omega)) | exact bmI_f h0 (by omega) (decide_eq_false (by omega))) ?_
            refine fr_istore 63 [_, _, _, _, _, _, _] dX7_takersOf_61 rfl (Nat.le_of_ble_eq_true rfl) rfl ?_
            refine fr_iinc 66 [_, _, _, _, _, _, _] dX7_takersOf_63 rfl rfl rfl ?_
            refine fr_goto 6 dX7_takersOf_66 rfl ?_
            exact ih (k + 1) _ (by omega) (by omega) (by omega)
  refine fr_iconst 1 dX7_takersOf_0 rfl ?_
  refine fr_istore 3 [_, _, _, _, _, _, _] dX7_takersOf_1 rfl (Nat.le_of_ble_eq_true rfl) rfl ?_
  refine fr_iconst 4 dX7_takersOf_3 rfl ?_
  refine fr_istore 6 [_, _, _, _, _, _, _] dX7_takersOf_4 rfl (Nat.le_of_ble_eq_true rfl) rfl ?_
  exact key ((tn t).toNat + 1) 0 _ (by omega) (by omega) (by omega)
/-- what order leaves as it was -/
abbrev frO (σ τ : fs_S) : Prop := ∀ k i, k ≠ 5 → k ≠ 6 → ¬ (k = 0 ∧ i = 7) → τ k i = σ k i
set_option maxRecDepth 100000 in
set_option maxHeartbeats 4000000 in
theorem cM_order {σ : fs_S} {t : rt} (hw : twf t) (hR : RM σ t) (hb : σ 0 7 = 0 ∨ σ 0 7 = 1) (hv : σ 0 7 = 1 → OV σ t) : fs_C mX7_order 2 [.inr 0] σ (fun x τ => x = none ∧ OV τ t ∧ τ 0 7 = 1 ∧ frO σ τ) := by
  refine fs_C.intro [some (.inr 0), none, none] fs_oX7_order (Nat.le_of_ble_eq_true rfl) rfl ?_
  have hn := hw.1
  have hm := hR.1
  have hRt : ∀ τ, frO σ τ → RM τ t := fun τ h => hR.eq hw (h _ _ (by decide) (by decide) (by decide)) (fun k i a b _ _ => h k i (by omega) (by omega) (by omega))
  have k3 : ∀ (m : Nat) (f v : Int) (τ : fs_S), 0 ≤ f → f < 4 → 0 ≤ v → v ≤ gr f + 1 → gr f + 1 - v < m → τ 0 7 = 1 → frO σ τ → (∀ p, 0 ≤ p → p < tn t → τ 5 p = tod t p) → (∀ f' v', 0 ≤ f' → 0 ≤ v' → v' ≤ gr f' → (f' < f ∨ f' = f ∧ v' < v) → τ 6 (64 * f' + v') = ((tkm t f' v' v' : Nat) : Int)) →
      (∀ τ', τ' 0 7 = 1 → frO σ τ' → (∀ p, 0 ≤ p → p < tn t → τ' 5 p = tod t p) → (∀ f' v', 0 ≤ f' → 0 ≤ v' → v' ≤ gr f' → f' < f + 1 → τ' 6 (64 * f' + v') = ((tkm t f' v' v' : Nat) : Int)) → ∀ y, fs_W (fs_Γ 2 (fun x τ => x = none ∧ OV τ t ∧ τ 0 7 = 1 ∧ frO σ τ)) mX7_order 81 [some (.inr 0), some (.inl f), y] [] τ') →
      fs_W (fs_Γ 2 (fun x τ => x = none ∧ OV τ t ∧ τ 0 7 = 1 ∧ frO σ τ)) mX7_order 49 [some (.inr 0), some (.inl f), some (.inl v)] [] τ := by
    intro m
    induction m with
    | zero => intro f v τ h0 h1 h2 h3 h4; omega
    | succ m ih =>
      intro f v τ h0 h1 h2 h3 h4 hd hF hO hT kk
      have hg := gr_r f
      refine fr_iload_n 50 dX7_order_49 rfl rfl ?_
      refine fr_iload_n 51 dX7_order_50 rfl rfl ?_
      refine fr_callSi 54 (M2 := mX7_most) [_] dX7_order_51 rfl fs_mX7_124 fs_oX7_most fs_sX7_most rfl (fs_Γ_rm (d := 1) (by decide)) (Nat.le_of_ble_eq_true rfl) rfl ?_
      refine (cM_most (by omega)).ci ?_
      refine fr_icmp_gt 81 57 dX7_order_54 rfl rfl (by omega) (by omega) (fun h54 => ?_) (fun h54 => ?_)
      · exact kk _ hd hF hO (fun f' v' a b c d => hT f' v' a b c (by by_cases e : f' = f <;> first | (subst e; right; omega) | (left; omega))) _
      · refine fr_aload_n 58 dX7_order_57 rfl rfl ?_
        refine fr_getr 61 6 dX7_order_58 rfl fs_kX7_32 fs_l0 rfl ?_
        refine fr_bipush 63 dX7_order_61 rfl (by decide) ?_
        refine fr_iload_n 64 dX7_order_63 rfl rfl ?_
        refine fr_imul 65 dX7_order_64 rfl ?_
        refine fr_iload_n 66 dX7_order_65 rfl rfl ?_
        refine fr_iadd 67 dX7_order_66 rfl ?_
        refine fr_aload_n 68 dX7_order_67 rfl rfl ?_
        refine fr_iload_n 69 dX7_order_68 rfl rfl ?_
        refine fr_iload_n 70 dX7_order_69 rfl rfl ?_
        refine fr_iload_n 71 dX7_order_70 rfl rfl ?_
        refine fr_callVi 74 (M2 := mX7_takersOf) [_, _, _] dX7_order_71 rfl fs_mX7_143 fs_oX7_takersOf fs_iX7_takersOf fs_l0 rfl rfl (fs_Γ_rm (d := 0) (by decide)) (Nat.le_of_ble_eq_true rfl) rfl ?_
        refine (cM_takersOf hw (hRt _ hF) hO ⟨h0, h1⟩ (by omega) (by omega)).ci ?_
        refine fr_iast 75 dX7_order_74 rfl fs_l6 (by omega) ?_
        refine fr_iinc 78 [_, _, _] dX7_order_75 rfl rfl rfl ?_
        refine fr_goto 49 dX7_order_78 rfl ?_
        refine ih f (v + 1) _ h0 h1 (by omega) (by omega) (by omega) (by unfold fs_u; (repeat' split) <;> omega) (fun k i a b c => ?_) (fun p a b => ?_) (fun f' v' a b c d => ?_) kk
        · have := hF k i a b c; unfold fs_u; (repeat' split) <;> omega
        · have := hO p a b; unfold fs_u; (repeat' split) <;> omega
        · have hg' := gr_r f'
          by_cases e : f' = f ∧ v' = v
          · obtain ⟨rfl, rfl⟩ := e
            exact fs_u_eq _ _ _ _
          · rw [fs_u_ne _ (by omega)]
            exact hT f' v' a b c (by omega)
  have k2 : ∀ (m : Nat) (f : Int) (τ : fs_S) (y : Option fs_V), 0 ≤ f → f ≤ 4 → 4 - f < m → τ 0 7 = 1 → frO σ τ → (∀ p, 0 ≤ p → p < tn t → τ 5 p = tod t p) → (∀ f' v', 0 ≤ f' → 0 ≤ v' → v' ≤ gr f' → f' < f → τ 6 (64 * f' + v') = ((tkm t f' v' v' : Nat) : Int)) →
      fs_W (fs_Γ 2 (fun x τ => x = none ∧ OV τ t ∧ τ 0 7 = 1 ∧ frO σ τ)) mX7_order 42 [some (.inr 0), some (.inl f), y] [] τ := by
    intro m
    induction m with
    | zero => intro f τ y h0 h1 h2; omega
    | succ m ih =>
      intro f τ y h0 h1 h2 hd hF hO hT
      have hg := gr_r f
      refine fr_iload_n 43 dX7_order_42 rfl rfl ?_
      refine fr_iconst 44 dX7_order_43 rfl ?_
      refine fr_icmp_ge 87 47 dX7_order_44 rfl rfl (by omega) (by omega) (fun h44 => ?_) (fun h44 => ?_)
      · refine fr_vret dX7_order_87 rfl ?_
        exact ⟨rfl, ⟨hO, fun f' v' a b c d => hT f' v' a c d (by omega)⟩, hd, hF⟩
      · refine fr_iconst 48 dX7_order_47 rfl ?_
        refine fr_istore_n 49 [_, _, _] dX7_order_48 rfl (Nat.le_of_ble_eq_true rfl) rfl ?_
        refine k3 ((gr f + 1).toNat + 1) f 0 _ h0 (by omega) (by omega) (by omega) (by omega) hd hF hO (fun f' v' a b c d => hT f' v' a b c (by omega)) (fun τ' hd' hF' hO' hT' y' => ?_)
        refine fr_iinc 84 [_, _, _] dX7_order_81 rfl rfl rfl ?_
        refine fr_goto 42 dX7_order_84 rfl ?_
        exact ih (f + 1) _ _ (by omega) (by omega) (by omega) hd' hF' hO' hT'
  have k1 : ∀ (m : Nat) (k : Int) (τ : fs_S), 0 ≤ k → k ≤ tn t → tn t - k < m → τ 0 7 = 1 → frO σ τ → (∀ q, 0 ≤ q → q < k → τ 5 (tpl t q) = q) →
      fs_W (fs_Γ 2 (fun x τ => x = none ∧ OV τ t ∧ τ 0 7 = 1 ∧ frO σ τ)) mX7_order 15 [some (.inr 0), some (.inl k), none] [] τ := by
    intro m
    induction m with
    | zero => intro k τ h0 h1 h2; omega
    | succ m ih =>
      intro k τ h0 h1 h2 hd hF hI
      have hm2 := (hRt _ hF).1
      refine fr_iload_n 16 dX7_order_15 rfl rfl ?_
      refine fr_aload_n 17 dX7_order_16 rfl rfl ?_
      refine fr_geti 20 0 dX7_order_17 rfl fs_kX7_104 rfl fs_l0 rfl ?_
      refine fr_icmp_ge 40 23 dX7_order_20 rfl rfl (by omega) (by omega) (fun h20 => ?_) (fun h20 => ?_)
      · refine fr_iconst 41 dX7_order_40 rfl ?_
        refine fr_istore_n 42 [_, _, _] dX7_order_41 rfl (Nat.le_of_ble_eq_true rfl) rfl ?_
        refine k2 5 0 _ _ (by omega) (by omega) (by omega) hd hF (fun p a b => ?_) (fun f' v' a b c d => by omega)
        obtain ⟨o1, o2, o3⟩ := tod_r (t := t) a b
        have := hI (tod t p) o1 (by omega)
        rw [o3] at this
        exact this
      · refine fr_aload_n 24 dX7_order_23 rfl rfl ?_
        refine fr_getr 27 5 dX7_order_24 rfl fs_kX7_29 fs_l0 rfl ?_
        refine fr_aload_n 28 dX7_order_27 rfl rfl ?_
        refine fr_iload_n 29 dX7_order_28 rfl rfl ?_
        refine fr_callVi 32 (M2 := mX7_aheadOf) [_] dX7_order_29 rfl fs_mX7_140 fs_oX7_aheadOf fs_iX7_aheadOf fs_l0 rfl rfl (fs_Γ_rm (d := 1) (by decide)) (Nat.le_of_ble_eq_true rfl) rfl ?_
        refine (cM_aheadOf hw (hRt _ hF) h0 (by omega)).ci ?_
        have hpl := tpl_r (t := t) h0 (by omega)
        refine fr_iload_n 33 dX7_order_32 rfl rfl ?_
        refine fr_iast 34 dX7_order_33 rfl fs_l5 (by omega) ?_
        refine fr_iinc 37 [_, _, _] dX7_order_34 rfl rfl rfl ?_
        refine fr_goto 15 dX7_order_37 rfl ?_
        refine ih (k + 1) _ (by omega) (by omega) (by omega) (by unfold fs_u; (repeat' split) <;> omega) (fun k2 i a b c => ?_) (fun q a b => ?_)
        · have := hF k2 i a b c; unfold fs_u; (repeat' split) <;> omega
        · by_cases e : q = k
          · subst e
            exact fs_u_eq _ _ _ _
          · rw [fs_u_ne _ (fun z => e (tpl_inj a (by omega) h0 (by omega) z.2))]
            exact hI q a (by omega)
  refine fr_aload_n 1 dX7_order_0 rfl rfl ?_
  refine fr_geti 4 7 dX7_order_1 rfl fs_kX7_111 rfl fs_l0 rfl ?_
  refine fr_if_eq 8 7 dX7_order_4 rfl rfl (by omega) (fun h4 => ?_) (fun h4 => ?_)
  · refine fr_aload_n 9 dX7_order_8 rfl rfl ?_
    refine fr_iconst 10 dX7_order_9 rfl ?_
    refine fr_putz 13 7 dX7_order_10 rfl fs_kX7_111 fs_pX7_7 rfl fs_l0 rfl (by omega) ?_
    refine fr_iconst 14 dX7_order_13 rfl ?_
    refine fr_istore_n 15 [_, _, _] dX7_order_14 rfl (Nat.le_of_ble_eq_true rfl) rfl ?_
    refine k1 ((tn t).toNat + 1) 0 _ (by omega) (by omega) (by omega) (by unfold fs_u; (repeat' split) <;> omega) (fun k i a b c => ?_) (fun q a b => by omega)
    unfold fs_u; (repeat' split) <;> omega
  · refine fr_vret dX7_order_7 rfl ?_
    exact ⟨rfl, hv (by omega), by omega, fun _ _ _ _ _ => rfl⟩
set_option maxRecDepth 100000 in
set_option maxHeartbeats 4000000 in
theorem cM_fitting {σ : fs_S} {t : rt} {a b c d : Int} (hw : twf t) (hR : RM σ t) (hb : σ 0 7 = 0 ∨ σ 0 7 = 1) (hv : σ 0 7 = 1 → OV σ t) (ha : 0 ≤ a ∧ a ≤ 63) (hbb : 0 ≤ b ∧ b ≤ 63) (hc : 0 ≤ c ∧ c ≤ 63) (hd : 0 ≤ d ∧ d ≤ 3) : fs_C mX7_fitting 3 [.inr 0, .inl a, .inl b, .inl c, .inl d] σ (fun x τ => x = some ((tfit t a b c d : Nat) : Int) ∧ OV τ t ∧ τ 0 7 = 1 ∧ frO σ τ) := by
  refine fs_C.intro [some (.inr 0), some (.inl a), some (.inl b), some (.inl c), some (.inl d)] fs_oX7_fitting (Nat.le_of_ble_eq_true rfl) rfl ?_
  refine fr_aload_n 1 dX7_fitting_0 rfl rfl ?_
  refine fr_callVv 4 (M2 := mX7_order) [] dX7_fitting_1 rfl fs_mX7_147 fs_oX7_order fs_iX7_order fs_l0 rfl rfl (fs_Γ_rm (d := 2) (by decide)) (Nat.le_of_ble_eq_true rfl) rfl ?_
  refine (cM_order hw hR hb hv).mono ?_
  rintro _ τ ⟨rfl, hO, h7, hF⟩
  refine ⟨rfl, ?_⟩
  have q0 := hO.2 0 a (by omega) (by omega) ha.1 (by unfold gr; split <;> omega)
  have q1 := hO.2 1 b (by omega) (by omega) hbb.1 (by unfold gr; split <;> omega)
  have q2 := hO.2 2 c (by omega) (by omega) hc.1 (by unfold gr; split <;> omega)
  have q3 := hO.2 3 d (by omega) (by omega) hd.1 (by unfold gr; split <;> omega)
  rw [show (64 * 0 + a : Int) = a by omega] at q0
  rw [show (64 * 1 + b : Int) = 64 + b by omega] at q1
  rw [show (64 * 2 + c : Int) = 128 + c by omega] at q2
  rw [show (64 * 3 + d : Int) = 192 + d by omega] at q3
  have l0 := tkm_lt hw 0 a a
  have l1 := tkm_lt hw 1 b b
  have l2 := tkm_lt hw 2 c c
  have l3 := tkm_lt hw 3 d d
  refine fr_aload_n 5 dX7_fitting_4 rfl rfl ?_
  refine fr_getr 8 6 dX7_fitting_5 rfl fs_kX7_32 fs_l0 rfl ?_
  refine fr_iload_n 9 dX7_fitting_8 rfl rfl ?_
  refine fr_iald 10 dX7_fitting_9 rfl fs_l6 (by omega) ?_
  refine fr_top q0 ?_
  refine fr_aload_n 11 dX7_fitting_10 rfl rfl ?_
  refine fr_getr 14 6 dX7_fitting_11 rfl fs_kX7_32 fs_l0 rfl ?_
  refine fr_bipush 16 dX7_fitting_14 rfl (by decide) ?_
  refine fr_iload_n 17 dX7_fitting_16 rfl rfl ?_
  refine fr_iadd 18 dX7_fitting_17 rfl ?_
  refine fr_iald 19 dX7_fitting_18 rfl fs_l6 (by omega) ?_
  refine fr_top q1 ?_
  refine fr_iand 20 dX7_fitting_19 rfl ?_
  refine fr_top (fm_and (by omega) (by omega)) ?_
  refine fr_aload_n 21 dX7_fitting_20 rfl rfl ?_
  refine fr_getr 24 6 dX7_fitting_21 rfl fs_kX7_32 fs_l0 rfl ?_
  refine fr_sipush 27 dX7_fitting_24 rfl (by decide) ?_
  refine fr_iload_n 28 dX7_fitting_27 rfl rfl ?_
  refine fr_iadd 29 dX7_fitting_28 rfl ?_
  refine fr_iald 30 dX7_fitting_29 rfl fs_l6 (by omega) ?_
  refine fr_top q2 ?_
  refine fr_iand 31 dX7_fitting_30 rfl ?_
  refine fr_top (fm_and (Nat.lt_of_le_of_lt Nat.and_le_left (by omega)) (by omega)) ?_
  refine fr_aload_n 32 dX7_fitting_31 rfl rfl ?_
  refine fr_getr 35 6 dX7_fitting_32 rfl fs_kX7_32 fs_l0 rfl ?_
  refine fr_sipush 38 dX7_fitting_35 rfl (by decide) ?_
  refine fr_iload 40 dX7_fitting_38 rfl rfl ?_
  refine fr_iadd 41 dX7_fitting_40 rfl ?_
  refine fr_iald 42 dX7_fitting_41 rfl fs_l6 (by omega) ?_
  refine fr_top q3 ?_
  refine fr_iand 43 dX7_fitting_42 rfl ?_
  refine fr_top (fm_and (Nat.lt_of_le_of_lt (Nat.le_trans Nat.and_le_left Nat.and_le_left) (by omega)) (by omega)) ?_
  refine fr_iret dX7_fitting_43 rfl ?_
  exact ⟨rfl, hO, h7, hF⟩
/-- the answer of first -/
def aFirst (t : rt) (a b c d : Int) : Int := if (0 ≤ a ∧ a ≤ 63) ∧ (0 ≤ b ∧ b ≤ 63) ∧ (0 ≤ c ∧ c ≤ 63) ∧ 0 ≤ d ∧ d ≤ 3 then (if tfit t a b c d = 0 then -6 else tod t (lowb (tfit t a b c d))) else -2
set_option maxRecDepth 100000 in
set_option maxHeartbeats 4000000 in
theorem cM_first {σ : fs_S} {t : rt} {a b c d : Int} (hw : twf t) (hR : RM σ t) (hb : σ 0 7 = 0 ∨ σ 0 7 = 1) (hv : σ 0 7 = 1 → OV σ t) (ha : rg a) (hbb : rg b) (hc : rg c) (hd : rg d) : fs_C mX7_first 4 [.inr 0, .inl a, .inl b, .inl c, .inl d] σ (fun x τ => x = some (aFirst t a b c d) ∧ ((τ = σ) ∨ OV τ t ∧ τ 0 7 = 1 ∧ frO σ τ)) := by
  refine fs_C.intro [some (.inr 0), some (.inl a), some (.inl b), some (.inl c), some (.inl d), none] fs_oX7_first (Nat.le_of_ble_eq_true rfl) rfl ?_
  refine fr_iload_n 1 dX7_first_0 rfl rfl ?_
  refine fr_iload_n 2 dX7_first_1 rfl rfl ?_
  refine fr_iload_n 3 dX7_first_2 rfl rfl ?_
  refine fr_iload 5 dX7_first_3 rfl rfl ?_
  refine fr_callSi 8 (M2 := mX7_isPacket) [_, _, _, _] dX7_first_5 rfl fs_mX7_150 fs_oX7_isPacket fs_sX7_isPacket rfl (fs_Γ_rm (d := 1) (by decide)) (Nat.le_of_ble_eq_true rfl) rfl ?_
  refine (cM_isPacket ha hbb hc hd).ci ?_
  refine fr_if_ne 14 11 dX7_first_8 rfl rfl (by omega) (fun h8 => ?_) (fun h8 => ?_)
  · refine fr_aload_n 15 dX7_first_14 rfl rfl ?_
    refine fr_iload_n 16 dX7_first_15 rfl rfl ?_
    refine fr_iload_n 17 dX7_first_16 rfl rfl ?_
    refine fr_iload_n 18 dX7_first_17 rfl rfl ?_
    refine fr_iload 20 dX7_first_18 rfl rfl ?_
    refine fr_callVi 23 (M2 := mX7_fitting) [_, _, _, _] dX7_first_20 rfl fs_mX7_154 fs_oX7_fitting fs_iX7_fitting fs_l0 rfl rfl (fs_Γ_rm (d := 3) (by decide)) (Nat.le_of_ble_eq_true rfl) rfl ?_
    have hp : (0 ≤ a ∧ a ≤ 63) ∧ (0 ≤ b ∧ b ≤ 63) ∧ (0 ≤ c ∧ c ≤ 63) ∧ 0 ≤ d ∧ d ≤ 3 := by omega
    refine (cM_fitting hw hR hb hv hp.1 hp.2.1 hp.2.2.1 hp.2.2.2).mono ?_
    rintro _ τ ⟨rfl, hO, h7, hF⟩
    refine ⟨_, rfl, ?_⟩
    have hl := tfit_lt hw a b c d
    refine fr_istore 25 [_, _, _, _, _, _] dX7_first_23 rfl (Nat.le_of_ble_eq_true rfl) rfl ?_
    refine fr_iload 27 dX7_first_25 rfl rfl ?_
    refine fr_if_ne 35 30 dX7_first_27 rfl rfl (by omega) (fun h27 => ?_) (fun h27 => ?_)
    · refine fr_aload_n 36 dX7_first_35 rfl rfl ?_
      refine fr_getr 39 5 dX7_first_36 rfl fs_kX7_29 fs_l0 rfl ?_
      refine fr_iload 41 dX7_first_39 rfl rfl ?_
      refine fr_callSi 44 (M2 := mX7_lowest) [_] dX7_first_41 rfl fs_mX7_158 fs_oX7_lowest fs_sX7_lowest rfl (fs_Γ_rm (d := 1) (by decide)) (Nat.le_of_ble_eq_true rfl) rfl ?_
      refine (cM_lowest hl).ci ?_
      have hlow := tfit_low hw (a := a) (b := b) (c := c) (d := d) (by omega)
      have hn := hw.1
      refine fr_iald 45 dX7_first_44 rfl fs_l5 (by omega) ?_
      refine fr_top (hO.1 _ hlow.1 hlow.2) ?_
      refine fr_iret dX7_first_45 rfl ?_
      exact ⟨congrArg some (by unfold aFirst; rw [if_pos hp]; split <;> omega), Or.inr ⟨hO, h7, hF⟩⟩
    · refine fr_bipush 32 dX7_first_30 rfl (by decide) ?_
      refine fr_goto 45 dX7_first_32 rfl ?_
      refine fr_iret dX7_first_45 rfl ?_
      exact ⟨congrArg some (by unfold aFirst; rw [if_pos hp]; split <;> omega), Or.inr ⟨hO, h7, hF⟩⟩
  · refine fr_bipush 13 dX7_first_11 rfl (by decide) ?_
    refine fr_iret dX7_first_13 rfl ?_
    exact ⟨congrArg some (by unfold aFirst; rw [if_neg (by intro z; rw [if_pos z] at h8; omega)]), Or.inl rfl⟩
