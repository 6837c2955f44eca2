/-! ===== the class: small methods ===== -/
set_option maxRecDepth 100000 in
set_option maxHeartbeats 3000000 in
theorem cK_bitCount {σ : fs_S} {m : Nat} (hm : m < 65536) : fs_C mJ6_bitCount_0f7a4 0 [.inl (m : Int)] σ (fun r τ => r = some (pop m) ∧ τ = σ) := by
  refine fs_C.intro [some (.inl (m : Int))] fs_oJ6_bitCount_0f7a4 (Nat.le_of_ble_eq_true rfl) rfl ?_
  have q := bcN_pop hm
  have l1 : bc1 m < 65536 := by unfold bc1; omega
  have l2 : bc2 (bc1 m) < 131072 := by
    have a := Nat.and_le_left (n := bc1 m) (m := 858993459)
    have b := Nat.and_le_left (n := bc1 m / 4) (m := 858993459)
    unfold bc2
    generalize (bc1 m &&& 858993459) = x at *
    generalize (bc1 m / 4 &&& 858993459) = y at *
    omega
  have l3 : bc3 (bc2 (bc1 m)) < 262144 := by
    have a := Nat.and_le_left (n := bc2 (bc1 m) + bc2 (bc1 m) / 16) (m := 252645135)
    unfold bc3
    omega
  have l4 : bc4 (bc3 (bc2 (bc1 m))) < 524288 := by unfold bc4; omega
  have l5 : bc5 (bc4 (bc3 (bc2 (bc1 m)))) < 1048576 := by unfold bc5; omega
  have s1 : (m : Int) - fi_and (fi_ushr (m : Int) 1) 1431655765 = ((bc1 m : Nat) : Int) := by
    rw [show (1 : Int) = ((1 : Nat) : Int) from rfl, fm_ushr (by omega) (by decide), show (1431655765 : Int) = ((1431655765 : Nat) : Int) from rfl, fm_and (by omega) (by decide)]
    unfold bc1
    rw [show m / 2 ^ 1 = m / 2 from rfl]
    have := q.1
    generalize (m / 2 &&& 1431655765) = y at *
    omega
  have s2 : fi_and ((bc1 m : Nat) : Int) 858993459 + fi_and (fi_ushr ((bc1 m : Nat) : Int) 2) 858993459 = ((bc2 (bc1 m) : Nat) : Int) := by
    rw [show (2 : Int) = ((2 : Nat) : Int) from rfl, fm_ushr (by omega) (by decide), show (858993459 : Int) = ((858993459 : Nat) : Int) from rfl, fm_and (by omega) (by decide), fm_and (by omega) (by decide)]
    rfl
  have s3 : fi_and (((bc2 (bc1 m) : Nat) : Int) + fi_ushr ((bc2 (bc1 m) : Nat) : Int) 4) 252645135 = ((bc3 (bc2 (bc1 m)) : Nat) : Int) := by
    rw [show (4 : Int) = ((4 : Nat) : Int) from rfl, fm_ushr (by omega) (by decide), show (252645135 : Int) = ((252645135 : Nat) : Int) from rfl, ← Int.natCast_add, fm_and (by omega) (by decide)]
    rfl
  have s4 : ((bc3 (bc2 (bc1 m)) : Nat) : Int) + fi_ushr ((bc3 (bc2 (bc1 m)) : Nat) : Int) 8 = ((bc4 (bc3 (bc2 (bc1 m))) : Nat) : Int) := by
    rw [show (8 : Int) = ((8 : Nat) : Int) from rfl, fm_ushr (by omega) (by decide)]
    rfl
  have s5 : ((bc4 (bc3 (bc2 (bc1 m))) : Nat) : Int) + fi_ushr ((bc4 (bc3 (bc2 (bc1 m))) : Nat) : Int) 16 = ((bc5 (bc4 (bc3 (bc2 (bc1 m)))) : Nat) : Int) := by
    rw [show (16 : Int) = ((16 : Nat) : Int) from rfl, fm_ushr (by omega) (by decide)]
    rfl
  have s6 : fi_and ((bc5 (bc4 (bc3 (bc2 (bc1 m)))) : Nat) : Int) 63 = pop m := by
    rw [show (63 : Int) = ((63 : Nat) : Int) from rfl, fm_and (by omega) (by decide)]
    exact q.2
  refine fr_iload_n 1 dJ6_bitCount_0f7a4_0 rfl rfl ?_
  refine fr_iload_n 2 dJ6_bitCount_0f7a4_1 rfl rfl ?_
  refine fr_iconst 3 dJ6_bitCount_0f7a4_2 rfl ?_
  refine fr_iushr 4 dJ6_bitCount_0f7a4_3 rfl ?_
  refine fr_ldcw 7 (n := 1431655765) dJ6_bitCount_0f7a4_4 rfl (fs_tm 446 (by decide +kernel) rfl) ?_
  refine fr_iand 8 dJ6_bitCount_0f7a4_7 rfl ?_
  refine fr_isub 9 dJ6_bitCount_0f7a4_8 rfl ?_
  refine fr_top s1 ?_
  refine fr_istore_n 10 [_] dJ6_bitCount_0f7a4_9 rfl (Nat.le_of_ble_eq_true rfl) rfl ?_
  refine fr_iload_n 11 dJ6_bitCount_0f7a4_10 rfl rfl ?_
  refine fr_ldcw 14 (n := 858993459) dJ6_bitCount_0f7a4_11 rfl (fs_tm 447 (by decide +kernel) rfl) ?_
  refine fr_iand 15 dJ6_bitCount_0f7a4_14 rfl ?_
  refine fr_iload_n 16 dJ6_bitCount_0f7a4_15 rfl rfl ?_
  refine fr_iconst 17 dJ6_bitCount_0f7a4_16 rfl ?_
  refine fr_iushr 18 dJ6_bitCount_0f7a4_17 rfl ?_
  refine fr_ldcw 21 (n := 858993459) dJ6_bitCount_0f7a4_18 rfl (fs_tm 447 (by decide +kernel) rfl) ?_
  refine fr_iand 22 dJ6_bitCount_0f7a4_21 rfl ?_
  refine fr_iadd 23 dJ6_bitCount_0f7a4_22 rfl ?_
  refine fr_top s2 ?_
  refine fr_istore_n 24 [_] dJ6_bitCount_0f7a4_23 rfl (Nat.le_of_ble_eq_true rfl) rfl ?_
  refine fr_iload_n 25 dJ6_bitCount_0f7a4_24 rfl rfl ?_
  refine fr_iload_n 26 dJ6_bitCount_0f7a4_25 rfl rfl ?_
  refine fr_iconst 27 dJ6_bitCount_0f7a4_26 rfl ?_
  refine fr_iushr 28 dJ6_bitCount_0f7a4_27 rfl ?_
  refine fr_iadd 29 dJ6_bitCount_0f7a4_28 rfl ?_
  refine fr_ldcw 32 (n := 252645135) dJ6_bitCount_0f7a4_29 rfl (fs_tm 448 (by decide +kernel) rfl) ?_
  refine fr_iand 33 dJ6_bitCount_0f7a4_32 rfl ?_
  refine fr_top s3 ?_
  refine fr_istore_n 34 [_] dJ6_bitCount_0f7a4_33 rfl (Nat.le_of_ble_eq_true rfl) rfl ?_
  refine fr_iload_n 35 dJ6_bitCount_0f7a4_34 rfl rfl ?_
  refine fr_iload_n 36 dJ6_bitCount_0f7a4_35 rfl rfl ?_
  refine fr_bipush 38 dJ6_bitCount_0f7a4_36 rfl (by decide) ?_
  refine fr_iushr 39 dJ6_bitCount_0f7a4_38 rfl ?_
  refine fr_iadd 40 dJ6_bitCount_0f7a4_39 rfl ?_
  refine fr_top s4 ?_
  refine fr_istore_n 41 [_] dJ6_bitCount_0f7a4_40 rfl (Nat.le_of_ble_eq_true rfl) rfl ?_
  refine fr_iload_n 42 dJ6_bitCount_0f7a4_41 rfl rfl ?_
  refine fr_iload_n 43 dJ6_bitCount_0f7a4_42 rfl rfl ?_
  refine fr_bipush 45 dJ6_bitCount_0f7a4_43 rfl (by decide) ?_
  refine fr_iushr 46 dJ6_bitCount_0f7a4_45 rfl ?_
  refine fr_iadd 47 dJ6_bitCount_0f7a4_46 rfl ?_
  refine fr_top s5 ?_
  refine fr_istore_n 48 [_] dJ6_bitCount_0f7a4_47 rfl (Nat.le_of_ble_eq_true rfl) rfl ?_
  refine fr_iload_n 49 dJ6_bitCount_0f7a4_48 rfl rfl ?_
  refine fr_bipush 51 dJ6_bitCount_0f7a4_49 rfl (by decide) ?_
  refine fr_iand 52 dJ6_bitCount_0f7a4_51 rfl ?_
  refine fr_top s6 ?_
  refine fr_iret dJ6_bitCount_0f7a4_52 rfl ?_
  exact ⟨rfl, rfl⟩
theorem pop_ones : ∀ k : Nat, k < 16 → pop (2 ^ k - 1) = (k : Int) := by decide +kernel
set_option maxRecDepth 100000 in
set_option maxHeartbeats 3000000 in
theorem cK_lowestBit {σ : fs_S} {m : Nat} (hm : m < 65536) : fs_C mX6_lowestBit 1 [.inl (m : Int)] σ (fun r τ => r = some (if m = 0 then -1 else lowb m) ∧ τ = σ) := by
  refine fs_C.intro [some (.inl (m : Int))] fs_oX6_lowestBit (Nat.le_of_ble_eq_true rfl) rfl ?_
  by_cases h0 : m = 0
  · subst h0
    refine fr_iload_n 1 dX6_lowestBit_0 rfl rfl ?_
    refine fr_if_ne 8 4 dX6_lowestBit_1 rfl rfl (by omega) (fun h1 => ?_) (fun h1 => ?_)
    · exact absurd rfl h1
    · refine fr_iconst 5 dX6_lowestBit_4 rfl ?_
      refine fr_goto 17 dX6_lowestBit_5 rfl ?_
      refine fr_iret dX6_lowestBit_17 rfl ?_
      exact ⟨rfl, rfl⟩
  · obtain ⟨j, k, e, hj, hm2⟩ := low_form hm h0
    have s : fi_and (m : Int) (-(m : Int)) - 1 = ((2 ^ j - 1 : Nat) : Int) := by
      rw [fm_neg hm h0, e]
      have := Nat.two_pow_pos j
      omega
    have lt : 2 ^ j - 1 < 65536 := by
      have : 2 ^ j ≤ 2 ^ 16 := Nat.pow_le_pow_right (by decide) (by omega)
      omega
    refine fr_iload_n 1 dX6_lowestBit_0 rfl rfl ?_
    refine fr_if_ne 8 4 dX6_lowestBit_1 rfl rfl (by omega) (fun h1 => ?_) (fun h1 => ?_)
    · refine fr_iload_n 9 dX6_lowestBit_8 rfl rfl ?_
      refine fr_iload_n 10 dX6_lowestBit_9 rfl rfl ?_
      refine fr_ineg 11 dX6_lowestBit_10 rfl ?_
      refine fr_iand 12 dX6_lowestBit_11 rfl ?_
      refine fr_iconst 13 dX6_lowestBit_12 rfl ?_
      refine fr_isub 14 dX6_lowestBit_13 rfl ?_
      refine fr_top s ?_
      refine fr_callSi 17 (M2 := mJ6_bitCount_0f7a4) [_] dX6_lowestBit_14 rfl fs_mX6_229 fs_oJ6_bitCount_0f7a4 fs_sJ6_bitCount_0f7a4 rfl (fs_Γ_rm (d := 0) (by decide)) (Nat.le_of_ble_eq_true rfl) rfl ?_
      refine (cK_bitCount lt).ci ?_
      refine fr_iret dX6_lowestBit_17 rfl ?_
      exact ⟨congrArg some (by rw [if_neg h0, pop_ones j hj]; unfold lowb; rw [e]), rfl⟩
    · omega
theorem st_gr {f : Int} (h : 0 ≤ f ∧ f < 4) : ([63, 63, 63, 3] : List Int).getD f.toNat 0 = gr f := by
  rcases (by omega : f = 0 ∨ f = 1 ∨ f = 2 ∨ f = 3) with rfl | rfl | rfl | rfl <;> decide
theorem st_wd {f : Int} (h : 0 ≤ f ∧ f < 4) : ([6, 6, 6, 2] : List Int).getD f.toNat 0 = wd f := by
  rcases (by omega : f = 0 ∨ f = 1 ∨ f = 2 ∨ f = 3) with rfl | rfl | rfl | rfl <;> decide
theorem gr_le (f : Int) : 3 ≤ gr f ∧ gr f ≤ 63 := by unfold gr; split <;> omega
set_option maxRecDepth 100000 in
set_option maxHeartbeats 3000000 in
theorem cK_isField {σ : fs_S} {f : Int} (hf : rg f) : fs_C mX6_isField 0 [.inl f] σ (fun r τ => r = some (if 0 ≤ f ∧ f < 4 then 1 else 0) ∧ τ = σ) := by
  refine fs_C.intro [some (.inl f)] fs_oX6_isField (Nat.le_of_ble_eq_true rfl) rfl ?_
  refine fr_iload_n 1 dX6_isField_0 rfl rfl ?_
  refine fr_if_lt 13 4 dX6_isField_1 rfl rfl (by omega) (fun h1 => ?_) (fun h1 => ?_)
  · refine fr_iconst 14 dX6_isField_13 rfl ?_
    refine fr_zret dX6_isField_14 rfl (by omega) ?_
    exact ⟨congrArg some (by split <;> omega), rfl⟩
  · refine fr_iload_n 5 dX6_isField_4 rfl rfl ?_
    refine fr_iconst 6 dX6_isField_5 rfl ?_
    refine fr_icmp_ge 13 9 dX6_isField_6 rfl rfl (by omega) (by omega) (fun h6 => ?_) (fun h6 => ?_)
    · refine fr_iconst 14 dX6_isField_13 rfl ?_
      refine fr_zret dX6_isField_14 rfl (by omega) ?_
      exact ⟨congrArg some (by split <;> omega), rfl⟩
    · refine fr_iconst 10 dX6_isField_9 rfl ?_
      refine fr_goto 14 dX6_isField_10 rfl ?_
      refine fr_zret dX6_isField_14 rfl (by omega) ?_
      exact ⟨congrArg some (by split <;> omega), rfl⟩
set_option maxRecDepth 100000 in
set_option maxHeartbeats 3000000 in
theorem cK_isNumber {σ : fs_S} {f v : Int} (hf : 0 ≤ f ∧ f < 4) (hv : rg v) : fs_C mX6_isNumber 0 [.inl f, .inl v] σ (fun r τ => r = some (if 0 ≤ v ∧ v ≤ gr f then 1 else 0) ∧ τ = σ) := by
  refine fs_C.intro [some (.inl f), some (.inl v)] fs_oX6_isNumber (Nat.le_of_ble_eq_true rfl) rfl ?_
  have hg := gr_le f
  refine fr_iload_n 1 dX6_isNumber_0 rfl rfl ?_
  refine fr_if_lt 17 4 dX6_isNumber_1 rfl rfl (by omega) (fun h1 => ?_) (fun h1 => ?_)
  · refine fr_iconst 18 dX6_isNumber_17 rfl ?_
    refine fr_zret dX6_isNumber_18 rfl (by omega) ?_
    exact ⟨congrArg some (by split <;> omega), rfl⟩
  · refine fr_iload_n 5 dX6_isNumber_4 rfl rfl ?_
    refine fr_gets 8 0 dX6_isNumber_5 rfl rfl rfl fs_kX6_263 ?_
    refine fr_iload_n 9 dX6_isNumber_8 rfl rfl ?_
    refine fr_ialdS 10 0 dX6_isNumber_9 rfl rfl rfl (by decide) hf (st_gr hf) ?_
    refine fr_icmp_gt 17 13 dX6_isNumber_10 rfl rfl (by omega) (by omega) (fun h10 => ?_) (fun h10 => ?_)
    · refine fr_iconst 18 dX6_isNumber_17 rfl ?_
      refine fr_zret dX6_isNumber_18 rfl (by omega) ?_
      exact ⟨congrArg some (by split <;> omega), rfl⟩
    · refine fr_iconst 14 dX6_isNumber_13 rfl ?_
      refine fr_goto 18 dX6_isNumber_14 rfl ?_
      refine fr_zret dX6_isNumber_18 rfl (by omega) ?_
      exact ⟨congrArg some (by split <;> omega), rfl⟩
set_option maxRecDepth 100000 in
set_option maxHeartbeats 3000000 in
theorem cK_isPacket {σ : fs_S} {a b c d : Int} (ha : rg a) (hb : rg b) (hc : rg c) (hd : rg d) : fs_C mX6_isPacket 1 [.inl a, .inl b, .inl c, .inl d] σ (fun x τ => x = some (if (0 ≤ a ∧ a ≤ 63) ∧ (0 ≤ b ∧ b ≤ 63) ∧ (0 ≤ c ∧ c ≤ 63) ∧ 0 ≤ d ∧ d ≤ 3 then 1 else 0) ∧ τ = σ) := by
  refine fs_C.intro [some (.inl a), some (.inl b), some (.inl c), some (.inl d)] fs_oX6_isPacket (Nat.le_of_ble_eq_true rfl) rfl ?_
  have g0 : gr 0 = 63 := rfl
  have g1 : gr 1 = 63 := rfl
  have g2 : gr 2 = 63 := rfl
  have g3 : gr 3 = 3 := rfl
  refine fr_iconst 1 dX6_isPacket_0 rfl ?_
  refine fr_iload_n 2 dX6_isPacket_1 rfl rfl ?_
  refine fr_callSi 5 (M2 := mX6_isNumber) [_, _] dX6_isPacket_2 rfl fs_mX6_74 fs_oX6_isNumber fs_sX6_isNumber rfl (fs_Γ_rm (d := 0) (by decide)) (Nat.le_of_ble_eq_true rfl) rfl ?_
  refine (cK_isNumber (by omega) (by omega)).ci ?_
  refine fr_if_eq 36 8 dX6_isPacket_5 rfl rfl (by split <;> decide) (fun h5 => ?_) (fun h5 => ?_)
  · refine fr_iconst 37 dX6_isPacket_36 rfl ?_
    refine fr_zret dX6_isPacket_37 rfl (by omega) ?_
    exact ⟨congrArg some (by split <;> omega), rfl⟩
  · refine fr_iconst 9 dX6_isPacket_8 rfl ?_
    refine fr_iload_n 10 dX6_isPacket_9 rfl rfl ?_
    refine fr_callSi 13 (M2 := mX6_isNumber) [_, _] dX6_isPacket_10 rfl fs_mX6_74 fs_oX6_isNumber fs_sX6_isNumber rfl (fs_Γ_rm (d := 0) (by decide)) (Nat.le_of_ble_eq_true rfl) rfl ?_
    refine (cK_isNumber (by omega) (by omega)).ci ?_
    refine fr_if_eq 36 16 dX6_isPacket_13 rfl rfl (by split <;> decide) (fun h13 => ?_) (fun h13 => ?_)
    · refine fr_iconst 37 dX6_isPacket_36 rfl ?_
      refine fr_zret dX6_isPacket_37 rfl (by omega) ?_
      exact ⟨congrArg some (by split <;> omega), rfl⟩
    · refine fr_iconst 17 dX6_isPacket_16 rfl ?_
      refine fr_iload_n 18 dX6_isPacket_17 rfl rfl ?_
      refine fr_callSi 21 (M2 := mX6_isNumber) [_, _] dX6_isPacket_18 rfl fs_mX6_74 fs_oX6_isNumber fs_sX6_isNumber rfl (fs_Γ_rm (d := 0) (by decide)) (Nat.le_of_ble_eq_true rfl) rfl ?_
      refine (cK_isNumber (by omega) (by omega)).ci ?_
      refine fr_if_eq 36 24 dX6_isPacket_21 rfl rfl (by split <;> decide) (fun h21 => ?_) (fun h21 => ?_)
      · refine fr_iconst 37 dX6_isPacket_36 rfl ?_
        refine fr_zret dX6_isPacket_37 rfl (by omega) ?_
        exact ⟨congrArg some (by split <;> omega), rfl⟩
      · refine fr_iconst 25 dX6_isPacket_24 rfl ?_
        refine fr_iload_n 26 dX6_isPacket_25 rfl rfl ?_
        refine fr_callSi 29 (M2 := mX6_isNumber) [_, _] dX6_isPacket_26 rfl fs_mX6_74 fs_oX6_isNumber fs_sX6_isNumber rfl (fs_Γ_rm (d := 0) (by decide)) (Nat.le_of_ble_eq_true rfl) rfl ?_
        refine (cK_isNumber (by omega) (by omega)).ci ?_
        refine fr_if_eq 36 32 dX6_isPacket_29 rfl rfl (by split <;> decide) (fun h29 => ?_) (fun h29 => ?_)
        · refine fr_iconst 37 dX6_isPacket_36 rfl ?_
          refine fr_zret dX6_isPacket_37 rfl (by omega) ?_
          exact ⟨congrArg some (by split <;> omega), rfl⟩
        · refine fr_iconst 33 dX6_isPacket_32 rfl ?_
          refine fr_goto 37 dX6_isPacket_33 rfl ?_
          refine fr_zret dX6_isPacket_37 rfl (by omega) ?_
          exact ⟨congrArg some (by split <;> omega), rfl⟩
set_option maxRecDepth 100000 in
set_option maxHeartbeats 3000000 in
theorem cK_isRank {σ : fs_S} {f : Int} (hf : rg f) : fs_C mX6_isRank 0 [.inl f] σ (fun r τ => r = some (if 0 ≤ f ∧ f ≤ 999 then 1 else 0) ∧ τ = σ) := by
  refine fs_C.intro [some (.inl f)] fs_oX6_isRank (Nat.le_of_ble_eq_true rfl) rfl ?_
  refine fr_iload_n 1 dX6_isRank_0 rfl rfl ?_
  refine fr_if_lt 15 4 dX6_isRank_1 rfl rfl (by omega) (fun h1 => ?_) (fun h1 => ?_)
  · refine fr_iconst 16 dX6_isRank_15 rfl ?_
    refine fr_zret dX6_isRank_16 rfl (by omega) ?_
    exact ⟨congrArg some (by split <;> omega), rfl⟩
  · refine fr_iload_n 5 dX6_isRank_4 rfl rfl ?_
    refine fr_sipush 8 dX6_isRank_5 rfl (by decide) ?_
    refine fr_icmp_gt 15 11 dX6_isRank_8 rfl rfl (by omega) (by omega) (fun h8 => ?_) (fun h8 => ?_)
    · refine fr_iconst 16 dX6_isRank_15 rfl ?_
      refine fr_zret dX6_isRank_16 rfl (by omega) ?_
      exact ⟨congrArg some (by split <;> omega), rfl⟩
    · refine fr_iconst 12 dX6_isRank_11 rfl ?_
      refine fr_goto 16 dX6_isRank_12 rfl ?_
      refine fr_zret dX6_isRank_16 rfl (by omega) ?_
      exact ⟨congrArg some (by split <;> omega), rfl⟩
set_option maxRecDepth 100000 in
set_option maxHeartbeats 3000000 in
theorem cK_isAction {σ : fs_S} {f : Int} (hf : rg f) : fs_C mX6_isAction 0 [.inl f] σ (fun r τ => r = some (if 0 ≤ f ∧ f ≤ 9 then 1 else 0) ∧ τ = σ) := by
  refine fs_C.intro [some (.inl f)] fs_oX6_isAction (Nat.le_of_ble_eq_true rfl) rfl ?_
  refine fr_iload_n 1 dX6_isAction_0 rfl rfl ?_
  refine fr_if_lt 14 4 dX6_isAction_1 rfl rfl (by omega) (fun h1 => ?_) (fun h1 => ?_)
  · refine fr_iconst 15 dX6_isAction_14 rfl ?_
    refine fr_zret dX6_isAction_15 rfl (by omega) ?_
    exact ⟨congrArg some (by split <;> omega), rfl⟩
  · refine fr_iload_n 5 dX6_isAction_4 rfl rfl ?_
    refine fr_bipush 7 dX6_isAction_5 rfl (by decide) ?_
    refine fr_icmp_gt 14 10 dX6_isAction_7 rfl rfl (by omega) (by omega) (fun h7 => ?_) (fun h7 => ?_)
    · refine fr_iconst 15 dX6_isAction_14 rfl ?_
      refine fr_zret dX6_isAction_15 rfl (by omega) ?_
      exact ⟨congrArg some (by split <;> omega), rfl⟩
    · refine fr_iconst 11 dX6_isAction_10 rfl ?_
      refine fr_goto 15 dX6_isAction_11 rfl ?_
      refine fr_zret dX6_isAction_15 rfl (by omega) ?_
      exact ⟨congrArg some (by split <;> omega), rfl⟩
