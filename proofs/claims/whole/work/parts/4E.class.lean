/-! ===== the class: told ===== -/
theorem fi_w_in {x : Int} (h : rg x) : fi_w x = x := fs_toInt h
theorem fi_w_low {x : Int} (h0 : -4294967296 ≤ x) (h : x < -2147483648) : fi_w x = x + 4294967296 := by
  have e : Int32.ofInt x = Int32.ofInt (x + 4294967296) := by
    apply Int32.toBitVec.inj
    show BitVec.ofInt 32 _ = BitVec.ofInt 32 _
    apply BitVec.eq_of_toInt_eq
    rw [BitVec.toInt_ofInt, BitVec.toInt_ofInt]
    show Int.bmod _ 4294967296 = Int.bmod _ 4294967296
    simp only [Int.bmod_def]
    (repeat' split) <;> omega
  unfold fi_w
  rw [e]
  exact fs_toInt (by omega)
set_option maxRecDepth 100000 in
set_option maxHeartbeats 3000000 in
theorem cK_toldBound {σ : fs_S} {t : rt} {r v : Int} (hw : twf t) (hR : RC 27 σ t) (hr : 0 ≤ r ∧ r < tn t) (hv : rg v) : fs_C mX6_toldBound 0 [.inr 26, .inl r, .inl v] σ (fun x τ => x = some (if 0 ≤ v ∧ v < 8 then (if v % 2 = 0 then tlo t r (v / 2) else thi t r (v / 2)) else -2) ∧ τ = σ) := by
  refine fs_C.intro [some (.inr 26), some (.inl r), some (.inl v), none] fs_oX6_toldBound (Nat.le_of_ble_eq_true rfl) rfl ?_
  have hn := hw.1
  by_cases h : 0 ≤ v ∧ v < 8
  · obtain ⟨n, rfl⟩ := Int.eq_ofNat_of_zero_le h.1
    have s1 : fi_shr (n : Int) 1 = (n : Int) / 2 := fm_shr (a := n) (i := 1) (by omega) (by decide)
    have s2 : fi_and (n : Int) 1 = (n : Int) % 2 := by
      have := fm_and (a := n) (b := 1) (by omega) (by decide)
      rw [Nat.and_one_is_mod] at this
      exact this
    have hf : 0 ≤ (n : Int) / 2 ∧ (n : Int) / 2 < 4 := by omega
    have e := hR.lh hr hf
    rw [if_pos h]
    refine fr_iload_n 1 dX6_toldBound_0 rfl rfl ?_
    refine fr_if_lt 10 4 dX6_toldBound_1 rfl rfl (by omega) (fun h1 => ?_) (fun h1 => ?_)
    · omega
    · refine fr_iload_n 5 dX6_toldBound_4 rfl rfl ?_
      refine fr_bipush 7 dX6_toldBound_5 rfl (by decide) ?_
      refine fr_icmp_lt 13 10 dX6_toldBound_7 rfl rfl (by omega) (by omega) (fun h7 => ?_) (fun h7 => ?_)
      · refine fr_iload_n 14 dX6_toldBound_13 rfl rfl ?_
        refine fr_iconst 15 dX6_toldBound_14 rfl ?_
        refine fr_ishr 16 dX6_toldBound_15 rfl ?_
        refine fr_top s1 ?_
        refine fr_istore_n 17 [_, _, _, _] dX6_toldBound_16 rfl (Nat.le_of_ble_eq_true rfl) rfl ?_
        refine fr_iload_n 18 dX6_toldBound_17 rfl rfl ?_
        refine fr_iconst 19 dX6_toldBound_18 rfl ?_
        refine fr_iand 20 dX6_toldBound_19 rfl ?_
        refine fr_top s2 ?_
        refine fr_if_ne 37 23 dX6_toldBound_20 rfl rfl (by omega) (fun h20 => ?_) (fun h20 => ?_)
        · refine fr_aload_n 38 dX6_toldBound_37 rfl rfl ?_
          refine fr_getr 41 27 dX6_toldBound_38 rfl fs_kX6_10 fs_l26 rfl ?_
          refine fr_getr 44 29 dX6_toldBound_41 rfl fs_kX6_283 fs_l27 rfl ?_
          refine fr_iload_n 45 dX6_toldBound_44 rfl rfl ?_
          refine fr_aald 46 dX6_toldBound_45 rfl fs_l29 (by omega) ?_
          refine fr_iload_n 47 dX6_toldBound_46 rfl rfl ?_
          refine fr_iald 48 dX6_toldBound_47 rfl (fs_f38 _ (by omega)) (by omega) ?_
          refine fr_iret dX6_toldBound_48 rfl ?_
          refine ⟨congrArg some ?_, rfl⟩
          first
          | (rw [if_pos (by omega)]; exact e.1)
          | (rw [if_neg (by omega)]; exact e.2)
        · refine fr_aload_n 24 dX6_toldBound_23 rfl rfl ?_
          refine fr_getr 27 27 dX6_toldBound_24 rfl fs_kX6_10 fs_l26 rfl ?_
          refine fr_getr 30 28 dX6_toldBound_27 rfl fs_kX6_279 fs_l27 rfl ?_
          refine fr_iload_n 31 dX6_toldBound_30 rfl rfl ?_
          refine fr_aald 32 dX6_toldBound_31 rfl fs_l28 (by omega) ?_
          refine fr_iload_n 33 dX6_toldBound_32 rfl rfl ?_
          refine fr_iald 34 dX6_toldBound_33 rfl (fs_f34 _ (by omega)) (by omega) ?_
          refine fr_goto 48 dX6_toldBound_34 rfl ?_
          refine fr_iret dX6_toldBound_48 rfl ?_
          refine ⟨congrArg some ?_, rfl⟩
          first
          | (rw [if_pos (by omega)]; exact e.1)
          | (rw [if_neg (by omega)]; exact e.2)
      · omega
  · rw [if_neg h]
    refine fr_iload_n 1 dX6_toldBound_0 rfl rfl ?_
    refine fr_if_lt 10 4 dX6_toldBound_1 rfl rfl (by omega) (fun h1 => ?_) (fun h1 => ?_)
    · refine fr_bipush 12 dX6_toldBound_10 rfl (by decide) ?_
      refine fr_iret dX6_toldBound_12 rfl ?_
      exact ⟨rfl, rfl⟩
    · refine fr_iload_n 5 dX6_toldBound_4 rfl rfl ?_
      refine fr_bipush 7 dX6_toldBound_5 rfl (by decide) ?_
      refine fr_icmp_lt 13 10 dX6_toldBound_7 rfl rfl (by omega) (by omega) (fun h7 => ?_) (fun h7 => ?_)
      · omega
      · refine fr_bipush 12 dX6_toldBound_10 rfl (by decide) ?_
        refine fr_iret dX6_toldBound_12 rfl ?_
        exact ⟨rfl, rfl⟩
set_option maxRecDepth 100000 in
set_option maxHeartbeats 3000000 in
theorem cK_told {σ : fs_S} {t : rt} {r w : Int} (hw : twf t) (hR : RC 27 σ t) (hO : OC σ t) (hr : rg r) (hww : rg w) : fs_C mX6_told 1 [.inr 26, .inl r, .inl w] σ (fun x τ => x = some (aTold t r w) ∧ τ = σ) := by
  refine fs_C.intro [some (.inr 26), some (.inl r), some (.inl w)] fs_oX6_told (Nat.le_of_ble_eq_true rfl) rfl ?_
  have hn := hw.1
  refine fr_aload_n 1 dX6_told_0 rfl rfl ?_
  refine fr_getr 4 27 dX6_told_1 rfl fs_kX6_10 fs_l26 rfl ?_
  refine fr_iload_n 5 dX6_told_4 rfl rfl ?_
  refine fr_callVi 8 (M2 := mX3_has) [_] dX6_told_5 rfl fs_mX6_95 fs_oX3_has fs_iX3_has fs_l27 rfl rfl (fs_Γ_rm (d := 0) (by decide)) (Nat.le_of_ble_eq_true rfl) rfl ?_
  refine (cK_has hw hR.1 hr).ci ?_
  refine fr_if_ne 13 11 dX6_told_8 rfl rfl (by split <;> decide) (fun h8 => ?_) (fun h8 => ?_)
  · have hA := (i01' _).1 h8
    have eA : aTold t r w = _ := if_pos hA
    rw [eA]
    clear eA h8
    have ea := hR.ra hA
    have eo := hO.2 r hA.1 hA.2
    refine fr_iload_n 14 dX6_told_13 rfl rfl ?_
    rcases (by omega : (w = 0 ∨ w = 1 ∨ w = 2) ∨ (w ≠ 0 ∧ w ≠ 1 ∧ w ≠ 2)) with (rfl | rfl | rfl) | hd14
    · refine fr_tblIn 40 dX6_told_14 (by decide) (by decide) (by decide) rfl rfl ?_
      refine fr_aload_n 41 dX6_told_40 rfl rfl ?_
      refine fr_getr 44 27 dX6_told_41 rfl fs_kX6_10 fs_l26 rfl ?_
      refine fr_getr 47 30 dX6_told_44 rfl fs_kX6_102 fs_l27 rfl ?_
      refine fr_iload_n 48 dX6_told_47 rfl rfl ?_
      refine fr_iald 49 dX6_told_48 rfl fs_l30 (by omega) ?_
      refine fr_iret dX6_told_49 rfl ?_
      exact ⟨congrArg some ea.1, rfl⟩
    · refine fr_tblIn 50 dX6_told_14 (by decide) (by decide) (by decide) rfl rfl ?_
      refine fr_aload_n 51 dX6_told_50 rfl rfl ?_
      refine fr_getr 54 27 dX6_told_51 rfl fs_kX6_10 fs_l26 rfl ?_
      refine fr_getr 57 31 dX6_told_54 rfl fs_kX6_108 fs_l27 rfl ?_
      refine fr_iload_n 58 dX6_told_57 rfl rfl ?_
      refine fr_iald 59 dX6_told_58 rfl fs_l31 (by omega) ?_
      refine fr_iret dX6_told_59 rfl ?_
      exact ⟨congrArg some ea.2, rfl⟩
    · refine fr_tblIn 60 dX6_told_14 (by decide) (by decide) (by decide) rfl rfl ?_
      refine fr_aload_n 61 dX6_told_60 rfl rfl ?_
      refine fr_getr 64 27 dX6_told_61 rfl fs_kX6_10 fs_l26 rfl ?_
      refine fr_getr 67 33 dX6_told_64 rfl fs_kX6_105 fs_l27 rfl ?_
      refine fr_iload_n 68 dX6_told_67 rfl rfl ?_
      refine fr_iald 69 dX6_told_68 rfl fs_l33 (by omega) ?_
      refine fr_iret dX6_told_69 rfl ?_
      exact ⟨congrArg some eo, rfl⟩
    · refine fr_tblOut 70 dX6_told_14 (by omega) (by omega) rfl ?_
      refine fr_aload_n 71 dX6_told_70 rfl rfl ?_
      refine fr_iload_n 72 dX6_told_71 rfl rfl ?_
      refine fr_iload_n 73 dX6_told_72 rfl rfl ?_
      refine fr_bipush 75 dX6_told_73 rfl (by decide) ?_
      refine fr_isub 76 dX6_told_75 rfl ?_
      refine fr_wrap ?_
      have hfw : rg (fi_w (w - 10)) ∧ (0 ≤ fi_w (w - 10) ∧ fi_w (w - 10) < 8 ↔ 10 ≤ w ∧ w ≤ 17) ∧ (10 ≤ w → fi_w (w - 10) = w - 10) := by
        by_cases z : rg (w - 10)
        · rw [fi_w_in z]; exact ⟨z, by omega, fun _ => rfl⟩
        · rw [fi_w_low (by omega) (by omega)]; exact ⟨by omega, by omega, fun y => by omega⟩
      refine fr_callVi 79 (M2 := mX6_toldBound) [_, _] dX6_told_76 rfl fs_mX6_111 fs_oX6_toldBound fs_iX6_toldBound fs_l26 rfl rfl (fs_Γ_rm (d := 0) (by decide)) (Nat.le_of_ble_eq_true rfl) rfl ?_
      refine (cK_toldBound hw hR hA hfw.1).ci ?_
      refine fr_iret dX6_told_79 rfl ?_
      refine ⟨congrArg some ?_, rfl⟩
      by_cases z : 10 ≤ w ∧ w ≤ 17
      · rw [if_pos (hfw.2.1.2 z), if_pos z, hfw.2.2 z.1]
        by_cases y : w % 2 = 0
        · rw [if_pos (by omega), if_pos y]
        · rw [if_neg (by omega), if_neg y]
      · rw [if_neg (fun y => z (hfw.2.1.1 y)), if_neg z, if_neg (by omega), if_neg (by omega), if_neg (by omega)]
  · refine fr_iconst 12 dX6_told_11 rfl ?_
    refine fr_iret dX6_told_12 rfl ?_
    exact ⟨congrArg some (by unfold aTold; rw [if_neg]; exact (i01 _).1 (by omega)), rfl⟩
