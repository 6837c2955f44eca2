/-! ===== the class: count ===== -/
set_option maxRecDepth 100000 in
set_option maxHeartbeats 3000000 in
theorem cK_countTuples {σ : fs_S} {A : ab} (hI : IC σ A) (hw : awf A) : fs_C mX6_countTuples 9 [.inr 26] σ (Q_C σ ((TL A.1).length : Int) A) := by
  refine fs_C.intro [some (.inr 26)] fs_oX6_countTuples (Nat.le_of_ble_eq_true rfl) rfl ?_
  obtain ⟨⟨a1, a2, a3, a4, a5, a6⟩, b2, b3⟩ := id hI
  refine fr_aload_n 1 dX6_countTuples_0 rfl rfl ?_
  refine fr_getr 4 62 dX6_countTuples_1 rfl fs_kX6_37 fs_l26 rfl ?_
  refine fr_callVv 7 (M2 := mX5_refresh) [] dX6_countTuples_4 rfl fs_mX6_169 fs_oX5_refresh fs_iX5_refresh fs_l62 rfl rfl (fs_Γ_rm (d := 8) (by decide)) (Nat.le_of_ble_eq_true rfl) rfl ?_
  refine (cK_refreshT hw.1 a1 a2 b3.1 b3.2).mono ?_
  rintro _ τ ⟨rfl, g1, g2, g3⟩
  have ic := hI.tv g1 g2 g3
  have e1 := (g1.at hw.1).1
  refine ⟨rfl, ?_⟩
  refine fr_aload_n 8 dX6_countTuples_7 rfl rfl ?_
  refine fr_getr 11 62 dX6_countTuples_8 rfl fs_kX6_37 fs_l26 rfl ?_
  refine fr_geti 14 1 dX6_countTuples_11 rfl fs_kX6_170 rfl fs_l62 rfl ?_
  refine fr_top e1 ?_
  refine fr_iret dX6_countTuples_14 rfl ?_
  exact ⟨rfl, ic, fun k i z => g3 k i (by omega) (by omega) (by omega)⟩
set_option maxRecDepth 100000 in
set_option maxHeartbeats 3000000 in
theorem cK_countEntries {σ : fs_S} {A : ab} (hI : IC σ A) (hw : awf A) : fs_C mX6_countEntries 9 [.inr 26] σ (Q_C σ (nEnt A.1 ((TL A.1).length : Int)) A) := by
  refine fs_C.intro [some (.inr 26), none, none] fs_oX6_countEntries (Nat.le_of_ble_eq_true rfl) rfl ?_
  obtain ⟨⟨a1, a2, a3, a4, a5, a6⟩, b2, b3⟩ := id hI
  have hlen : (TL A.1).length ≤ 1029 := lsK_len_le A.1 _
  have hn := hw.1.1
  have key : ∀ (τ : fs_S), IC τ A → TVc τ A.1 → (∀ k i, k < 26 → τ k i = σ k i) → ∀ (m : Nat) (i : Int), 0 ≤ i → i + (m : Int) = ((TL A.1).length : Int) → fs_W (fs_Γ 9 (Q_C σ (nEnt A.1 ((TL A.1).length : Int)) A)) mX6_countEntries 11 [some (.inr 26), some (.inl (nEnt A.1 i)), some (.inl i)] [] τ := by
    intro τ ic tv fr m
    obtain ⟨v1, v2⟩ := tv.at hw.1
    induction m with
    | zero =>
      intro i h0 h1
      refine fr_iload_n 12 dX6_countEntries_11 rfl rfl ?_
      refine fr_aload_n 13 dX6_countEntries_12 rfl rfl ?_
      refine fr_getr 16 62 dX6_countEntries_13 rfl fs_kX6_37 fs_l26 rfl ?_
      refine fr_geti 19 1 dX6_countEntries_16 rfl fs_kX6_170 rfl fs_l62 rfl ?_
      refine fr_top v1 ?_
      refine fr_icmp_ge 40 22 dX6_countEntries_19 rfl rfl (by omega) (by omega) (fun h19 => ?_) (fun h19 => ?_)
      · refine fr_iload_n 41 dX6_countEntries_40 rfl rfl ?_
        refine fr_iret dX6_countEntries_41 rfl ?_
        exact ⟨congrArg some (by rw [show i = ((TL A.1).length : Int) by omega]), ic, fr⟩
      · omega
    | succ m ih =>
      intro i h0 h1
      obtain ⟨t1, t2, t3⟩ := TL_at (t := A.1) hn.1 h0 (by omega)
      have q := (v2 _ _ t1).2.2.1
      rw [Int.toNat_of_nonneg h0] at q
      have st : nEnt A.1 (i + 1) = nEnt A.1 i + smI (fun r => eo A.1 r ((TL A.1).getD i.toNat (0, 0)).1) (tn A.1) := smI_s _ h0
      refine fr_iload_n 12 dX6_countEntries_11 rfl rfl ?_
      refine fr_aload_n 13 dX6_countEntries_12 rfl rfl ?_
      refine fr_getr 16 62 dX6_countEntries_13 rfl fs_kX6_37 fs_l26 rfl ?_
      refine fr_geti 19 1 dX6_countEntries_16 rfl fs_kX6_170 rfl fs_l62 rfl ?_
      refine fr_top v1 ?_
      refine fr_icmp_ge 40 22 dX6_countEntries_19 rfl rfl (by omega) (by omega) (fun h19 => ?_) (fun h19 => ?_)
      · omega
      · refine fr_iload_n 23 dX6_countEntries_22 rfl rfl ?_
        refine fr_aload_n 24 dX6_countEntries_23 rfl rfl ?_
        refine fr_getr 27 62 dX6_countEntries_24 rfl fs_kX6_37 fs_l26 rfl ?_
        refine fr_getr 30 63 dX6_countEntries_27 rfl fs_kX6_171 fs_l62 rfl ?_
        refine fr_iload_n 31 dX6_countEntries_30 rfl rfl ?_
        refine fr_iald 32 dX6_countEntries_31 rfl fs_l63 (by omega) ?_
        refine fr_top q ?_
        refine fr_iadd 33 dX6_countEntries_32 rfl ?_
        refine fr_top st.symm ?_
        refine fr_istore_n 34 [_, _, _] dX6_countEntries_33 rfl (Nat.le_of_ble_eq_true rfl) rfl ?_
        refine fr_iinc 37 [_, _, _] dX6_countEntries_34 rfl rfl rfl ?_
        refine fr_goto 11 dX6_countEntries_37 rfl ?_
        exact ih (i + 1) (by omega) (by omega)
  refine fr_aload_n 1 dX6_countEntries_0 rfl rfl ?_
  refine fr_getr 4 62 dX6_countEntries_1 rfl fs_kX6_37 fs_l26 rfl ?_
  refine fr_callVv 7 (M2 := mX5_refresh) [] dX6_countEntries_4 rfl fs_mX6_169 fs_oX5_refresh fs_iX5_refresh fs_l62 rfl rfl (fs_Γ_rm (d := 8) (by decide)) (Nat.le_of_ble_eq_true rfl) rfl ?_
  refine (cK_refreshT hw.1 a1 a2 b3.1 b3.2).mono ?_
  rintro _ τ ⟨rfl, g1, g2, g3⟩
  have ic := hI.tv g1 g2 g3
  refine ⟨rfl, ?_⟩
  refine fr_iconst 8 dX6_countEntries_7 rfl ?_
  refine fr_istore_n 9 [_, _, _] dX6_countEntries_8 rfl (Nat.le_of_ble_eq_true rfl) rfl ?_
  refine fr_iconst 10 dX6_countEntries_9 rfl ?_
  refine fr_istore_n 11 [_, _, _] dX6_countEntries_10 rfl (Nat.le_of_ble_eq_true rfl) rfl ?_
  exact key τ ic g1 (fun k i z => g3 k i (by omega) (by omega) (by omega)) (TL A.1).length 0 (Int.le_refl _) (by omega)
set_option maxRecDepth 100000 in
set_option maxHeartbeats 3000000 in
theorem cK_countIdle {σ : fs_S} {A : ab} (hI : IC σ A) (hw : awf A) : fs_C mX6_countIdle 11 [.inr 26] σ (Q_C σ (nIdle A.1 (tn A.1)) A) := by
  refine fs_C.intro [some (.inr 26), none, none] fs_oX6_countIdle (Nat.le_of_ble_eq_true rfl) rfl ?_
  obtain ⟨⟨a1, a2, a3, a4, a5, a6⟩, b2, b3⟩ := id hI
  have hn := hw.1.1
  have eall : smI (fun p => if 0 < S4 A.1 (gN A.1 (tod A.1 p)) then 0 else 1) (tn A.1) = nIdle A.1 (tn A.1) := sm_perm hn.1 (fun r => if 0 < S4 A.1 (gN A.1 r) then 0 else 1)
  have key : ∀ (τ : fs_S), IC τ A → AS τ A.1 (S4 A.1) → (∀ k i, k < 26 → τ k i = σ k i) → ∀ (m : Nat) (p : Int), 0 ≤ p → p + (m : Int) = tn A.1 → fs_W (fs_Γ 11 (Q_C σ (nIdle A.1 (tn A.1)) A)) mX6_countIdle 11 [some (.inr 26), some (.inl (smI (fun p => if 0 < S4 A.1 (gN A.1 (tod A.1 p)) then 0 else 1) p)), some (.inl p)] [] τ := by
    intro τ ic as fr m
    have e27 := ic.1.1.1
    induction m with
    | zero =>
      intro p h0 h1
      refine fr_iload_n 12 dX6_countIdle_11 rfl rfl ?_
      refine fr_aload_n 13 dX6_countIdle_12 rfl rfl ?_
      refine fr_getr 16 27 dX6_countIdle_13 rfl fs_kX6_10 fs_l26 rfl ?_
      refine fr_geti 19 0 dX6_countIdle_16 rfl fs_kX6_84 rfl fs_l27 rfl ?_
      refine fr_top e27 ?_
      refine fr_icmp_ge 43 22 dX6_countIdle_19 rfl rfl (by omega) (by omega) (fun h19 => ?_) (fun h19 => ?_)
      · refine fr_iload_n 44 dX6_countIdle_43 rfl rfl ?_
        refine fr_iret dX6_countIdle_44 rfl ?_
        exact ⟨congrArg some (by rw [show p = tn A.1 by omega]; exact eall), ic, fr⟩
      · omega
    | succ m ih =>
      intro p h0 h1
      have tr := tod_r (t := A.1) h0 (by omega)
      have gg := hN_gN hw.1 ⟨tr.1, tr.2.1⟩
      rw [tr.2.2] at gg
      have e50 : τ 50 p = (if 0 < S4 A.1 (gN A.1 (tod A.1 p)) then 1 else 0) := by
        obtain ⟨z0, z1, z2⟩ := as.2.1 p h0 (by omega)
        rw [gg] at z0 z1 z2
        by_cases z : 0 < S4 A.1 (gN A.1 (tod A.1 p))
        · rw [if_pos z]; exact z1 z
        · rw [if_neg z]; exact z2 (by omega)
      have nx := ih (p + 1) (by omega) (by omega)
      rw [smI_s _ h0] at nx
      refine fr_iload_n 12 dX6_countIdle_11 rfl rfl ?_
      refine fr_aload_n 13 dX6_countIdle_12 rfl rfl ?_
      refine fr_getr 16 27 dX6_countIdle_13 rfl fs_kX6_10 fs_l26 rfl ?_
      refine fr_geti 19 0 dX6_countIdle_16 rfl fs_kX6_84 rfl fs_l27 rfl ?_
      refine fr_top e27 ?_
      refine fr_icmp_ge 43 22 dX6_countIdle_19 rfl rfl (by omega) (by omega) (fun h19 => ?_) (fun h19 => ?_)
      · omega
      · refine fr_aload_n 23 dX6_countIdle_22 rfl rfl ?_
        refine fr_getr 26 48 dX6_countIdle_23 rfl fs_kX6_30 fs_l26 rfl ?_
        refine fr_getr 29 50 dX6_countIdle_26 rfl fs_kX6_147 fs_l48 rfl ?_
        refine fr_iload_n 30 dX6_countIdle_29 rfl rfl ?_
        refine fr_zald 31 dX6_countIdle_30 rfl fs_l50 (by omega) ?_
        refine fr_top e50 ?_
        refine fr_if_ne 37 34 dX6_countIdle_31 rfl rfl (by split <;> decide) (fun h31 => ?_) (fun h31 => ?_)
        · rw [if_pos ((i01' _).1 h31), Int.add_zero] at nx
          refine fr_iinc 40 [_, _, _] dX6_countIdle_37 rfl rfl rfl ?_
          refine fr_goto 11 dX6_countIdle_40 rfl ?_
          exact nx
        · rw [if_neg ((i01 _).1 (by omega))] at nx
          refine fr_iinc 37 [_, _, _] dX6_countIdle_34 rfl rfl rfl ?_
          refine fr_iinc 40 [_, _, _] dX6_countIdle_37 rfl rfl rfl ?_
          refine fr_goto 11 dX6_countIdle_40 rfl ?_
          exact nx
  refine fr_aload_n 1 dX6_countIdle_0 rfl rfl ?_
  refine fr_getr 4 48 dX6_countIdle_1 rfl fs_kX6_30 fs_l26 rfl ?_
  refine fr_callVv 7 (M2 := mX4_refresh) [] dX6_countIdle_4 rfl fs_mX6_134 fs_oX4_refresh fs_iX4_refresh fs_l48 rfl rfl (fs_Γ_rm (d := 10) (by decide)) (Nat.le_of_ble_eq_true rfl) rfl ?_
  refine (cK_refreshS hw.1 a1 a2 a3 b2.1 b2.2).mono ?_
  rintro _ τ ⟨rfl, g1, g2, g3⟩
  have ic := hI.sv g1 g2 g3
  refine ⟨rfl, ?_⟩
  refine fr_iconst 8 dX6_countIdle_7 rfl ?_
  refine fr_istore_n 9 [_, _, _] dX6_countIdle_8 rfl (Nat.le_of_ble_eq_true rfl) rfl ?_
  refine fr_iconst 10 dX6_countIdle_9 rfl ?_
  refine fr_istore_n 11 [_, _, _] dX6_countIdle_10 rfl (Nat.le_of_ble_eq_true rfl) rfl ?_
  exact key τ ic g1 (fun k i z => g3 k i (by omega) (by omega)) (tn A.1).toNat 0 (Int.le_refl _) (by omega)
set_option maxRecDepth 100000 in
set_option maxHeartbeats 3000000 in
theorem cK_countCovered {σ : fs_S} {A : ab} (hI : IC σ A) (hw : awf A) : fs_C mX6_countCovered 2 [.inr 26] σ (Q_C σ (nCov A.1 (tn A.1)) A) := by
  refine fs_C.intro [some (.inr 26), none, none] fs_oX6_countCovered (Nat.le_of_ble_eq_true rfl) rfl ?_
  obtain ⟨⟨a1, a2, a3, a4, a5, a6⟩, b2, b3⟩ := id hI
  have hn := hw.1.1
  have e27 := a1.1
  have key : ∀ (m : Nat) (r : Int), 0 ≤ r → r + (m : Int) = tn A.1 → fs_W (fs_Γ 2 (Q_C σ (nCov A.1 (tn A.1)) A)) mX6_countCovered 4 [some (.inr 26), some (.inl (nCov A.1 r)), some (.inl r)] [] σ := by
    intro m
    induction m with
    | zero =>
      intro r h0 h1
      refine fr_iload_n 5 dX6_countCovered_4 rfl rfl ?_
      refine fr_aload_n 6 dX6_countCovered_5 rfl rfl ?_
      refine fr_getr 9 27 dX6_countCovered_6 rfl fs_kX6_10 fs_l26 rfl ?_
      refine fr_geti 12 0 dX6_countCovered_9 rfl fs_kX6_84 rfl fs_l27 rfl ?_
      refine fr_top e27 ?_
      refine fr_icmp_ge 37 15 dX6_countCovered_12 rfl rfl (by omega) (by omega) (fun h12 => ?_) (fun h12 => ?_)
      · refine fr_iload_n 38 dX6_countCovered_37 rfl rfl ?_
        refine fr_iret dX6_countCovered_38 rfl ?_
        exact ⟨congrArg some (by rw [show r = tn A.1 by omega]), hI, fun _ _ _ => rfl⟩
      · omega
    | succ m ih =>
      intro r h0 h1
      have nx := ih (r + 1) (by omega) (by omega)
      have st : nCov A.1 (r + 1) = nCov A.1 r + (if 0 ≤ tcv A.1 r then 1 else 0) := smI_s _ h0
      have tr := tcv_r (t := A.1) (r := r) ⟨h0, by omega⟩
      rw [st] at nx
      refine fr_iload_n 5 dX6_countCovered_4 rfl rfl ?_
      refine fr_aload_n 6 dX6_countCovered_5 rfl rfl ?_
      refine fr_getr 9 27 dX6_countCovered_6 rfl fs_kX6_10 fs_l26 rfl ?_
      refine fr_geti 12 0 dX6_countCovered_9 rfl fs_kX6_84 rfl fs_l27 rfl ?_
      refine fr_top e27 ?_
      refine fr_icmp_ge 37 15 dX6_countCovered_12 rfl rfl (by omega) (by omega) (fun h12 => ?_) (fun h12 => ?_)
      · omega
      · refine fr_aload_n 16 dX6_countCovered_15 rfl rfl ?_
        refine fr_getr 19 27 dX6_countCovered_16 rfl fs_kX6_10 fs_l26 rfl ?_
        refine fr_iload_n 20 dX6_countCovered_19 rfl rfl ?_
        refine fr_callVi 23 (M2 := mX3_coverOf) [_] dX6_countCovered_20 rfl fs_mX6_144 fs_oX3_coverOf fs_iX3_coverOf fs_l27 rfl rfl (fs_Γ_rm (d := 1) (by decide)) (Nat.le_of_ble_eq_true rfl) rfl ?_
        refine (cK_coverOf hw.1 a1 a2 ⟨h0, by omega⟩).ci ?_
        refine fr_bipush 25 dX6_countCovered_23 rfl (by decide) ?_
        refine fr_icmp_eq 31 28 dX6_countCovered_25 rfl rfl (by omega) (by omega) (fun h25 => ?_) (fun h25 => ?_)
        · rw [if_neg (by omega), Int.add_zero] at nx
          refine fr_iinc 34 [_, _, _] dX6_countCovered_31 rfl rfl rfl ?_
          refine fr_goto 4 dX6_countCovered_34 rfl ?_
          exact nx
        · rw [if_pos (by omega)] at nx
          refine fr_iinc 31 [_, _, _] dX6_countCovered_28 rfl rfl rfl ?_
          refine fr_iinc 34 [_, _, _] dX6_countCovered_31 rfl rfl rfl ?_
          refine fr_goto 4 dX6_countCovered_34 rfl ?_
          exact nx
  refine fr_iconst 1 dX6_countCovered_0 rfl ?_
  refine fr_istore_n 2 [_, _, _] dX6_countCovered_1 rfl (Nat.le_of_ble_eq_true rfl) rfl ?_
  refine fr_iconst 3 dX6_countCovered_2 rfl ?_
  refine fr_istore_n 4 [_, _, _] dX6_countCovered_3 rfl (Nat.le_of_ble_eq_true rfl) rfl ?_
  exact key (tn A.1).toNat 0 (Int.le_refl _) (by omega)
set_option maxRecDepth 100000 in
set_option maxHeartbeats 3000000 in
theorem cK_keptImages {σ : fs_S} {A : ab} (hI : IC σ A) (hw : awf A) : fs_C mX6_keptImages 0 [.inr 26] σ (Q_C σ ((A.2.2.2 0).1 + 2 * (A.2.2.2 1).1) A) := by
  refine fs_C.intro [some (.inr 26), none, none] fs_oX6_keptImages (Nat.le_of_ble_eq_true rfl) rfl ?_
  obtain ⟨⟨a1, a2, a3, a4, a5, a6⟩, b2, b3⟩ := id hI
  have w0 := (hw.2.2.2 0 (by decide) (by decide)).1
  have w1 := (hw.2.2.2 1 (by decide) (by decide)).1
  have q0 : σ 78 0 = (A.2.2.2 0).1 := (a6 0 (by decide) (by decide)).1
  have q1 : σ 79 0 = (A.2.2.2 1).1 := (a6 1 (by decide) (by decide)).1
  have k2 : ∀ s : Int, s = (A.2.2.2 0).1 + 2 * (A.2.2.2 1).1 → fs_W (fs_Γ 0 (Q_C σ ((A.2.2.2 0).1 + 2 * (A.2.2.2 1).1) A)) mX6_keptImages 4 [some (.inr 26), some (.inl s), some (.inl 2)] [] σ := by
    intro s hs
    refine fr_iload_n 5 dX6_keptImages_4 rfl rfl ?_
    refine fr_iconst 6 dX6_keptImages_5 rfl ?_
    refine fr_icmp_ge 33 9 dX6_keptImages_6 rfl rfl (by omega) (by omega) (fun h6 => ?_) (fun h6 => ?_)
    · refine fr_iload_n 34 dX6_keptImages_33 rfl rfl ?_
      refine fr_iret dX6_keptImages_34 rfl ?_
      exact ⟨congrArg some hs, hI, fun _ _ _ => rfl⟩
    · omega
  have k1 : ∀ s : Int, s = (A.2.2.2 0).1 → fs_W (fs_Γ 0 (Q_C σ ((A.2.2.2 0).1 + 2 * (A.2.2.2 1).1) A)) mX6_keptImages 4 [some (.inr 26), some (.inl s), some (.inl 1)] [] σ := by
    intro s hs
    refine fr_iload_n 5 dX6_keptImages_4 rfl rfl ?_
    refine fr_iconst 6 dX6_keptImages_5 rfl ?_
    refine fr_icmp_ge 33 9 dX6_keptImages_6 rfl rfl (by omega) (by omega) (fun h6 => ?_) (fun h6 => ?_)
    · omega
    · refine fr_aload_n 10 dX6_keptImages_9 rfl rfl ?_
      refine fr_getr 13 77 dX6_keptImages_10 rfl fs_kX6_52 fs_l26 rfl ?_
      refine fr_iload_n 14 dX6_keptImages_13 rfl rfl ?_
      refine fr_aaldE 15 79 dX6_keptImages_14 rfl fs_l77 (by omega) (by omega) ?_
      refine fr_geti 18 0 dX6_keptImages_15 rfl fs_kX6_243 rfl fs_l79 rfl ?_
      refine fr_top q1 ?_
      refine fr_if_eq 27 21 dX6_keptImages_18 rfl rfl (by omega) (fun h18 => ?_) (fun h18 => ?_)
      · refine fr_iinc 30 [_, _, _] dX6_keptImages_27 rfl rfl rfl ?_
        refine fr_goto 4 dX6_keptImages_30 rfl ?_
        exact k2 _ (by omega)
      · refine fr_iload_n 22 dX6_keptImages_21 rfl rfl ?_
        refine fr_iconst 23 dX6_keptImages_22 rfl ?_
        refine fr_iload_n 24 dX6_keptImages_23 rfl rfl ?_
        refine fr_ishl 25 dX6_keptImages_24 rfl ?_
        refine fr_top (show fi_shl 1 1 = 2 by decide) ?_
        refine fr_iadd 26 dX6_keptImages_25 rfl ?_
        refine fr_istore_n 27 [_, _, _] dX6_keptImages_26 rfl (Nat.le_of_ble_eq_true rfl) rfl ?_
        refine fr_iinc 30 [_, _, _] dX6_keptImages_27 rfl rfl rfl ?_
        refine fr_goto 4 dX6_keptImages_30 rfl ?_
        exact k2 _ (by omega)
  have k0 : fs_W (fs_Γ 0 (Q_C σ ((A.2.2.2 0).1 + 2 * (A.2.2.2 1).1) A)) mX6_keptImages 4 [some (.inr 26), some (.inl 0), some (.inl 0)] [] σ := by
    refine fr_iload_n 5 dX6_keptImages_4 rfl rfl ?_
    refine fr_iconst 6 dX6_keptImages_5 rfl ?_
    refine fr_icmp_ge 33 9 dX6_keptImages_6 rfl rfl (by omega) (by omega) (fun h6 => ?_) (fun h6 => ?_)
    · omega
    · refine fr_aload_n 10 dX6_keptImages_9 rfl rfl ?_
      refine fr_getr 13 77 dX6_keptImages_10 rfl fs_kX6_52 fs_l26 rfl ?_
      refine fr_iload_n 14 dX6_keptImages_13 rfl rfl ?_
      refine fr_aaldE 15 78 dX6_keptImages_14 rfl fs_l77 (by omega) (by omega) ?_
      refine fr_geti 18 0 dX6_keptImages_15 rfl fs_kX6_243 rfl fs_l78 rfl ?_
      refine fr_top q0 ?_
      refine fr_if_eq 27 21 dX6_keptImages_18 rfl rfl (by omega) (fun h18 => ?_) (fun h18 => ?_)
      · refine fr_iinc 30 [_, _, _] dX6_keptImages_27 rfl rfl rfl ?_
        refine fr_goto 4 dX6_keptImages_30 rfl ?_
        exact k1 _ (by omega)
      · refine fr_iload_n 22 dX6_keptImages_21 rfl rfl ?_
        refine fr_iconst 23 dX6_keptImages_22 rfl ?_
        refine fr_iload_n 24 dX6_keptImages_23 rfl rfl ?_
        refine fr_ishl 25 dX6_keptImages_24 rfl ?_
        refine fr_top (show fi_shl 1 0 = 1 by decide) ?_
        refine fr_iadd 26 dX6_keptImages_25 rfl ?_
        refine fr_istore_n 27 [_, _, _] dX6_keptImages_26 rfl (Nat.le_of_ble_eq_true rfl) rfl ?_
        refine fr_iinc 30 [_, _, _] dX6_keptImages_27 rfl rfl rfl ?_
        refine fr_goto 4 dX6_keptImages_30 rfl ?_
        exact k1 _ (by omega)
  refine fr_iconst 1 dX6_keptImages_0 rfl ?_
  refine fr_istore_n 2 [_, _, _] dX6_keptImages_1 rfl (Nat.le_of_ble_eq_true rfl) rfl ?_
  refine fr_iconst 3 dX6_keptImages_2 rfl ?_
  refine fr_istore_n 4 [_, _, _] dX6_keptImages_3 rfl (Nat.le_of_ble_eq_true rfl) rfl ?_
  exact k0
set_option maxRecDepth 100000 in
set_option maxHeartbeats 3000000 in
theorem wK_count {σ : fs_S} {A : ab} {w : Int} (hI : IC σ A) (hw : awf A) (h1 : rg w) : fs_C mX6_count 12 [.inr 26, .inl w] σ (Q_C σ (aCount A w) A) := by
  refine fs_C.intro [some (.inr 26), some (.inl w)] fs_oX6_count (Nat.le_of_ble_eq_true rfl) rfl ?_
  obtain ⟨⟨a1, a2, a3, a4, a5, a6⟩, b2, b3⟩ := id hI
  have e27 := a1.1
  refine fr_iload_n 1 dX6_count_0 rfl rfl ?_
  rcases (by omega : (w = 0 ∨ w = 1 ∨ w = 2 ∨ w = 3 ∨ w = 4 ∨ w = 5 ∨ w = 6 ∨ w = 7) ∨ (w ≠ 0 ∧ w ≠ 1 ∧ w ≠ 2 ∧ w ≠ 3 ∧ w ≠ 4 ∧ w ≠ 5 ∧ w ≠ 6 ∧ w ≠ 7)) with (rfl | rfl | rfl | rfl | rfl | rfl | rfl | rfl) | hd1
  · refine fr_tblIn 48 dX6_count_1 (by decide) (by decide) (by decide) rfl rfl ?_
    refine fr_aload_n 49 dX6_count_48 rfl rfl ?_
    refine fr_getr 52 27 dX6_count_49 rfl fs_kX6_10 fs_l26 rfl ?_
    refine fr_geti 55 0 dX6_count_52 rfl fs_kX6_84 rfl fs_l27 rfl ?_
    refine fr_top e27 ?_
    refine fr_iret dX6_count_55 rfl ?_
    exact ⟨rfl, hI, fun _ _ _ => rfl⟩
  · refine fr_tblIn 56 dX6_count_1 (by decide) (by decide) (by decide) rfl rfl ?_
    refine fr_aload_n 57 dX6_count_56 rfl rfl ?_
    refine fr_callVi 60 (M2 := mX6_countTuples) [] dX6_count_57 rfl fs_mX6_247 fs_oX6_countTuples fs_iX6_countTuples fs_l26 rfl rfl (fs_Γ_rm (d := 9) (by decide)) (Nat.le_of_ble_eq_true rfl) rfl ?_
    refine (cK_countTuples hI hw).mono ?_
    rintro _ τ ⟨rfl, h2, h3⟩
    refine ⟨_, rfl, ?_⟩
    refine fr_iret dX6_count_60 rfl ?_
    exact ⟨rfl, h2, h3⟩
  · refine fr_tblIn 61 dX6_count_1 (by decide) (by decide) (by decide) rfl rfl ?_
    refine fr_aload_n 62 dX6_count_61 rfl rfl ?_
    refine fr_callVi 65 (M2 := mX6_countEntries) [] dX6_count_62 rfl fs_mX6_251 fs_oX6_countEntries fs_iX6_countEntries fs_l26 rfl rfl (fs_Γ_rm (d := 9) (by decide)) (Nat.le_of_ble_eq_true rfl) rfl ?_
    refine (cK_countEntries hI hw).mono ?_
    rintro _ τ ⟨rfl, h2, h3⟩
    refine ⟨_, rfl, ?_⟩
    refine fr_iret dX6_count_65 rfl ?_
    exact ⟨rfl, h2, h3⟩
  · refine fr_tblIn 66 dX6_count_1 (by decide) (by decide) (by decide) rfl rfl ?_
    refine fr_aload_n 67 dX6_count_66 rfl rfl ?_
    refine fr_getr 70 74 dX6_count_67 rfl fs_kX6_46 fs_l26 rfl ?_
    refine fr_geti 73 0 dX6_count_70 rfl fs_kX6_193 rfl fs_l74 rfl ?_
    refine fr_top a5.1 ?_
    refine fr_iret dX6_count_73 rfl ?_
    exact ⟨rfl, hI, fun _ _ _ => rfl⟩
  · refine fr_tblIn 74 dX6_count_1 (by decide) (by decide) (by decide) rfl rfl ?_
    refine fr_aload_n 75 dX6_count_74 rfl rfl ?_
    refine fr_getr 78 74 dX6_count_75 rfl fs_kX6_46 fs_l26 rfl ?_
    refine fr_geti 81 1 dX6_count_78 rfl fs_kX6_196 rfl fs_l74 rfl ?_
    refine fr_top a5.2 ?_
    refine fr_iret dX6_count_81 rfl ?_
    exact ⟨rfl, hI, fun _ _ _ => rfl⟩
  · refine fr_tblIn 82 dX6_count_1 (by decide) (by decide) (by decide) rfl rfl ?_
    refine fr_aload_n 83 dX6_count_82 rfl rfl ?_
    refine fr_callVi 86 (M2 := mX6_countIdle) [] dX6_count_83 rfl fs_mX6_254 fs_oX6_countIdle fs_iX6_countIdle fs_l26 rfl rfl (fs_Γ_rm (d := 11) (by decide)) (Nat.le_of_ble_eq_true rfl) rfl ?_
    refine (cK_countIdle hI hw).mono ?_
    rintro _ τ ⟨rfl, h2, h3⟩
    refine ⟨_, rfl, ?_⟩
    refine fr_iret dX6_count_86 rfl ?_
    exact ⟨rfl, h2, h3⟩
  · refine fr_tblIn 87 dX6_count_1 (by decide) (by decide) (by decide) rfl rfl ?_
    refine fr_aload_n 88 dX6_count_87 rfl rfl ?_
    refine fr_callVi 91 (M2 := mX6_countCovered) [] dX6_count_88 rfl fs_mX6_257 fs_oX6_countCovered fs_iX6_countCovered fs_l26 rfl rfl (fs_Γ_rm (d := 2) (by decide)) (Nat.le_of_ble_eq_true rfl) rfl ?_
    refine (cK_countCovered hI hw).mono ?_
    rintro _ τ ⟨rfl, h2, h3⟩
    refine ⟨_, rfl, ?_⟩
    refine fr_iret dX6_count_91 rfl ?_
    exact ⟨rfl, h2, h3⟩
  · refine fr_tblIn 92 dX6_count_1 (by decide) (by decide) (by decide) rfl rfl ?_
    refine fr_aload_n 93 dX6_count_92 rfl rfl ?_
    refine fr_callVi 96 (M2 := mX6_keptImages) [] dX6_count_93 rfl fs_mX6_260 fs_oX6_keptImages fs_iX6_keptImages fs_l26 rfl rfl (fs_Γ_rm (d := 0) (by decide)) (Nat.le_of_ble_eq_true rfl) rfl ?_
    refine (cK_keptImages hI hw).mono ?_
    rintro _ τ ⟨rfl, h2, h3⟩
    refine ⟨_, rfl, ?_⟩
    refine fr_iret dX6_count_96 rfl ?_
    exact ⟨rfl, h2, h3⟩
  · refine fr_tblOut 97 dX6_count_1 (by omega) (by omega) rfl ?_
    refine fr_bipush 99 dX6_count_97 rfl (by decide) ?_
    refine fr_iret dX6_count_99 rfl ?_
    refine ⟨congrArg some ?_, hI, fun _ _ _ => rfl⟩
    unfold aCount
    rw [if_neg (by omega), if_neg (by omega), if_neg (by omega), if_neg (by omega), if_neg (by omega), if_neg (by omega), if_neg (by omega), if_neg (by omega)]
