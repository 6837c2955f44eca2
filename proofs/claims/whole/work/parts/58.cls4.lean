/-! ===== the class: questions ===== -/
theorem IC.pure {σ : fs_S} {A : ab} {v : Int} (hI : IC σ A) (x : Option Int) (τ : fs_S) (h : x = some v ∧ τ = σ) : Q_C σ v A x τ := by
  obtain ⟨rfl, rfl⟩ := h
  exact ⟨rfl, hI, fun _ _ _ => rfl⟩
theorem wK_told {σ : fs_S} {A : ab} {r w : Int} (hI : IC σ A) (hw : awf A) (h1 : rg r) (h2 : rg w) : fs_C mX6_told 1 [.inr 26, .inl r, .inl w] σ (Q_C σ (aTold A.1 r w) A) := (cK_told hw.1 hI.1.1 hI.1.2.1 h1 h2).mono hI.pure
theorem wK_overlap {σ : fs_S} {A : ab} {r w : Int} (hI : IC σ A) (hw : awf A) (h1 : rg r) (h2 : rg w) : fs_C mX6_overlap 2 [.inr 26, .inl r, .inl w] σ (Q_C σ (aOverlap A.1 r w) A) := (cK_overlap hw.1 hI.1.1 h1 h2).mono hI.pure
theorem wK_covered {σ : fs_S} {A : ab} {r : Int} (hI : IC σ A) (hw : awf A) (h1 : rg r) : fs_C mX6_covered 2 [.inr 26, .inl r] σ (Q_C σ (aCovered A.1 r) A) := (cK_covered hw.1 hI.1.1 hI.1.2.1 h1).mono hI.pure
theorem wK_split {σ : fs_S} {A : ab} {r f : Int} (hI : IC σ A) (hw : awf A) (h1 : rg r) (h2 : rg f) : fs_C mX6_split 3 [.inr 26, .inl r, .inl f] σ (Q_C σ (aSplit A.1 r f) A) := (cK_split hw.1 hI.1.1 h1 h2).mono hI.pure
theorem wK_prefix {σ : fs_S} {A : ab} {r f i w : Int} (hI : IC σ A) (hw : awf A) (h1 : rg r) (h2 : rg f) (h3 : rg i) (h4 : rg w) : fs_C mX6_prefix 2 [.inr 26, .inl r, .inl f, .inl i, .inl w] σ (Q_C σ (aPrefix A.1 r f i w) A) := (cK_prefix hw.1 hI.1.1 h1 h2 h3 h4).mono hI.pure
theorem IC.packet {σ τ : fs_S} {A : ab} (hI : IC σ A) (hF : ∀ k i, k ≠ 82 → τ k i = σ k i) : IC τ A := hI.eq (fun k i _ _ _ _ _ z => hF k i (by omega))
set_option maxRecDepth 100000 in
set_option maxHeartbeats 3000000 in
theorem wK_first {σ : fs_S} {A : ab} {a b c d : Int} (hI : IC σ A) (hw : awf A) (h1 : rg a) (h2 : rg b) (h3 : rg c) (h4 : rg d) : fs_C mX6_first 2 [.inr 26, .inl a, .inl b, .inl c, .inl d] σ (Q_C σ (aFirst A.1 a b c d) A) := by
  refine fs_C.intro [some (.inr 26), some (.inl a), some (.inl b), some (.inl c), some (.inl d)] fs_oX6_first (Nat.le_of_ble_eq_true rfl) rfl ?_
  have cp := @cK_isPacket σ a b c d h1 h2 h3 h4
  by_cases ok : (0 ≤ a ∧ a ≤ 63) ∧ (0 ≤ b ∧ b ≤ 63) ∧ (0 ≤ c ∧ c ≤ 63) ∧ 0 ≤ d ∧ d ≤ 3
  · rw [if_pos ok] at cp
    have fl := tfit_lt hw.1 a b c d
    refine fr_iload_n 1 dX6_first_0 rfl rfl ?_
    refine fr_iload_n 2 dX6_first_1 rfl rfl ?_
    refine fr_iload_n 3 dX6_first_2 rfl rfl ?_
    refine fr_iload 5 dX6_first_3 rfl rfl ?_
    refine fr_callSi 8 (M2 := mX6_isPacket) [_, _, _, _] dX6_first_5 rfl fs_mX6_115 fs_oX6_isPacket fs_sX6_isPacket rfl (fs_Γ_rm (d := 1) (by decide)) (Nat.le_of_ble_eq_true rfl) rfl ?_
    refine cp.ci ?_
    refine fr_if_ne 14 11 dX6_first_8 rfl rfl (by omega) (fun h8 => ?_) (fun h8 => ?_)
    · refine fr_aload_n 15 dX6_first_14 rfl rfl ?_
      refine fr_iload_n 16 dX6_first_15 rfl rfl ?_
      refine fr_iload_n 17 dX6_first_16 rfl rfl ?_
      refine fr_iload_n 18 dX6_first_17 rfl rfl ?_
      refine fr_iload 20 dX6_first_18 rfl rfl ?_
      refine fr_callVv 23 (M2 := mX6_setPacket) [_, _, _, _] dX6_first_20 rfl fs_mX6_119 fs_oX6_setPacket fs_iX6_setPacket fs_l26 rfl rfl (fs_Γ_rm (d := 0) (by decide)) (Nat.le_of_ble_eq_true rfl) rfl ?_
      refine cK_setPacket.mono ?_
      rintro _ τ ⟨rfl, ⟨p0, p1, p2, p3⟩, hF⟩
      have ic := hI.packet hF
      have cf := cK_fitting hw.1 ic.1.1.1 ic.1.2.2.1 (fun f x y => by
        rcases (by omega : f = 0 ∨ f = 1 ∨ f = 2 ∨ f = 3) with rfl | rfl | rfl | rfl
        · rw [p0]; exact ok.1
        · rw [p1]; exact ok.2.1
        · rw [p2]; exact ok.2.2.1
        · rw [p3]; exact ok.2.2.2)
      rw [p0, p1, p2, p3] at cf
      refine ⟨rfl, ?_⟩
      refine fr_aload_n 24 dX6_first_23 rfl rfl ?_
      refine fr_aload_n 25 dX6_first_24 rfl rfl ?_
      refine fr_getr 28 42 dX6_first_25 rfl fs_kX6_21 fs_l26 rfl ?_
      refine fr_aload_n 29 dX6_first_28 rfl rfl ?_
      refine fr_getr 32 82 dX6_first_29 rfl fs_kX6_64 fs_l26 rfl ?_
      refine fr_callVi 35 (M2 := mX2_fitting) [_] dX6_first_32 rfl fs_mX6_123 fs_oX2_fitting fs_iX2_fitting fs_l42 rfl rfl (fs_Γ_rm (d := 1) (by decide)) (Nat.le_of_ble_eq_true rfl) rfl ?_
      refine cf.ci ?_
      refine fr_callSi 38 (M2 := mX6_lowestBit) [_] dX6_first_35 rfl fs_mX6_127 fs_oX6_lowestBit fs_sX6_lowestBit rfl (fs_Γ_rm (d := 1) (by decide)) (Nat.le_of_ble_eq_true rfl) rfl ?_
      refine (cK_lowestBit fl).ci ?_
      refine fr_callVi 41 (M2 := mX6_ruleAt) [_] dX6_first_38 rfl fs_mX6_131 fs_oX6_ruleAt fs_iX6_ruleAt fs_l26 rfl rfl (fs_Γ_rm (d := 0) (by decide)) (Nat.le_of_ble_eq_true rfl) rfl ?_
      refine (cK_ruleAt hw.1 ic.1.1.1 ic.1.2.1 ?_).mono ?_
      · by_cases z : tfit A.1 a b c d = 0
        · rw [if_pos z]; exact ⟨by decide, by decide⟩
        · obtain ⟨j, e1, e2, -⟩ := lowb_spec fl z
          rw [if_neg z, e1]; exact ⟨by omega, by omega⟩
      rintro _ ρ ⟨rfl, rfl⟩
      refine ⟨_, rfl, ?_⟩
      refine fr_iret dX6_first_41 rfl ?_
      refine ⟨congrArg some ?_, ic, fun k i z => hF k i (by omega)⟩
      unfold aFirst
      rw [if_pos ok]
      by_cases z : tfit A.1 a b c d = 0
      · rw [if_pos z, if_pos z]; rfl
      · obtain ⟨j, e1, e2, e3, -⟩ := lowb_spec fl z
        have := tfit_bit e3
        rw [if_neg z, if_neg z, if_pos ⟨by omega, by omega⟩]
    · exact absurd h8 (by decide)
  · rw [if_neg ok] at cp
    refine fr_iload_n 1 dX6_first_0 rfl rfl ?_
    refine fr_iload_n 2 dX6_first_1 rfl rfl ?_
    refine fr_iload_n 3 dX6_first_2 rfl rfl ?_
    refine fr_iload 5 dX6_first_3 rfl rfl ?_
    refine fr_callSi 8 (M2 := mX6_isPacket) [_, _, _, _] dX6_first_5 rfl fs_mX6_115 fs_oX6_isPacket fs_sX6_isPacket rfl (fs_Γ_rm (d := 1) (by decide)) (Nat.le_of_ble_eq_true rfl) rfl ?_
    refine cp.ci ?_
    refine fr_if_ne 14 11 dX6_first_8 rfl rfl (by omega) (fun h8 => ?_) (fun h8 => ?_)
    · exact absurd rfl h8
    · refine fr_bipush 13 dX6_first_11 rfl (by decide) ?_
      refine fr_iret dX6_first_13 rfl ?_
      exact ⟨congrArg some (by unfold aFirst; rw [if_neg ok]), hI, fun _ _ _ => rfl⟩
set_option maxRecDepth 100000 in
set_option maxHeartbeats 3000000 in
theorem wK_wins {σ : fs_S} {A : ab} {r : Int} (hI : IC σ A) (hw : awf A) (h1 : rg r) : fs_C mX6_wins 11 [.inr 26, .inl r] σ (Q_C σ (aWins A.1 r) A) := by
  refine fs_C.intro [some (.inr 26), some (.inl r)] fs_oX6_wins (Nat.le_of_ble_eq_true rfl) rfl ?_
  have hn := hw.1.1
  obtain ⟨⟨a1, a2, a3, a4, a5, a6⟩, b2, b3⟩ := id hI
  have ch := @cK_has σ A.1 r hw.1 a1.1 h1
  by_cases ok : 0 ≤ r ∧ r < tn A.1
  · rw [if_pos ok] at ch
    have pr := tpl_r (t := A.1) ok.1 ok.2
    refine fr_aload_n 1 dX6_wins_0 rfl rfl ?_
    refine fr_getr 4 27 dX6_wins_1 rfl fs_kX6_10 fs_l26 rfl ?_
    refine fr_iload_n 5 dX6_wins_4 rfl rfl ?_
    refine fr_callVi 8 (M2 := mX3_has) [_] dX6_wins_5 rfl fs_mX6_95 fs_oX3_has fs_iX3_has fs_l27 rfl rfl (fs_Γ_rm (d := 0) (by decide)) (Nat.le_of_ble_eq_true rfl) rfl ?_
    refine ch.ci ?_
    refine fr_if_ne 13 11 dX6_wins_8 rfl rfl (by omega) (fun h8 => ?_) (fun h8 => ?_)
    · refine fr_aload_n 14 dX6_wins_13 rfl rfl ?_
      refine fr_getr 17 48 dX6_wins_14 rfl fs_kX6_30 fs_l26 rfl ?_
      refine fr_callVv 20 (M2 := mX4_refresh) [] dX6_wins_17 rfl fs_mX6_134 fs_oX4_refresh fs_iX4_refresh fs_l48 rfl rfl (fs_Γ_rm (d := 10) (by decide)) (Nat.le_of_ble_eq_true rfl) rfl ?_
      refine (cK_refreshS hw.1 a1 a2 a3 b2.1 b2.2).mono ?_
      rintro _ τ ⟨rfl, g1, g2, g3⟩
      have ic := hI.sv g1 g2 g3
      have e33 : τ 33 r = tpl A.1 r := ic.1.2.1.2 r ok.1 ok.2
      have e49 : τ 49 (tpl A.1 r) = S4 A.1 (gW A.1 r) := (g1.1 _ pr.1 (by omega)).trans (hW_gW hw.1 ok)
      refine ⟨rfl, ?_⟩
      refine fr_aload_n 21 dX6_wins_20 rfl rfl ?_
      refine fr_getr 24 48 dX6_wins_21 rfl fs_kX6_30 fs_l26 rfl ?_
      refine fr_getr 27 49 dX6_wins_24 rfl fs_kX6_137 fs_l48 rfl ?_
      refine fr_aload_n 28 dX6_wins_27 rfl rfl ?_
      refine fr_getr 31 27 dX6_wins_28 rfl fs_kX6_10 fs_l26 rfl ?_
      refine fr_getr 34 33 dX6_wins_31 rfl fs_kX6_105 fs_l27 rfl ?_
      refine fr_iload_n 35 dX6_wins_34 rfl rfl ?_
      refine fr_iald 36 dX6_wins_35 rfl fs_l33 (by omega) ?_
      refine fr_top e33 ?_
      refine fr_iald 37 dX6_wins_36 rfl fs_l49 (by omega) ?_
      refine fr_top e49 ?_
      refine fr_iret dX6_wins_37 rfl ?_
      exact ⟨congrArg some (by unfold aWins; rw [if_pos ok]), ic, fun k i z => g3 k i (by omega) (by omega)⟩
    · exact absurd h8 (by decide)
  · rw [if_neg ok] at ch
    refine fr_aload_n 1 dX6_wins_0 rfl rfl ?_
    refine fr_getr 4 27 dX6_wins_1 rfl fs_kX6_10 fs_l26 rfl ?_
    refine fr_iload_n 5 dX6_wins_4 rfl rfl ?_
    refine fr_callVi 8 (M2 := mX3_has) [_] dX6_wins_5 rfl fs_mX6_95 fs_oX3_has fs_iX3_has fs_l27 rfl rfl (fs_Γ_rm (d := 0) (by decide)) (Nat.le_of_ble_eq_true rfl) rfl ?_
    refine ch.ci ?_
    refine fr_if_ne 13 11 dX6_wins_8 rfl rfl (by omega) (fun h8 => ?_) (fun h8 => ?_)
    · exact absurd rfl h8
    · refine fr_iconst 12 dX6_wins_11 rfl ?_
      refine fr_iret dX6_wins_12 rfl ?_
      exact ⟨congrArg some (by unfold aWins; rw [if_neg ok]), hI, fun _ _ _ => rfl⟩
set_option maxRecDepth 100000 in
set_option maxHeartbeats 3000000 in
theorem wK_idle {σ : fs_S} {A : ab} {r : Int} (hI : IC σ A) (hw : awf A) (h1 : rg r) : fs_C mX6_idle 11 [.inr 26, .inl r] σ (Q_C σ (aIdle A.1 r) A) := by
  refine fs_C.intro [some (.inr 26), some (.inl r)] fs_oX6_idle (Nat.le_of_ble_eq_true rfl) rfl ?_
  have hn := hw.1.1
  obtain ⟨⟨a1, a2, a3, a4, a5, a6⟩, b2, b3⟩ := id hI
  have ch := @cK_has σ A.1 r hw.1 a1.1 h1
  by_cases ok : 0 ≤ r ∧ r < tn A.1
  · rw [if_pos ok] at ch
    have pr := tpl_r (t := A.1) ok.1 ok.2
    have gg := hN_gN hw.1 ok
    refine fr_aload_n 1 dX6_idle_0 rfl rfl ?_
    refine fr_getr 4 27 dX6_idle_1 rfl fs_kX6_10 fs_l26 rfl ?_
    refine fr_iload_n 5 dX6_idle_4 rfl rfl ?_
    refine fr_callVi 8 (M2 := mX3_has) [_] dX6_idle_5 rfl fs_mX6_95 fs_oX3_has fs_iX3_has fs_l27 rfl rfl (fs_Γ_rm (d := 0) (by decide)) (Nat.le_of_ble_eq_true rfl) rfl ?_
    refine ch.ci ?_
    refine fr_if_ne 13 11 dX6_idle_8 rfl rfl (by omega) (fun h8 => ?_) (fun h8 => ?_)
    · refine fr_aload_n 14 dX6_idle_13 rfl rfl ?_
      refine fr_getr 17 48 dX6_idle_14 rfl fs_kX6_30 fs_l26 rfl ?_
      refine fr_callVv 20 (M2 := mX4_refresh) [] dX6_idle_17 rfl fs_mX6_134 fs_oX4_refresh fs_iX4_refresh fs_l48 rfl rfl (fs_Γ_rm (d := 10) (by decide)) (Nat.le_of_ble_eq_true rfl) rfl ?_
      refine (cK_refreshS hw.1 a1 a2 a3 b2.1 b2.2).mono ?_
      rintro _ τ ⟨rfl, g1, g2, g3⟩
      have ic := hI.sv g1 g2 g3
      have e33 : τ 33 r = tpl A.1 r := ic.1.2.1.2 r ok.1 ok.2
      have e50 : τ 50 (tpl A.1 r) = (if 0 < S4 A.1 (gN A.1 r) then 1 else 0) := by
        obtain ⟨z0, z1, z2⟩ := g1.2.1 _ pr.1 (by omega : tpl A.1 r < 16)
        rw [gg] at z0 z1 z2
        by_cases z : 0 < S4 A.1 (gN A.1 r)
        · rw [if_pos z]; exact z1 z
        · rw [if_neg z]; exact z2 (by omega)
      refine ⟨rfl, ?_⟩
      refine fr_aload_n 21 dX6_idle_20 rfl rfl ?_
      refine fr_getr 24 48 dX6_idle_21 rfl fs_kX6_30 fs_l26 rfl ?_
      refine fr_getr 27 50 dX6_idle_24 rfl fs_kX6_147 fs_l48 rfl ?_
      refine fr_aload_n 28 dX6_idle_27 rfl rfl ?_
      refine fr_getr 31 27 dX6_idle_28 rfl fs_kX6_10 fs_l26 rfl ?_
      refine fr_getr 34 33 dX6_idle_31 rfl fs_kX6_105 fs_l27 rfl ?_
      refine fr_iload_n 35 dX6_idle_34 rfl rfl ?_
      refine fr_iald 36 dX6_idle_35 rfl fs_l33 (by omega) ?_
      refine fr_top e33 ?_
      refine fr_zald 37 dX6_idle_36 rfl fs_l50 (by omega) ?_
      refine fr_top e50 ?_
      refine fr_if_eq 44 40 dX6_idle_37 rfl rfl (by split <;> decide) (fun h37 => ?_) (fun h37 => ?_)
      · refine fr_iconst 45 dX6_idle_44 rfl ?_
        refine fr_iret dX6_idle_45 rfl ?_
        refine ⟨congrArg some ?_, ic, fun k i z => g3 k i (by omega) (by omega)⟩
        unfold aIdle
        rw [if_pos ok]
        first
        | (rw [if_neg ((i01 _).1 h37)])
        | (rw [if_pos ((i01' _).1 h37)])
      · refine fr_iconst 41 dX6_idle_40 rfl ?_
        refine fr_goto 45 dX6_idle_41 rfl ?_
        refine fr_iret dX6_idle_45 rfl ?_
        refine ⟨congrArg some ?_, ic, fun k i z => g3 k i (by omega) (by omega)⟩
        unfold aIdle
        rw [if_pos ok]
        first
        | (rw [if_neg ((i01 _).1 h37)])
        | (rw [if_pos ((i01' _).1 h37)])
    · exact absurd h8 (by decide)
  · rw [if_neg ok] at ch
    refine fr_aload_n 1 dX6_idle_0 rfl rfl ?_
    refine fr_getr 4 27 dX6_idle_1 rfl fs_kX6_10 fs_l26 rfl ?_
    refine fr_iload_n 5 dX6_idle_4 rfl rfl ?_
    refine fr_callVi 8 (M2 := mX3_has) [_] dX6_idle_5 rfl fs_mX6_95 fs_oX3_has fs_iX3_has fs_l27 rfl rfl (fs_Γ_rm (d := 0) (by decide)) (Nat.le_of_ble_eq_true rfl) rfl ?_
    refine ch.ci ?_
    refine fr_if_ne 13 11 dX6_idle_8 rfl rfl (by omega) (fun h8 => ?_) (fun h8 => ?_)
    · exact absurd rfl h8
    · refine fr_iconst 12 dX6_idle_11 rfl ?_
      refine fr_iret dX6_idle_12 rfl ?_
      exact ⟨congrArg some (by unfold aIdle; rw [if_neg ok]), hI, fun _ _ _ => rfl⟩
set_option maxRecDepth 100000 in
set_option maxHeartbeats 3000000 in
theorem wK_packets {σ : fs_S} {A : ab} {w : Int} (hI : IC σ A) (hw : awf A) (h1 : rg w) : fs_C mX6_packets 11 [.inr 26, .inl w] σ (Q_C σ (aPackets A.1 w) A) := by
  refine fs_C.intro [some (.inr 26), some (.inl w)] fs_oX6_packets (Nat.le_of_ble_eq_true rfl) rfl ?_
  obtain ⟨⟨a1, a2, a3, a4, a5, a6⟩, b2, b3⟩ := id hI
  have k15 : (-1 ≤ w ∧ w ≤ 9) → fs_W (fs_Γ 11 (Q_C σ (aPackets A.1 w) A)) mX6_packets 15 [some (.inr 26), some (.inl w)] [] σ := by
    intro ok
    refine fr_aload_n 16 dX6_packets_15 rfl rfl ?_
    refine fr_getr 19 48 dX6_packets_16 rfl fs_kX6_30 fs_l26 rfl ?_
    refine fr_callVv 22 (M2 := mX4_refresh) [] dX6_packets_19 rfl fs_mX6_134 fs_oX4_refresh fs_iX4_refresh fs_l48 rfl rfl (fs_Γ_rm (d := 10) (by decide)) (Nat.le_of_ble_eq_true rfl) rfl ?_
    refine (cK_refreshS hw.1 a1 a2 a3 b2.1 b2.2).mono ?_
    rintro _ τ ⟨rfl, g1, g2, g3⟩
    have ic := hI.sv g1 g2 g3
    have e1 : τ 48 1 = S4 A.1 (gD A.1 10) := g1.2.2.trans (hZ_gD hw.1)
    refine ⟨rfl, ?_⟩
    refine fr_iload_n 23 dX6_packets_22 rfl rfl ?_
    refine fr_iconst 24 dX6_packets_23 rfl ?_
    refine fr_icmp_ne 37 27 dX6_packets_24 rfl rfl (by omega) (by omega) (fun h24 => ?_) (fun h24 => ?_)
    · refine fr_aload_n 38 dX6_packets_37 rfl rfl ?_
      refine fr_getr 41 48 dX6_packets_38 rfl fs_kX6_30 fs_l26 rfl ?_
      refine fr_iload_n 42 dX6_packets_41 rfl rfl ?_
      refine fr_callVi 45 (M2 := mX4_wonByAction) [_] dX6_packets_42 rfl fs_mX6_154 fs_oX4_wonByAction fs_iX4_wonByAction fs_l48 rfl rfl (fs_Γ_rm (d := 1) (by decide)) (Nat.le_of_ble_eq_true rfl) rfl ?_
      refine (cK_wonByAction hw.1 ic.1.1 ic.1.2.1 g1 (by omega)).ci ?_
      refine fr_iret dX6_packets_45 rfl ?_
      refine ⟨congrArg some ?_, ic, fun k i z => g3 k i (by omega) (by omega)⟩
      unfold aPackets
      rw [if_pos ok]
      first
      | (rw [if_pos (by omega)])
      | (rw [if_neg (by omega)])
    · refine fr_aload_n 28 dX6_packets_27 rfl rfl ?_
      refine fr_getr 31 48 dX6_packets_28 rfl fs_kX6_30 fs_l26 rfl ?_
      refine fr_geti 34 1 dX6_packets_31 rfl fs_kX6_151 rfl fs_l48 rfl ?_
      refine fr_top e1 ?_
      refine fr_goto 45 dX6_packets_34 rfl ?_
      refine fr_iret dX6_packets_45 rfl ?_
      refine ⟨congrArg some ?_, ic, fun k i z => g3 k i (by omega) (by omega)⟩
      unfold aPackets
      rw [if_pos ok]
      first
      | (rw [if_pos (by omega)])
      | (rw [if_neg (by omega)])
  refine fr_iload_n 1 dX6_packets_0 rfl rfl ?_
  refine fr_iconst 2 dX6_packets_1 rfl ?_
  refine fr_icmp_eq 15 5 dX6_packets_2 rfl rfl (by omega) (by omega) (fun h2 => ?_) (fun h2 => ?_)
  · first
    | exact k15 (by omega)
    | exact k15 (by have := (i01' _).1 h9; omega)
  · refine fr_iload_n 6 dX6_packets_5 rfl rfl ?_
    refine fr_callSi 9 (M2 := mX6_isAction) [_] dX6_packets_6 rfl fs_mX6_81 fs_oX6_isAction fs_sX6_isAction rfl (fs_Γ_rm (d := 0) (by decide)) (Nat.le_of_ble_eq_true rfl) rfl ?_
    refine (cK_isAction h1).ci ?_
    refine fr_if_ne 15 12 dX6_packets_9 rfl rfl (by split <;> decide) (fun h9 => ?_) (fun h9 => ?_)
    · first
      | exact k15 (by omega)
      | exact k15 (by have := (i01' _).1 h9; omega)
    · refine fr_bipush 14 dX6_packets_12 rfl (by decide) ?_
      refine fr_iret dX6_packets_14 rfl ?_
      have z := (i01 _).1 h9
      exact ⟨congrArg some (by unfold aPackets; rw [if_neg (by omega)]), hI, fun _ _ _ => rfl⟩
