/-! ===== the model: sweep, wins, idle, packets ===== -/
set_option maxRecDepth 100000 in
set_option maxHeartbeats 1500000 in
theorem cM_sweep {σ : fs_S} {t : rt} (hw : twf t) (hR : RM σ t) (hb : σ 0 7 = 0 ∨ σ 0 7 = 1) (hv : σ 0 7 = 1 → OV σ t) (hb8 : σ 0 8 = 0 ∨ σ 0 8 = 1) (hv8 : σ 0 8 = 1 → AC σ t (S4 t)) : fs_C mX7_sweep 3 [.inr 0] σ (Q_sw t σ) := by
  refine fs_C.intro [some (.inr 0), none, none, none, none, none, none, none] fs_oX7_sweep (Nat.le_of_ble_eq_true rfl) rfl ?_
  have kB : ∀ (m : Nat) (k : Int) (τ : fs_S), 0 ≤ k → k ≤ 11 → 11 - k < m → OV τ t → τ 0 7 = 1 → τ 0 8 = 1 → frS σ τ → (∀ i, 0 ≤ i → i < 16 → τ 10 i = 0 ∧ τ 11 i = 0) → (∀ i, 0 ≤ i → i < k → τ 12 i = 0) →
      fs_W (fs_Γ 3 (Q_sw t σ)) mX7_sweep 47 [some (.inr 0), some (.inl k), none, none, none, none, none, none] [] τ := by
    intro m
    induction m with
    | zero => intro k τ h0 h1 h2; omega
    | succ m ih =>
      intro k τ h0 h1 h2 hO h7 h8 hF hz hd
      refine fr_iload_n 48 dX7_sweep_47 rfl rfl ?_
      refine fr_bipush 50 dX7_sweep_48 rfl (by decide) ?_
      refine fr_icmp_ge 66 53 dX7_sweep_50 rfl rfl (by omega) (by omega) (fun h50 => ?_) (fun h50 => ?_)
      · refine fr_aload_n 67 dX7_sweep_66 rfl rfl ?_
        refine fr_callVv 70 (M2 := mX7_layStretches) [] dX7_sweep_67 rfl fs_mX7_161 fs_oX7_layStretches fs_iX7_layStretches fs_l0 rfl rfl (fs_Γ_rm (d := 2) (by decide)) (Nat.le_of_ble_eq_true rfl) rfl ?_
        refine (cM_layStretches hw hO.2).mono ?_
        rintro _ ρ ⟨rfl, hS, hF2⟩
        refine ⟨rfl, ?_⟩
        refine fr_iconst 71 dX7_sweep_70 rfl ?_
        refine fr_istore_n 72 [_, _, _, _, _, _, _, _] dX7_sweep_71 rfl (Nat.le_of_ble_eq_true rfl) rfl ?_
        refine cM_sweepL hw (hR.eq hw ?_ (fun k i a b _ _ => ?_)) (hO.eq (fun k x h => hF2 k x (by omega) (by omega) (by omega))) ?_ ?_ (fun k x a b => ?_) hS ⟨fun i a b => ?_, fun i a b => ?_, fun i a b => ?_⟩ _ _ _ _ _ _
        · rw [hF2 _ _ (by decide) (by decide) (by decide)]; exact hF _ _ (by decide) (by decide)
        · rw [hF2 _ _ (by omega) (by omega) (by omega)]; exact hF _ _ (by omega) (by omega)
        · rw [hF2 _ _ (by decide) (by decide) (by decide)]; exact h7
        · rw [hF2 _ _ (by decide) (by decide) (by decide)]; exact h8
        · rw [hF2 _ _ (by omega) (by omega) (by omega)]; exact hF k x a b
        · rw [hF2 _ _ (by decide) (by decide) (by decide)]; exact (hz i a b).1
        · rw [hF2 _ _ (by decide) (by decide) (by decide)]; exact ⟨Int.le_refl _, fun z => absurd z (Int.lt_irrefl 0), fun _ => (hz i a b).2⟩
        · rw [hF2 _ _ (by decide) (by decide) (by decide)]; exact hd i a (by omega)
      · refine fr_aload_n 54 dX7_sweep_53 rfl rfl ?_
        refine fr_getr 57 12 dX7_sweep_54 rfl fs_kX7_51 fs_l0 rfl ?_
        refine fr_iload_n 58 dX7_sweep_57 rfl rfl ?_
        refine fr_iconst 59 dX7_sweep_58 rfl ?_
        refine fr_iast 60 dX7_sweep_59 rfl fs_l12 (by omega) ?_
        refine fr_iinc 63 [_, _, _, _, _, _, _, _] dX7_sweep_60 rfl rfl rfl ?_
        refine fr_goto 47 dX7_sweep_63 rfl ?_
        exact ih (k + 1) _ (by omega) (by omega) (by omega) (hO.eq (fun k x h => fs_u_k _ _ (by omega))) (by rw [fs_u_k _ _ (by decide)]; exact h7) (by rw [fs_u_k _ _ (by decide)]; exact h8) (fun k x a b => by rw [fs_u_k _ _ (by omega)]; exact hF k x a b) (fun i a b => ⟨by rw [fs_u_k _ _ (by decide)]; exact (hz i a b).1, by rw [fs_u_k _ _ (by decide)]; exact (hz i a b).2⟩) (fun i a b => by
          by_cases e : i = k
          · rw [e]; exact fs_u_eq _ _ _ _
          · rw [fs_u_i _ e]; exact hd i a (by omega))
  have kA : ∀ (m : Nat) (k : Int) (τ : fs_S), 0 ≤ k → k ≤ 16 → 16 - k < m → OV τ t → τ 0 7 = 1 → τ 0 8 = 1 → frS σ τ → (∀ i, 0 ≤ i → i < k → τ 10 i = 0 ∧ τ 11 i = 0) →
      fs_W (fs_Γ 3 (Q_sw t σ)) mX7_sweep 19 [some (.inr 0), some (.inl k), none, none, none, none, none, none] [] τ := by
    intro m
    induction m with
    | zero => intro k τ h0 h1 h2; omega
    | succ m ih =>
      intro k τ h0 h1 h2 hO h7 h8 hF hz
      refine fr_iload_n 20 dX7_sweep_19 rfl rfl ?_
      refine fr_bipush 22 dX7_sweep_20 rfl (by decide) ?_
      refine fr_icmp_ge 45 25 dX7_sweep_22 rfl rfl (by omega) (by omega) (fun h22 => ?_) (fun h22 => ?_)
      · refine fr_iconst 46 dX7_sweep_45 rfl ?_
        refine fr_istore_n 47 [_, _, _, _, _, _, _, _] dX7_sweep_46 rfl (Nat.le_of_ble_eq_true rfl) rfl ?_
        exact kB 12 0 _ (by omega) (by omega) (by omega) hO h7 h8 hF (fun i a b => hz i a (by omega)) (fun i a b => by omega)
      · refine fr_aload_n 26 dX7_sweep_25 rfl rfl ?_
        refine fr_getr 29 10 dX7_sweep_26 rfl fs_kX7_44 fs_l0 rfl ?_
        refine fr_iload_n 30 dX7_sweep_29 rfl rfl ?_
        refine fr_iconst 31 dX7_sweep_30 rfl ?_
        refine fr_iast 32 dX7_sweep_31 rfl fs_l10 (by omega) ?_
        refine fr_aload_n 33 dX7_sweep_32 rfl rfl ?_
        refine fr_getr 36 11 dX7_sweep_33 rfl fs_kX7_47 fs_l0 rfl ?_
        refine fr_iload_n 37 dX7_sweep_36 rfl rfl ?_
        refine fr_iconst 38 dX7_sweep_37 rfl ?_
        refine fr_zast 39 dX7_sweep_38 rfl fs_l11 (by omega) (by omega) ?_
        refine fr_iinc 42 [_, _, _, _, _, _, _, _] dX7_sweep_39 rfl rfl rfl ?_
        refine fr_goto 19 dX7_sweep_42 rfl ?_
        exact ih (k + 1) _ (by omega) (by omega) (by omega) (hO.eq (fun k x h => by rw [fs_u_k _ _ (by omega), fs_u_k _ _ (by omega)])) (by rw [fs_u_k _ _ (by decide), fs_u_k _ _ (by decide)]; exact h7) (by rw [fs_u_k _ _ (by decide), fs_u_k _ _ (by decide)]; exact h8) (fun k x a b => by rw [fs_u_k _ _ (by omega), fs_u_k _ _ (by omega)]; exact hF k x a b) (fun i a b => by
          by_cases e : i = k
          · rw [e]; exact ⟨by rw [fs_u_k _ _ (by decide)]; exact fs_u_eq _ _ _ _, fs_u_eq _ _ _ _⟩
          · rw [fs_u_k _ _ (by decide), fs_u_i _ e, fs_u_i _ e, fs_u_k _ _ (by decide)]; exact hz i a (by omega))
  refine fr_aload_n 1 dX7_sweep_0 rfl rfl ?_
  refine fr_callVv 4 (M2 := mX7_order) [] dX7_sweep_1 rfl fs_mX7_147 fs_oX7_order fs_iX7_order fs_l0 rfl rfl (fs_Γ_rm (d := 2) (by decide)) (Nat.le_of_ble_eq_true rfl) rfl ?_
  refine (cM_order hw hR hb hv).mono ?_
  rintro _ τ ⟨rfl, hO, h7, hF⟩
  refine ⟨rfl, ?_⟩
  have e8 : τ 0 8 = σ 0 8 := hF _ _ (by decide) (by decide) (by decide)
  refine fr_aload_n 5 dX7_sweep_4 rfl rfl ?_
  refine fr_geti 8 8 dX7_sweep_5 rfl fs_kX7_115 rfl fs_l0 rfl ?_
  refine fr_if_eq 12 11 dX7_sweep_8 rfl rfl (by omega) (fun h8 => ?_) (fun h8 => ?_)
  · refine fr_aload_n 13 dX7_sweep_12 rfl rfl ?_
    refine fr_iconst 14 dX7_sweep_13 rfl ?_
    refine fr_putz 17 8 dX7_sweep_14 rfl fs_kX7_115 fs_pX7_8 rfl fs_l0 rfl (by omega) ?_
    refine fr_iconst 18 dX7_sweep_17 rfl ?_
    refine fr_istore_n 19 [_, _, _, _, _, _, _, _] dX7_sweep_18 rfl (Nat.le_of_ble_eq_true rfl) rfl ?_
    exact kA 17 0 _ (by omega) (by omega) (by omega) (hO.eq (fun k x h => fs_u_ne _ (by omega))) (by rw [fs_u_ne _ (by decide)]; exact h7) (fs_u_eq _ _ _ _) (fun k x a b => by rw [fs_u_ne _ (by omega)]; exact hF k x (by omega) (by omega) (by omega)) (fun i a b => by omega)
  · refine fr_vret dX7_sweep_11 rfl ?_
    exact ⟨rfl, (hv8 (by omega)).eq (fun k i h => hF k i (by omega) (by omega) (by omega)), hO, h7, by omega, fun k i a b => hF k i (by omega) (by omega) (by omega)⟩
def aWins (t : rt) (r : Int) : Int := if 0 ≤ r ∧ r < tn t then S4 t (gW t r) else -1
def aIdle (t : rt) (r : Int) : Int := if 0 ≤ r ∧ r < tn t then (if 0 < S4 t (gN t r) then 0 else 1) else -1
def aPackets (t : rt) (x : Int) : Int := if -1 ≤ x ∧ x ≤ 9 then S4 t (gD t (if x < 0 then 10 else x)) else -2
abbrev Q_swA (t : rt) (σ : fs_S) (v : Int) : fs_Q := fun x τ => x = some v ∧ (τ = σ ∨ AC τ t (S4 t) ∧ OV τ t ∧ τ 0 7 = 1 ∧ τ 0 8 = 1 ∧ frS σ τ)
set_option maxRecDepth 100000 in
set_option maxHeartbeats 1500000 in
theorem cM_wins {σ : fs_S} {t : rt} {r : Int} (hw : twf t) (hR : RM σ t) (hb : σ 0 7 = 0 ∨ σ 0 7 = 1) (hv : σ 0 7 = 1 → OV σ t) (hb8 : σ 0 8 = 0 ∨ σ 0 8 = 1) (hv8 : σ 0 8 = 1 → AC σ t (S4 t)) (hr : rg r) : fs_C mX7_wins 4 [.inr 0, .inl r] σ (Q_swA t σ (aWins t r)) := by
  refine fs_C.intro [some (.inr 0), some (.inl r)] fs_oX7_wins (Nat.le_of_ble_eq_true rfl) rfl ?_
  have hn := hw.1
  refine fr_aload_n 1 dX7_wins_0 rfl rfl ?_
  refine fr_iload_n 2 dX7_wins_1 rfl rfl ?_
  refine fr_callVi 5 (M2 := mX7_isRule) [_] dX7_wins_2 rfl fs_mX7_134 fs_oX7_isRule fs_iX7_isRule fs_l0 rfl rfl (fs_Γ_rm (d := 1) (by decide)) (Nat.le_of_ble_eq_true rfl) rfl ?_
  refine (cM_isRule hR.1 hn hr).ci ?_
  refine fr_if_ne 10 8 dX7_wins_5 rfl rfl (by omega) (fun h5 => ?_) (fun h5 => ?_)
  · refine fr_aload_n 11 dX7_wins_10 rfl rfl ?_
    refine fr_callVv 14 (M2 := mX7_sweep) [] dX7_wins_11 rfl fs_mX7_168 fs_oX7_sweep fs_iX7_sweep fs_l0 rfl rfl (fs_Γ_rm (d := 3) (by decide)) (Nat.le_of_ble_eq_true rfl) rfl ?_
    refine (cM_sweep hw hR hb hv hb8 hv8).mono ?_
    rintro _ τ ⟨rfl, hA, hq⟩
    refine ⟨rfl, ?_⟩
    refine fr_aload_n 15 dX7_wins_14 rfl rfl ?_
    refine fr_getr 18 10 dX7_wins_15 rfl fs_kX7_44 fs_l0 rfl ?_
    refine fr_iload_n 19 dX7_wins_18 rfl rfl ?_
    refine fr_iald 20 dX7_wins_19 rfl fs_l10 (by omega) ?_
    refine fr_iret dX7_wins_20 rfl ?_
    exact ⟨congrArg some (by unfold aWins; rw [if_pos (by omega)]; exact hA.1 r (by omega) (by omega)), Or.inr ⟨hA, hq⟩⟩
  · refine fr_iconst 9 dX7_wins_8 rfl ?_
    refine fr_iret dX7_wins_9 rfl ?_
    exact ⟨congrArg some (by unfold aWins; rw [if_neg (by omega)]), Or.inl rfl⟩
set_option maxRecDepth 100000 in
set_option maxHeartbeats 1500000 in
theorem cM_idle {σ : fs_S} {t : rt} {r : Int} (hw : twf t) (hR : RM σ t) (hb : σ 0 7 = 0 ∨ σ 0 7 = 1) (hv : σ 0 7 = 1 → OV σ t) (hb8 : σ 0 8 = 0 ∨ σ 0 8 = 1) (hv8 : σ 0 8 = 1 → AC σ t (S4 t)) (hr : rg r) : fs_C mX7_idle 4 [.inr 0, .inl r] σ (Q_swA t σ (aIdle t r)) := by
  refine fs_C.intro [some (.inr 0), some (.inl r)] fs_oX7_idle (Nat.le_of_ble_eq_true rfl) rfl ?_
  have hn := hw.1
  refine fr_aload_n 1 dX7_idle_0 rfl rfl ?_
  refine fr_iload_n 2 dX7_idle_1 rfl rfl ?_
  refine fr_callVi 5 (M2 := mX7_isRule) [_] dX7_idle_2 rfl fs_mX7_134 fs_oX7_isRule fs_iX7_isRule fs_l0 rfl rfl (fs_Γ_rm (d := 1) (by decide)) (Nat.le_of_ble_eq_true rfl) rfl ?_
  refine (cM_isRule hR.1 hn hr).ci ?_
  refine fr_if_ne 10 8 dX7_idle_5 rfl rfl (by omega) (fun h5 => ?_) (fun h5 => ?_)
  · refine fr_aload_n 11 dX7_idle_10 rfl rfl ?_
    refine fr_callVv 14 (M2 := mX7_sweep) [] dX7_idle_11 rfl fs_mX7_168 fs_oX7_sweep fs_iX7_sweep fs_l0 rfl rfl (fs_Γ_rm (d := 3) (by decide)) (Nat.le_of_ble_eq_true rfl) rfl ?_
    refine (cM_sweep hw hR hb hv hb8 hv8).mono ?_
    rintro _ τ ⟨rfl, hA, hq⟩
    refine ⟨rfl, ?_⟩
    have q := hA.2.1 r (by omega) (by omega)
    have q2 : τ 11 r = if 0 < S4 t (gN t r) then 1 else 0 := by
      by_cases e : 0 < S4 t (gN t r)
      · rw [if_pos e]; exact q.2.1 e
      · rw [if_neg e]; exact q.2.2 (by omega)
    refine fr_aload_n 15 dX7_idle_14 rfl rfl ?_
    refine fr_getr 18 11 dX7_idle_15 rfl fs_kX7_47 fs_l0 rfl ?_
    refine fr_iload_n 19 dX7_idle_18 rfl rfl ?_
    refine fr_zald 20 dX7_idle_19 rfl fs_l11 (by omega) ?_
    refine fr_if_eq 27 23 dX7_idle_20 rfl rfl (by rw [q2]; split <;> decide) (fun h20 => ?_) (fun h20 => ?_)
    · refine fr_iconst 28 dX7_idle_27 rfl ?_
      refine fr_iret dX7_idle_28 rfl ?_
      exact ⟨congrArg some (by unfold aIdle; rw [if_pos (by omega)]; rw [q2] at h20; split at h20 <;> split <;> omega), Or.inr ⟨hA, hq⟩⟩
    · refine fr_iconst 24 dX7_idle_23 rfl ?_
      refine fr_goto 28 dX7_idle_24 rfl ?_
      refine fr_iret dX7_idle_28 rfl ?_
      exact ⟨congrArg some (by unfold aIdle; rw [if_pos (by omega)]; rw [q2] at h20; split at h20 <;> split <;> omega), Or.inr ⟨hA, hq⟩⟩
  · refine fr_iconst 9 dX7_idle_8 rfl ?_
    refine fr_iret dX7_idle_9 rfl ?_
    exact ⟨congrArg some (by unfold aIdle; rw [if_neg (by omega)]), Or.inl rfl⟩
set_option maxRecDepth 100000 in
set_option maxHeartbeats 1500000 in
theorem cM_packets {σ : fs_S} {t : rt} {r : Int} (hw : twf t) (hR : RM σ t) (hb : σ 0 7 = 0 ∨ σ 0 7 = 1) (hv : σ 0 7 = 1 → OV σ t) (hb8 : σ 0 8 = 0 ∨ σ 0 8 = 1) (hv8 : σ 0 8 = 1 → AC σ t (S4 t)) (hr : rg r) : fs_C mX7_packets 4 [.inr 0, .inl r] σ (Q_swA t σ (aPackets t r)) := by
  refine fs_C.intro [some (.inr 0), some (.inl r)] fs_oX7_packets (Nat.le_of_ble_eq_true rfl) rfl ?_
  have hn := hw.1
  refine fr_iload_n 1 dX7_packets_0 rfl rfl ?_
  refine fr_iconst 2 dX7_packets_1 rfl ?_
  refine fr_bipush 4 dX7_packets_2 rfl (by decide) ?_
  refine fr_callSi 7 (M2 := mX7_in) [_, _, _] dX7_packets_4 rfl fs_mX7_100 fs_oX7_in fs_sX7_in rfl (fs_Γ_rm (d := 0) (by decide)) (Nat.le_of_ble_eq_true rfl) rfl ?_
  refine (cM_in hr (by decide) (by decide)).ci ?_
  refine fr_if_ne 13 10 dX7_packets_7 rfl rfl (by omega) (fun h7 => ?_) (fun h7 => ?_)
  · refine fr_aload_n 14 dX7_packets_13 rfl rfl ?_
    refine fr_callVv 17 (M2 := mX7_sweep) [] dX7_packets_14 rfl fs_mX7_168 fs_oX7_sweep fs_iX7_sweep fs_l0 rfl rfl (fs_Γ_rm (d := 3) (by decide)) (Nat.le_of_ble_eq_true rfl) rfl ?_
    refine (cM_sweep hw hR hb hv hb8 hv8).mono ?_
    rintro _ τ ⟨rfl, hA, hq⟩
    refine ⟨rfl, ?_⟩
    refine fr_aload_n 18 dX7_packets_17 rfl rfl ?_
    refine fr_getr 21 12 dX7_packets_18 rfl fs_kX7_51 fs_l0 rfl ?_
    refine fr_iload_n 22 dX7_packets_21 rfl rfl ?_
    refine fr_if_ge 30 25 dX7_packets_22 rfl rfl (by omega) (fun h22 => ?_) (fun h22 => ?_)
    · refine fr_iload_n 31 dX7_packets_30 rfl rfl ?_
      refine fr_iald 32 dX7_packets_31 rfl fs_l12 (by omega) ?_
      refine fr_iret dX7_packets_32 rfl ?_
      refine ⟨congrArg some ?_, Or.inr ⟨hA, hq⟩⟩
      unfold aPackets
      rw [if_pos (by omega)]
      first
      | (rw [if_pos (by omega)]; exact hA.2.2 10 (by omega) (by omega))
      | (rw [if_neg (by omega)]; exact hA.2.2 r (by omega) (by omega))
    · refine fr_bipush 27 dX7_packets_25 rfl (by decide) ?_
      refine fr_goto 31 dX7_packets_27 rfl ?_
      refine fr_iald 32 dX7_packets_31 rfl fs_l12 (by omega) ?_
      refine fr_iret dX7_packets_32 rfl ?_
      refine ⟨congrArg some ?_, Or.inr ⟨hA, hq⟩⟩
      unfold aPackets
      rw [if_pos (by omega)]
      first
      | (rw [if_pos (by omega)]; exact hA.2.2 10 (by omega) (by omega))
      | (rw [if_neg (by omega)]; exact hA.2.2 r (by omega) (by omega))
  · refine fr_bipush 12 dX7_packets_10 rfl (by decide) ?_
    refine fr_iret dX7_packets_12 rfl ?_
    exact ⟨congrArg some (by unfold aPackets; rw [if_neg (by omega)]), Or.inl rfl⟩
