/-! ===== the class: Survey ===== -/
def hW (p : Int) (m : Nat) : Int := if m ≠ 0 ∧ lowb m = p then 1 else 0
def hN (t : rt) (p : Int) (m : Nat) : Int := if m ≠ 0 ∧ lowb m = p ∧ (rs m = 0 ∨ tac t (tod t (lowb (rs m))) ≠ tac t (tod t p)) then 1 else 0
def hZ (m : Nat) : Int := if m = 0 then 1 else 0
/-- what Survey has counted, by places -/
def AS (τ : fs_S) (t : rt) (Acc : (Nat → Int) → Int) : Prop := (∀ p, 0 ≤ p → p < 16 → τ 49 p = Acc (hW p)) ∧ (∀ p, 0 ≤ p → p < 16 → 0 ≤ Acc (hN t p) ∧ (0 < Acc (hN t p) → τ 50 p = 1) ∧ (Acc (hN t p) = 0 → τ 50 p = 0)) ∧ τ 48 1 = Acc hZ
theorem AS.eq {σ τ : fs_S} {t : rt} {Acc : (Nat → Int) → Int} (h : AS σ t Acc) (e : ∀ k i, k = 49 ∨ k = 50 ∨ (k = 48 ∧ i = 1) → τ k i = σ k i) : AS τ t Acc :=
  ⟨fun p a b => by rw [e _ _ (by omega)]; exact h.1 p a b, fun p a b => by rw [e _ _ (by omega)]; exact h.2.1 p a b, by rw [e _ _ (by omega)]; exact h.2.2⟩
theorem AS.congr {τ : fs_S} {t : rt} {Acc Acc' : (Nat → Int) → Int} (h : AS τ t Acc) (e : ∀ g, Acc' g = Acc g) : AS τ t Acc' := by
  have : Acc' = Acc := funext e
  rw [this]; exact h
set_option maxRecDepth 100000 in
set_option maxHeartbeats 3000000 in
theorem cK_actionAt {σ : fs_S} {t : rt} {p : Int} (hw : twf t) (hR : RC 27 σ t) (hO : OC σ t) (hp : 0 ≤ p ∧ p < tn t) : fs_C mX4_actionAt 0 [.inr 48, .inl p] σ (fun x τ => x = some (tac t (tod t p)) ∧ τ = σ) := by
  refine fs_C.intro [some (.inr 48), some (.inl p)] fs_oX4_actionAt (Nat.le_of_ble_eq_true rfl) rfl ?_
  have hn := hw.1
  have ho := tod_r (t := t) hp.1 hp.2
  have e1 := hO.1 p hp.1 hp.2
  have e2 := (hR.ra ⟨ho.1, ho.2.1⟩).2
  refine fr_aload_n 1 dX4_actionAt_0 rfl rfl ?_
  refine fr_getr 4 27 dX4_actionAt_1 rfl fs_kX4_38 fs_l48 rfl ?_
  refine fr_getr 7 31 dX4_actionAt_4 rfl fs_kX4_81 fs_l27 rfl ?_
  refine fr_aload_n 8 dX4_actionAt_7 rfl rfl ?_
  refine fr_getr 11 27 dX4_actionAt_8 rfl fs_kX4_38 fs_l48 rfl ?_
  refine fr_getr 14 32 dX4_actionAt_11 rfl fs_kX4_86 fs_l27 rfl ?_
  refine fr_iload_n 15 dX4_actionAt_14 rfl rfl ?_
  refine fr_iald 16 dX4_actionAt_15 rfl fs_l32 (by omega) ?_
  refine fr_top e1 ?_
  refine fr_iald 17 dX4_actionAt_16 rfl fs_l31 (by omega) ?_
  refine fr_iret dX4_actionAt_17 rfl ?_
  exact ⟨congrArg some e2, rfl⟩
abbrev frT (σ τ : fs_S) : Prop := ∀ k i, k ≠ 49 → k ≠ 50 → ¬ (k = 48 ∧ i = 1) → τ k i = σ k i
abbrev Q_ty (t : rt) (m : Nat) (w : Int) (Acc : (Nat → Int) → Int) (σ : fs_S) : fs_Q := fun x τ => x = none ∧ AS τ t (fun g => Acc g + w * g m) ∧ frT σ τ
set_option maxRecDepth 100000 in
set_option maxHeartbeats 3000000 in
theorem cK_tally {σ : fs_S} {t : rt} {m : Nat} {w : Int} {Acc : (Nat → Int) → Int} (hw : twf t) (hR : RC 27 σ t) (hO : OC σ t) (hm : m < 65536) (hb : ∀ i, m.testBit i = true → (i : Int) < tn t) (hw1 : 1 ≤ w) (hA : AS σ t Acc) : fs_C mX4_tally 2 [.inr 48, .inl (m : Int), .inl w] σ (Q_ty t m w Acc σ) := by
  refine fs_C.intro [some (.inr 48), some (.inl (m : Int)), some (.inl w), none, none] fs_oX4_tally (Nat.le_of_ble_eq_true rfl) rfl ?_
  have hn := hw.1
  obtain ⟨a1, a2, a3⟩ := id hA
  by_cases h0 : m = 0
  · subst h0
    refine fr_iload_n 1 dX4_tally_0 rfl rfl ?_
    refine fr_callSNi 4 (M2 := mX6_lowestBit) [_] dX4_tally_1 rfl fs_nX4_74 fs_oX6_lowestBit fs_sX6_lowestBit rfl (fs_Γ_rm (d := 1) (by decide)) (Nat.le_of_ble_eq_true rfl) rfl ?_
    refine (cK_lowestBit (m := 0) (by decide)).ci ?_
    rw [if_pos rfl]
    refine fr_istore_n 5 [_, _, _, _, _] dX4_tally_4 rfl (Nat.le_of_ble_eq_true rfl) rfl ?_
    refine fr_iload_n 6 dX4_tally_5 rfl rfl ?_
    refine fr_if_ge 20 9 dX4_tally_6 rfl rfl (by omega) (fun h6 => ?_) (fun h6 => ?_)
    · exact absurd h6 (by decide)
    · refine fr_aload_n 10 dX4_tally_9 rfl rfl ?_
      refine fr_dup 11 dX4_tally_10 rfl ?_
      refine fr_geti 14 1 dX4_tally_11 rfl fs_kX4_15 rfl fs_l48 rfl ?_
      refine fr_iload_n 15 dX4_tally_14 rfl rfl ?_
      refine fr_iadd 16 dX4_tally_15 rfl ?_
      refine fr_puti 19 1 dX4_tally_16 rfl fs_kX4_15 fs_pX4_1 rfl fs_l48 rfl ?_
      refine fr_vret dX4_tally_19 rfl ?_
      refine ⟨rfl, ⟨fun p a b => ?_, fun p a b => ?_, ?_⟩, fun k i a b c => fs_u_ne _ (by omega)⟩
      · dsimp only; rw [fs_u_k _ _ (by decide), a1 p a b, show hW p 0 = 0 from if_neg (by simp)]; omega
      · dsimp only; rw [fs_u_k _ _ (by decide), show hN t p 0 = 0 from if_neg (by simp), show Acc (hN t p) + w * 0 = Acc (hN t p) by omega]; exact a2 p a b
      · dsimp only; rw [fs_u_eq, a3, show hZ 0 = 1 from if_pos rfl]; omega
  · obtain ⟨j, ej, hj, hjb, -⟩ := lowb_spec hm h0
    have hjn := hb j hjb
    have hrs := rs_lt hm h0
    obtain ⟨p0, hp0⟩ : ∃ p : Int, p = lowb m := ⟨_, rfl⟩
    have hp : 0 ≤ p0 ∧ p0 < tn t := by rw [hp0, ej]; omega
    have hWe : ∀ x, hW x m = if x = p0 then 1 else 0 := fun x => by
      unfold hW
      by_cases e : x = p0
      · rw [if_pos ⟨h0, by rw [e, hp0]⟩, if_pos e]
      · rw [if_neg (fun z => e (by rw [← z.2, hp0])), if_neg e]
    have hZe : hZ m = 0 := if_neg h0
    have fin : ∀ (τ : fs_S) (nd : Int), (nd = 0 ∨ nd = 1) → hN t p0 m = nd → (∀ k i, k ≠ 49 → k ≠ 50 → τ k i = σ k i) → (τ 49 p0 = σ 49 p0 + w) → (∀ x, x ≠ p0 → τ 49 x = σ 49 x) → (nd = 1 → τ 50 p0 = 1) → (∀ x, (x ≠ p0 ∨ nd = 0) → τ 50 x = σ 50 x) → Q_ty t m w Acc σ none τ := by
      intro τ nd hnd hN' hF f1 f1' f3 f3'
      refine ⟨rfl, ⟨fun x a b => ?_, fun x a b => ?_, ?_⟩, fun k i a b _ => hF k i a b⟩
      · dsimp only
        have q := a1 x a b
        have q2 := hWe x
        by_cases e : x = p0
        · rw [if_pos e] at q2
          rw [e, f1, ← e, q2]; omega
        · rw [if_neg e] at q2
          rw [f1' x e, q2]; omega
      · dsimp only
        have q := a2 x a b
        by_cases e : x = p0
        · rw [e] at q ⊢
          rw [hN']
          rcases hnd with rfl | rfl
          · rw [f3' p0 (Or.inr rfl), show Acc (hN t p0) + w * 0 = Acc (hN t p0) by omega]; exact q
          · exact ⟨by omega, fun _ => f3 rfl, fun z => by omega⟩
        · rw [f3' x (Or.inl e), show hN t x m = 0 from if_neg (fun z => e (by rw [← z.2.1, hp0])), show Acc (hN t x) + w * 0 = Acc (hN t x) by omega]; exact q
      · dsimp only
        rw [hF _ _ (by decide) (by decide), a3, hZe]; omega
    obtain ⟨S0, eS0⟩ : ∃ S, S = fs_u σ 49 p0 (σ 49 p0 + w) := ⟨_, rfl⟩
    have s1 : S0 49 p0 = σ 49 p0 + w := by rw [eS0, fs_u_eq]
    have s2 : ∀ x, x ≠ p0 → S0 49 x = σ 49 x := fun x hx => by rw [eS0, fs_u_i _ hx]
    have s3 : ∀ k i, k ≠ 49 → S0 k i = σ k i := fun k i z => by rw [eS0, fs_u_k _ _ z]
    have fin0 : hN t p0 m = 0 → Q_ty t m w Acc σ none S0 := fun h => fin S0 0 (Or.inl rfl) h (fun k i a _ => s3 k i a) s1 s2 (fun z => by omega) (fun x _ => s3 50 x (by decide))
    have fin1 : hN t p0 m = 1 → Q_ty t m w Acc σ none (fs_u S0 50 p0 1) := fun h => fin _ 1 (Or.inr rfl) h (fun k i a b => by rw [fs_u_k _ _ b]; exact s3 k i a) (by rw [fs_u_k _ _ (by decide)]; exact s1) (fun x hx => by rw [fs_u_k _ _ (by decide)]; exact s2 x hx) (fun _ => fs_u_eq _ _ _ _) (fun x hx => by rw [fs_u_i _ (by omega)]; exact s3 50 x (by decide))
    have hR0 : RC 27 S0 t := hR.eq (s3 _ _ (by decide)) (fun k i z => s3 k i (by omega))
    have hO0 : OC S0 t := hO.eq (fun k i z => s3 k i (by omega))
    have hand : fi_and (m : Int) ((m : Int) - 1) = ((rs m : Nat) : Int) := by
      rw [show (m : Int) - 1 = ((m - 1 : Nat) : Int) by omega, fm_and (by omega) (by omega), (low_and hm h0).2]
    have hac : ∀ p, 0 ≤ p → p < tn t → rg (tac t (tod t p)) := fun p a b => by
      have ho := tod_r (t := t) a b
      have := (hw.2.2 _ ho.1 ho.2.1).2
      omega
    refine fr_iload_n 1 dX4_tally_0 rfl rfl ?_
    refine fr_callSNi 4 (M2 := mX6_lowestBit) [_] dX4_tally_1 rfl fs_nX4_74 fs_oX6_lowestBit fs_sX6_lowestBit rfl (fs_Γ_rm (d := 1) (by decide)) (Nat.le_of_ble_eq_true rfl) rfl ?_
    refine (cK_lowestBit hm).ci ?_
    rw [if_neg h0, ← hp0]
    refine fr_istore_n 5 [_, _, _, _, _] dX4_tally_4 rfl (Nat.le_of_ble_eq_true rfl) rfl ?_
    refine fr_iload_n 6 dX4_tally_5 rfl rfl ?_
    refine fr_if_ge 20 9 dX4_tally_6 rfl rfl (by omega) (fun h6 => ?_) (fun h6 => ?_)
    · refine fr_aload_n 21 dX4_tally_20 rfl rfl ?_
      refine fr_getr 24 49 dX4_tally_21 rfl fs_kX4_19 fs_l48 rfl ?_
      refine fr_iload_n 25 dX4_tally_24 rfl rfl ?_
      refine fr_dup2 26 dX4_tally_25 rfl ?_
      refine fr_iald 27 dX4_tally_26 rfl fs_l49 (by omega) ?_
      refine fr_iload_n 28 dX4_tally_27 rfl rfl ?_
      refine fr_iadd 29 dX4_tally_28 rfl ?_
      refine fr_iast 30 dX4_tally_29 rfl fs_l49 (by omega) ?_
      rw [← eS0]
      by_cases hz : rs m = 0
      · have hN1 : hN t p0 m = 1 := if_pos ⟨h0, hp0.symm, Or.inl hz⟩
        refine fr_iload_n 31 dX4_tally_30 rfl rfl ?_
        refine fr_iload_n 32 dX4_tally_31 rfl rfl ?_
        refine fr_iconst 33 dX4_tally_32 rfl ?_
        refine fr_isub 34 dX4_tally_33 rfl ?_
        refine fr_iand 35 dX4_tally_34 rfl ?_
        refine fr_top hand ?_
        refine fr_callSNi 38 (M2 := mX6_lowestBit) [_] dX4_tally_35 rfl fs_nX4_74 fs_oX6_lowestBit fs_sX6_lowestBit rfl (fs_Γ_rm (d := 1) (by decide)) (Nat.le_of_ble_eq_true rfl) rfl ?_
        refine (cK_lowestBit hrs).ci ?_
        rw [if_pos hz]
        refine fr_istore 40 [_, _, _, _, _] dX4_tally_38 rfl (Nat.le_of_ble_eq_true rfl) rfl ?_
        refine fr_iload 42 dX4_tally_40 rfl rfl ?_
        refine fr_if_lt 59 45 dX4_tally_42 rfl rfl (by omega) (fun h42 => ?_) (fun h42 => ?_)
        · refine fr_aload_n 60 dX4_tally_59 rfl rfl ?_
          refine fr_getr 63 50 dX4_tally_60 rfl fs_kX4_23 fs_l48 rfl ?_
          refine fr_iload_n 64 dX4_tally_63 rfl rfl ?_
          refine fr_iconst 65 dX4_tally_64 rfl ?_
          refine fr_zast 66 dX4_tally_65 rfl fs_l50 (by omega) (by omega) ?_
          refine fr_vret dX4_tally_66 rfl ?_
          exact fin1 hN1
        · exact absurd h42 (by decide)
      · obtain ⟨i, ei, hi, hib, -⟩ := lowb_spec hrs hz
        have hin : (i : Int) < tn t := by
          have := rs_bit hm h0 i
          rw [hib] at this
          exact hb i (by have h := this.symm; rw [Bool.and_eq_true] at h; exact h.1)
        obtain ⟨p1, hp1⟩ : ∃ p : Int, p = lowb (rs m) := ⟨_, rfl⟩
        have hq : 0 ≤ p1 ∧ p1 < tn t := by rw [hp1, ei]; omega
        have r0 := hac p0 hp.1 hp.2
        have r1 := hac p1 hq.1 hq.2
        refine fr_iload_n 31 dX4_tally_30 rfl rfl ?_
        refine fr_iload_n 32 dX4_tally_31 rfl rfl ?_
        refine fr_iconst 33 dX4_tally_32 rfl ?_
        refine fr_isub 34 dX4_tally_33 rfl ?_
        refine fr_iand 35 dX4_tally_34 rfl ?_
        refine fr_top hand ?_
        refine fr_callSNi 38 (M2 := mX6_lowestBit) [_] dX4_tally_35 rfl fs_nX4_74 fs_oX6_lowestBit fs_sX6_lowestBit rfl (fs_Γ_rm (d := 1) (by decide)) (Nat.le_of_ble_eq_true rfl) rfl ?_
        refine (cK_lowestBit hrs).ci ?_
        rw [if_neg hz, ← hp1]
        refine fr_istore 40 [_, _, _, _, _] dX4_tally_38 rfl (Nat.le_of_ble_eq_true rfl) rfl ?_
        refine fr_iload 42 dX4_tally_40 rfl rfl ?_
        refine fr_if_lt 59 45 dX4_tally_42 rfl rfl (by omega) (fun h42 => ?_) (fun h42 => ?_)
        · exact absurd h42 (by omega)
        · refine fr_aload_n 46 dX4_tally_45 rfl rfl ?_
          refine fr_iload 48 dX4_tally_46 rfl rfl ?_
          refine fr_callVi 51 (M2 := mX4_actionAt) [_] dX4_tally_48 rfl fs_mX4_78 fs_oX4_actionAt fs_iX4_actionAt fs_l48 rfl rfl (fs_Γ_rm (d := 0) (by decide)) (Nat.le_of_ble_eq_true rfl) rfl ?_
          refine (cK_actionAt hw hR0 hO0 hq).ci ?_
          refine fr_aload_n 52 dX4_tally_51 rfl rfl ?_
          refine fr_iload_n 53 dX4_tally_52 rfl rfl ?_
          refine fr_callVi 56 (M2 := mX4_actionAt) [_] dX4_tally_53 rfl fs_mX4_78 fs_oX4_actionAt fs_iX4_actionAt fs_l48 rfl rfl (fs_Γ_rm (d := 0) (by decide)) (Nat.le_of_ble_eq_true rfl) rfl ?_
          refine (cK_actionAt hw hR0 hO0 hp).ci ?_
          refine fr_icmp_eq 66 59 dX4_tally_56 rfl rfl (by omega) (by omega) (fun h56 => ?_) (fun h56 => ?_)
          · refine fr_vret dX4_tally_66 rfl ?_
            first
            | exact fin1 (if_pos ⟨h0, hp0.symm, Or.inr (by rw [← hp1]; exact h56)⟩)
            | exact fin0 (if_neg (fun z => z.2.2.elim hz (fun y => y (by rw [← hp1]; exact h56))))
          · refine fr_aload_n 60 dX4_tally_59 rfl rfl ?_
            refine fr_getr 63 50 dX4_tally_60 rfl fs_kX4_23 fs_l48 rfl ?_
            refine fr_iload_n 64 dX4_tally_63 rfl rfl ?_
            refine fr_iconst 65 dX4_tally_64 rfl ?_
            refine fr_zast 66 dX4_tally_65 rfl fs_l50 (by omega) (by omega) ?_
            refine fr_vret dX4_tally_66 rfl ?_
            first
            | exact fin1 (if_pos ⟨h0, hp0.symm, Or.inr (by rw [← hp1]; exact h56)⟩)
            | exact fin0 (if_neg (fun z => z.2.2.elim hz (fun y => y (by rw [← hp1]; exact h56))))
    · exact absurd h6 (by omega)
