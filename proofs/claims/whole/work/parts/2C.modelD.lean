/-! ===== the model: grow, tree, walk ===== -/
def aGrow (A : ab) (w n : Int) : Int := if (0 ≤ w ∧ w ≤ 1) ∧ 1 ≤ n ∧ n ≤ (if w = 0 then 4 else 8) then (if w = 0 then A.2.2.1.1 else A.2.2.1.2) else -2
def sGrow (A : ab) (w n : Int) : ab := if (0 ≤ w ∧ w ≤ 1) ∧ 1 ≤ n ∧ n ≤ (if w = 0 then 4 else 8) then (A.1, A.2.1, (if w = 0 then n else A.2.2.1.1, if w = 1 then n else A.2.2.1.2), A.2.2.2) else A
set_option maxRecDepth 100000 in
set_option maxHeartbeats 3000000 in
theorem cM_grow {σ : fs_S} {A : ab} {w n : Int} (hI : IMc σ A) (hw : awf A) (hww : rg w) (hnn : rg n) : fs_C mX7_grow 1 [.inr 0, .inl w, .inl n] σ (fun x τ => x = some (aGrow A w n) ∧ IMc τ (sGrow A w n) ∧ (τ = σ ∧ sGrow A w n = A ∨ τ 0 10 = 0) ∧ (∀ k i, ¬ (k = 0 ∧ (i = 5 ∨ i = 6 ∨ i = 10)) → τ k i = σ k i)) := by
  refine fs_C.intro [some (.inr 0), some (.inl w), some (.inl n), none] fs_oX7_grow (Nat.le_of_ble_eq_true rfl) rfl ?_
  obtain ⟨a1, a2, ⟨a3, a3'⟩, a4⟩ := id hI
  have no : ¬ ((0 ≤ w ∧ w ≤ 1) ∧ 1 ≤ n ∧ n ≤ (if w = 0 then 4 else 8)) → Q_drop A 0 σ = Q_drop A 0 σ ∧ aGrow A w n = -2 ∧ sGrow A w n = A := fun h => ⟨rfl, if_neg h, if_neg h⟩
  have fin : ∀ (v x y : Int), ((0 ≤ w ∧ w ≤ 1) ∧ 1 ≤ n ∧ n ≤ (if w = 0 then 4 else 8)) → v = (if w = 0 then A.2.2.1.1 else A.2.2.1.2) → x = (if w = 0 then n else A.2.2.1.1) → y = (if w = 1 then n else A.2.2.1.2) → (some v = some (aGrow A w n) ∧ IMc (fs_u (fs_u (fs_u σ 0 5 x) 0 6 y) 0 10 0) (sGrow A w n) ∧ (fs_u (fs_u (fs_u σ 0 5 x) 0 6 y) 0 10 0 = σ ∧ sGrow A w n = A ∨ fs_u (fs_u (fs_u σ 0 5 x) 0 6 y) 0 10 0 0 10 = 0) ∧ (∀ k i, ¬ (k = 0 ∧ (i = 5 ∨ i = 6 ∨ i = 10)) → fs_u (fs_u (fs_u σ 0 5 x) 0 6 y) 0 10 0 k i = σ k i)) := by
    intro v x y hok hv hx hy
    have fr : ∀ k i, ¬ (k = 0 ∧ (i = 5 ∨ i = 6 ∨ i = 10)) → fs_u (fs_u (fs_u σ 0 5 x) 0 6 y) 0 10 0 k i = σ k i := fun k i z => by rw [fs_u_ne _ (by omega), fs_u_ne _ (by omega), fs_u_ne _ (by omega)]
    refine ⟨congrArg some (by unfold aGrow; rw [if_pos hok]; exact hv), ?_, Or.inr (fs_u_eq _ _ _ _), fr⟩
    unfold sGrow
    rw [if_pos hok]
    refine ⟨a1.eq hw.1 (fr _ _ (by decide)) (fun k i a b _ _ => fr k i (by omega)), fun f b1 b2 => ?_, ⟨?_, ?_⟩, fun k b1 b2 => ?_⟩
    · rw [fr _ _ (by omega), fr _ _ (by omega)]; exact a2 f b1 b2
    · rw [fs_u_ne _ (by decide), fs_u_ne _ (by decide), fs_u_eq]; exact hx
    · rw [fs_u_ne _ (by decide), fs_u_eq]; exact hy
    · rw [fr _ _ (by omega)]
      refine ⟨(a4 k b1 b2).1, fun z => ?_⟩
      obtain ⟨q1, q2, q3, q4, q5⟩ := (a4 k b1 b2).2 z
      refine ⟨by rw [fr _ _ (by omega)]; exact q1, fun r f c d e g => ?_, fun r c d => ?_, by rw [fr _ _ (by omega)]; exact q4, by rw [fr _ _ (by omega)]; exact q5⟩
      · rw [fr _ _ (by omega), fr _ _ (by omega)]; exact q2 r f c d e g
      · rw [fr _ _ (by omega), fr _ _ (by omega)]; exact q3 r c d
  have e6 : ∀ v, fs_u σ 0 5 v 0 6 = A.2.2.1.2 := fun v => by rw [fs_u_ne _ (by decide)]; exact a3'
  refine fr_iload_n 1 dX7_grow_0 rfl rfl ?_
  refine fr_iconst 2 dX7_grow_1 rfl ?_
  refine fr_iconst 3 dX7_grow_2 rfl ?_
  refine fr_callSi 6 (M2 := mX7_in) [_, _, _] dX7_grow_3 rfl fs_mX7_100 fs_oX7_in fs_sX7_in rfl (fs_Γ_rm (d := 0) (by decide)) (Nat.le_of_ble_eq_true rfl) rfl ?_
  refine (cM_in (by omega) (by omega) (by omega)).ci ?_
  refine fr_if_eq 27 9 dX7_grow_6 rfl rfl (by omega) (fun h6 => ?_) (fun h6 => ?_)
  · refine fr_bipush 29 dX7_grow_27 rfl (by decide) ?_
    refine fr_iret dX7_grow_29 rfl ?_
    obtain ⟨-, n1, n2⟩ := no (by omega)
    exact ⟨congrArg some n1.symm, by rw [n2]; exact hI, Or.inl ⟨rfl, n2⟩, fun _ _ _ => rfl⟩
  · refine fr_iload_n 10 dX7_grow_9 rfl rfl ?_
    refine fr_iconst 11 dX7_grow_10 rfl ?_
    refine fr_iload_n 12 dX7_grow_11 rfl rfl ?_
    refine fr_if_ne 19 15 dX7_grow_12 rfl rfl (by omega) (fun h12 => ?_) (fun h12 => ?_)
    · refine fr_bipush 21 dX7_grow_19 rfl (by decide) ?_
      refine fr_callSi 24 (M2 := mX7_in) [_, _, _] dX7_grow_21 rfl fs_mX7_100 fs_oX7_in fs_sX7_in rfl (fs_Γ_rm (d := 0) (by decide)) (Nat.le_of_ble_eq_true rfl) rfl ?_
      refine (cM_in (by omega) (by omega) (by omega)).ci ?_
      refine fr_if_ne 30 27 dX7_grow_24 rfl rfl (by omega) (fun h24 => ?_) (fun h24 => ?_)
      · refine fr_iload_n 31 dX7_grow_30 rfl rfl ?_
        refine fr_if_ne 41 34 dX7_grow_31 rfl rfl (by omega) (fun h31 => ?_) (fun h31 => ?_)
        · refine fr_aload_n 42 dX7_grow_41 rfl rfl ?_
          refine fr_geti 45 6 dX7_grow_42 rfl fs_kX7_26 rfl fs_l0 rfl ?_
          refine fr_top a3' ?_
          refine fr_istore_n 46 [_, _, _, _] dX7_grow_45 rfl (Nat.le_of_ble_eq_true rfl) rfl ?_
          refine fr_aload_n 47 dX7_grow_46 rfl rfl ?_
          refine fr_iload_n 48 dX7_grow_47 rfl rfl ?_
          refine fr_if_ne 55 51 dX7_grow_48 rfl rfl (by omega) (fun h48 => ?_) (fun h48 => ?_)
          · refine fr_aload_n 56 dX7_grow_55 rfl rfl ?_
            refine fr_geti 59 5 dX7_grow_56 rfl fs_kX7_22 rfl fs_l0 rfl ?_
            refine fr_top a3 ?_
            refine fr_puti 62 5 dX7_grow_59 rfl fs_kX7_22 fs_pX7_5 rfl fs_l0 rfl ?_
            refine fr_aload_n 63 dX7_grow_62 rfl rfl ?_
            refine fr_iload_n 64 dX7_grow_63 rfl rfl ?_
            refine fr_iconst 65 dX7_grow_64 rfl ?_
            refine fr_icmp_ne 72 68 dX7_grow_65 rfl rfl (by omega) (by omega) (fun h65 => ?_) (fun h65 => ?_)
            · refine fr_aload_n 73 dX7_grow_72 rfl rfl ?_
              refine fr_geti 76 6 dX7_grow_73 rfl fs_kX7_26 rfl fs_l0 rfl ?_
              refine fr_top (e6 _) ?_
              refine fr_puti 79 6 dX7_grow_76 rfl fs_kX7_26 fs_pX7_6 rfl fs_l0 rfl ?_
              refine fr_aload_n 80 dX7_grow_79 rfl rfl ?_
              refine fr_iconst 81 dX7_grow_80 rfl ?_
              refine fr_putz 84 10 dX7_grow_81 rfl fs_kX7_121 fs_pX7_10 rfl fs_l0 rfl (by omega) ?_
              refine fr_iload_n 85 dX7_grow_84 rfl rfl ?_
              refine fr_iret dX7_grow_85 rfl ?_
              exact fin _ _ _ (by omega) (by omega) (by omega) (by omega)
            · refine fr_iload_n 69 dX7_grow_68 rfl rfl ?_
              refine fr_goto 76 dX7_grow_69 rfl ?_
              refine fr_puti 79 6 dX7_grow_76 rfl fs_kX7_26 fs_pX7_6 rfl fs_l0 rfl ?_
              refine fr_aload_n 80 dX7_grow_79 rfl rfl ?_
              refine fr_iconst 81 dX7_grow_80 rfl ?_
              refine fr_putz 84 10 dX7_grow_81 rfl fs_kX7_121 fs_pX7_10 rfl fs_l0 rfl (by omega) ?_
              refine fr_iload_n 85 dX7_grow_84 rfl rfl ?_
              refine fr_iret dX7_grow_85 rfl ?_
              exact fin _ _ _ (by omega) (by omega) (by omega) (by omega)
          · refine fr_iload_n 52 dX7_grow_51 rfl rfl ?_
            refine fr_goto 59 dX7_grow_52 rfl ?_
            refine fr_puti 62 5 dX7_grow_59 rfl fs_kX7_22 fs_pX7_5 rfl fs_l0 rfl ?_
            refine fr_aload_n 63 dX7_grow_62 rfl rfl ?_
            refine fr_iload_n 64 dX7_grow_63 rfl rfl ?_
            refine fr_iconst 65 dX7_grow_64 rfl ?_
            refine fr_icmp_ne 72 68 dX7_grow_65 rfl rfl (by omega) (by omega) (fun h65 => ?_) (fun h65 => ?_)
            · refine fr_aload_n 73 dX7_grow_72 rfl rfl ?_
              refine fr_geti 76 6 dX7_grow_73 rfl fs_kX7_26 rfl fs_l0 rfl ?_
              refine fr_top (e6 _) ?_
              refine fr_puti 79 6 dX7_grow_76 rfl fs_kX7_26 fs_pX7_6 rfl fs_l0 rfl ?_
              refine fr_aload_n 80 dX7_grow_79 rfl rfl ?_
              refine fr_iconst 81 dX7_grow_80 rfl ?_
              refine fr_putz 84 10 dX7_grow_81 rfl fs_kX7_121 fs_pX7_10 rfl fs_l0 rfl (by omega) ?_
              refine fr_iload_n 85 dX7_grow_84 rfl rfl ?_
              refine fr_iret dX7_grow_85 rfl ?_
              exact fin _ _ _ (by omega) (by omega) (by omega) (by omega)
            · refine fr_iload_n 69 dX7_grow_68 rfl rfl ?_
              refine fr_goto 76 dX7_grow_69 rfl ?_
              refine fr_puti 79 6 dX7_grow_76 rfl fs_kX7_26 fs_pX7_6 rfl fs_l0 rfl ?_
              refine fr_aload_n 80 dX7_grow_79 rfl rfl ?_
              refine fr_iconst 81 dX7_grow_80 rfl ?_
              refine fr_putz 84 10 dX7_grow_81 rfl fs_kX7_121 fs_pX7_10 rfl fs_l0 rfl (by omega) ?_
              refine fr_iload_n 85 dX7_grow_84 rfl rfl ?_
              refine fr_iret dX7_grow_85 rfl ?_
              exact fin _ _ _ (by omega) (by omega) (by omega) (by omega)
        · refine fr_aload_n 35 dX7_grow_34 rfl rfl ?_
          refine fr_geti 38 5 dX7_grow_35 rfl fs_kX7_22 rfl fs_l0 rfl ?_
          refine fr_top a3 ?_
          refine fr_goto 45 dX7_grow_38 rfl ?_
          refine fr_istore_n 46 [_, _, _, _] dX7_grow_45 rfl (Nat.le_of_ble_eq_true rfl) rfl ?_
          refine fr_aload_n 47 dX7_grow_46 rfl rfl ?_
          refine fr_iload_n 48 dX7_grow_47 rfl rfl ?_
          refine fr_if_ne 55 51 dX7_grow_48 rfl rfl (by omega) (fun h48 => ?_) (fun h48 => ?_)
          · refine fr_aload_n 56 dX7_grow_55 rfl rfl ?_
            refine fr_geti 59 5 dX7_grow_56 rfl fs_kX7_22 rfl fs_l0 rfl ?_
            refine fr_top a3 ?_
            refine fr_puti 62 5 dX7_grow_59 rfl fs_kX7_22 fs_pX7_5 rfl fs_l0 rfl ?_
            refine fr_aload_n 63 dX7_grow_62 rfl rfl ?_
            refine fr_iload_n 64 dX7_grow_63 rfl rfl ?_
            refine fr_iconst 65 dX7_grow_64 rfl ?_
            refine fr_icmp_ne 72 68 dX7_grow_65 rfl rfl (by omega) (by omega) (fun h65 => ?_) (fun h65 => ?_)
            · refine fr_aload_n 73 dX7_grow_72 rfl rfl ?_
              refine fr_geti 76 6 dX7_grow_73 rfl fs_kX7_26 rfl fs_l0 rfl ?_
              refine fr_top (e6 _) ?_
              refine fr_puti 79 6 dX7_grow_76 rfl fs_kX7_26 fs_pX7_6 rfl fs_l0 rfl ?_
              refine fr_aload_n 80 dX7_grow_79 rfl rfl ?_
              refine fr_iconst 81 dX7_grow_80 rfl ?_
              refine fr_putz 84 10 dX7_grow_81 rfl fs_kX7_121 fs_pX7_10 rfl fs_l0 rfl (by omega) ?_
              refine fr_iload_n 85 dX7_grow_84 rfl rfl ?_
              refine fr_iret dX7_grow_85 rfl ?_
              exact fin _ _ _ (by omega) (by omega) (by omega) (by omega)
            · refine fr_iload_n 69 dX7_grow_68 rfl rfl ?_
              refine fr_goto 76 dX7_grow_69 rfl ?_
              refine fr_puti 79 6 dX7_grow_76 rfl fs_kX7_26 fs_pX7_6 rfl fs_l0 rfl ?_
              refine fr_aload_n 80 dX7_grow_79 rfl rfl ?_
              refine fr_iconst 81 dX7_grow_80 rfl ?_
              refine fr_putz 84 10 dX7_grow_81 rfl fs_kX7_121 fs_pX7_10 rfl fs_l0 rfl (by omega) ?_
              refine fr_iload_n 85 dX7_grow_84 rfl rfl ?_
              refine fr_iret dX7_grow_85 rfl ?_
              exact fin _ _ _ (by omega) (by omega) (by omega) (by omega)
          · refine fr_iload_n 52 dX7_grow_51 rfl rfl ?_
            refine fr_goto 59 dX7_grow_52 rfl ?_
            refine fr_puti 62 5 dX7_grow_59 rfl fs_kX7_22 fs_pX7_5 rfl fs_l0 rfl ?_
            refine fr_aload_n 63 dX7_grow_62 rfl rfl ?_
            refine fr_iload_n 64 dX7_grow_63 rfl rfl ?_
            refine fr_iconst 65 dX7_grow_64 rfl ?_
            refine fr_icmp_ne 72 68 dX7_grow_65 rfl rfl (by omega) (by omega) (fun h65 => ?_) (fun h65 => ?_)
            · refine fr_aload_n 73 dX7_grow_72 rfl rfl ?_
              refine fr_geti 76 6 dX7_grow_73 rfl fs_kX7_26 rfl fs_l0 rfl ?_
              refine fr_top (e6 _) ?_
              refine fr_puti 79 6 dX7_grow_76 rfl fs_kX7_26 fs_pX7_6 rfl fs_l0 rfl ?_
              refine fr_aload_n 80 dX7_grow_79 rfl rfl ?_
              refine fr_iconst 81 dX7_grow_80 rfl ?_
              refine fr_putz 84 10 dX7_grow_81 rfl fs_kX7_121 fs_pX7_10 rfl fs_l0 rfl (by omega) ?_
              refine fr_iload_n 85 dX7_grow_84 rfl rfl ?_
              refine fr_iret dX7_grow_85 rfl ?_
              exact fin _ _ _ (by omega) (by omega) (by omega) (by omega)
            · refine fr_iload_n 69 dX7_grow_68 rfl rfl ?_
              refine fr_goto 76 dX7_grow_69 rfl ?_
              refine fr_puti 79 6 dX7_grow_76 rfl fs_kX7_26 fs_pX7_6 rfl fs_l0 rfl ?_
              refine fr_aload_n 80 dX7_grow_79 rfl rfl ?_
              refine fr_iconst 81 dX7_grow_80 rfl ?_
              refine fr_putz 84 10 dX7_grow_81 rfl fs_kX7_121 fs_pX7_10 rfl fs_l0 rfl (by omega) ?_
              refine fr_iload_n 85 dX7_grow_84 rfl rfl ?_
              refine fr_iret dX7_grow_85 rfl ?_
              exact fin _ _ _ (by omega) (by omega) (by omega) (by omega)
      · refine fr_bipush 29 dX7_grow_27 rfl (by decide) ?_
        refine fr_iret dX7_grow_29 rfl ?_
        obtain ⟨-, n1, n2⟩ := no (by omega)
        exact ⟨congrArg some n1.symm, by rw [n2]; exact hI, Or.inl ⟨rfl, n2⟩, fun _ _ _ => rfl⟩
    · refine fr_iconst 16 dX7_grow_15 rfl ?_
      refine fr_goto 21 dX7_grow_16 rfl ?_
      refine fr_callSi 24 (M2 := mX7_in) [_, _, _] dX7_grow_21 rfl fs_mX7_100 fs_oX7_in fs_sX7_in rfl (fs_Γ_rm (d := 0) (by decide)) (Nat.le_of_ble_eq_true rfl) rfl ?_
      refine (cM_in (by omega) (by omega) (by omega)).ci ?_
      refine fr_if_ne 30 27 dX7_grow_24 rfl rfl (by omega) (fun h24 => ?_) (fun h24 => ?_)
      · refine fr_iload_n 31 dX7_grow_30 rfl rfl ?_
        refine fr_if_ne 41 34 dX7_grow_31 rfl rfl (by omega) (fun h31 => ?_) (fun h31 => ?_)
        · refine fr_aload_n 42 dX7_grow_41 rfl rfl ?_
          refine fr_geti 45 6 dX7_grow_42 rfl fs_kX7_26 rfl fs_l0 rfl ?_
          refine fr_top a3' ?_
          refine fr_istore_n 46 [_, _, _, _] dX7_grow_45 rfl (Nat.le_of_ble_eq_true rfl) rfl ?_
          refine fr_aload_n 47 dX7_grow_46 rfl rfl ?_
          refine fr_iload_n 48 dX7_grow_47 rfl rfl ?_
          refine fr_if_ne 55 51 dX7_grow_48 rfl rfl (by omega) (fun h48 => ?_) (fun h48 => ?_)
          · refine fr_aload_n 56 dX7_grow_55 rfl rfl ?_
            refine fr_geti 59 5 dX7_grow_56 rfl fs_kX7_22 rfl fs_l0 rfl ?_
            refine fr_top a3 ?_
            refine fr_puti 62 5 dX7_grow_59 rfl fs_kX7_22 fs_pX7_5 rfl fs_l0 rfl ?_
            refine fr_aload_n 63 dX7_grow_62 rfl rfl ?_
            refine fr_iload_n 64 dX7_grow_63 rfl rfl ?_
            refine fr_iconst 65 dX7_grow_64 rfl ?_
            refine fr_icmp_ne 72 68 dX7_grow_65 rfl rfl (by omega) (by omega) (fun h65 => ?_) (fun h65 => ?_)
            · refine fr_aload_n 73 dX7_grow_72 rfl rfl ?_
              refine fr_geti 76 6 dX7_grow_73 rfl fs_kX7_26 rfl fs_l0 rfl ?_
              refine fr_top (e6 _) ?_
              refine fr_puti 79 6 dX7_grow_76 rfl fs_kX7_26 fs_pX7_6 rfl fs_l0 rfl ?_
              refine fr_aload_n 80 dX7_grow_79 rfl rfl ?_
              refine fr_iconst 81 dX7_grow_80 rfl ?_
              refine fr_putz 84 10 dX7_grow_81 rfl fs_kX7_121 fs_pX7_10 rfl fs_l0 rfl (by omega) ?_
              refine fr_iload_n 85 dX7_grow_84 rfl rfl ?_
              refine fr_iret dX7_grow_85 rfl ?_
              exact fin _ _ _ (by omega) (by omega) (by omega) (by omega)
            · refine fr_iload_n 69 dX7_grow_68 rfl rfl ?_
              refine fr_goto 76 dX7_grow_69 rfl ?_
              refine fr_puti 79 6 dX7_grow_76 rfl fs_kX7_26 fs_pX7_6 rfl fs_l0 rfl ?_
              refine fr_aload_n 80 dX7_grow_79 rfl rfl ?_
              refine fr_iconst 81 dX7_grow_80 rfl ?_
              refine fr_putz 84 10 dX7_grow_81 rfl fs_kX7_121 fs_pX7_10 rfl fs_l0 rfl (by omega) ?_
              refine fr_iload_n 85 dX7_grow_84 rfl rfl ?_
              refine fr_iret dX7_grow_85 rfl ?_
              exact fin _ _ _ (by omega) (by omega) (by omega) (by omega)
          · refine fr_iload_n 52 dX7_grow_51 rfl rfl ?_
            refine fr_goto 59 dX7_grow_52 rfl ?_
            refine fr_puti 62 5 dX7_grow_59 rfl fs_kX7_22 fs_pX7_5 rfl fs_l0 rfl ?_
            refine fr_aload_n 63 dX7_grow_62 rfl rfl ?_
            refine fr_iload_n 64 dX7_grow_63 rfl rfl ?_
            refine fr_iconst 65 dX7_grow_64 rfl ?_
            refine fr_icmp_ne 72 68 dX7_grow_65 rfl rfl (by omega) (by omega) (fun h65 => ?_) (fun h65 => ?_)
            · refine fr_aload_n 73 dX7_grow_72 rfl rfl ?_
              refine fr_geti 76 6 dX7_grow_73 rfl fs_kX7_26 rfl fs_l0 rfl ?_
              refine fr_top (e6 _) ?_
              refine fr_puti 79 6 dX7_grow_76 rfl fs_kX7_26 fs_pX7_6 rfl fs_l0 rfl ?_
              refine fr_aload_n 80 dX7_grow_79 rfl rfl ?_
              refine fr_iconst 81 dX7_grow_80 rfl ?_
              refine fr_putz 84 10 dX7_grow_81 rfl fs_kX7_121 fs_pX7_10 rfl fs_l0 rfl (by omega) ?_
              refine fr_iload_n 85 dX7_grow_84 rfl rfl ?_
              refine fr_iret dX7_grow_85 rfl ?_
              exact fin _ _ _ (by omega) (by omega) (by omega) (by omega)
            · refine fr_iload_n 69 dX7_grow_68 rfl rfl ?_
              refine fr_goto 76 dX7_grow_69 rfl ?_
              refine fr_puti 79 6 dX7_grow_76 rfl fs_kX7_26 fs_pX7_6 rfl fs_l0 rfl ?_
              refine fr_aload_n 80 dX7_grow_79 rfl rfl ?_
              refine fr_iconst 81 dX7_grow_80 rfl ?_
              refine fr_putz 84 10 dX7_grow_81 rfl fs_kX7_121 fs_pX7_10 rfl fs_l0 rfl (by omega) ?_
              refine fr_iload_n 85 dX7_grow_84 rfl rfl ?_
              refine fr_iret dX7_grow_85 rfl ?_
              exact fin _ _ _ (by omega) (by omega) (by omega) (by omega)
        · refine fr_aload_n 35 dX7_grow_34 rfl rfl ?_
          refine fr_geti 38 5 dX7_grow_35 rfl fs_kX7_22 rfl fs_l0 rfl ?_
          refine fr_top a3 ?_
          refine fr_goto 45 dX7_grow_38 rfl ?_
          refine fr_istore_n 46 [_, _, _, _] dX7_grow_45 rfl (Nat.le_of_ble_eq_true rfl) rfl ?_
          refine fr_aload_n 47 dX7_grow_46 rfl rfl ?_
          refine fr_iload_n 48 dX7_grow_47 rfl rfl ?_
          refine fr_if_ne 55 51 dX7_grow_48 rfl rfl (by omega) (fun h48 => ?_) (fun h48 => ?_)
          · refine fr_aload_n 56 dX7_grow_55 rfl rfl ?_
            refine fr_geti 59 5 dX7_grow_56 rfl fs_kX7_22 rfl fs_l0 rfl ?_
            refine fr_top a3 ?_
            refine fr_puti 62 5 dX7_grow_59 rfl fs_kX7_22 fs_pX7_5 rfl fs_l0 rfl ?_
            refine fr_aload_n 63 dX7_grow_62 rfl rfl ?_
            refine fr_iload_n 64 dX7_grow_63 rfl rfl ?_
            refine fr_iconst 65 dX7_grow_64 rfl ?_
            refine fr_icmp_ne 72 68 dX7_grow_65 rfl rfl (by omega) (by omega) (fun h65 => ?_) (fun h65 => ?_)
            · refine fr_aload_n 73 dX7_grow_72 rfl rfl ?_
              refine fr_geti 76 6 dX7_grow_73 rfl fs_kX7_26 rfl fs_l0 rfl ?_
              refine fr_top (e6 _) ?_
              refine fr_puti 79 6 dX7_grow_76 rfl fs_kX7_26 fs_pX7_6 rfl fs_l0 rfl ?_
              refine fr_aload_n 80 dX7_grow_79 rfl rfl ?_
              refine fr_iconst 81 dX7_grow_80 rfl ?_
              refine fr_putz 84 10 dX7_grow_81 rfl fs_kX7_121 fs_pX7_10 rfl fs_l0 rfl (by omega) ?_
              refine fr_iload_n 85 dX7_grow_84 rfl rfl ?_
              refine fr_iret dX7_grow_85 rfl ?_
              exact fin _ _ _ (by omega) (by omega) (by omega) (by omega)
            · refine fr_iload_n 69 dX7_grow_68 rfl rfl ?_
              refine fr_goto 76 dX7_grow_69 rfl ?_
              refine fr_puti 79 6 dX7_grow_76 rfl fs_kX7_26 fs_pX7_6 rfl fs_l0 rfl ?_
              refine fr_aload_n 80 dX7_grow_79 rfl rfl ?_
              refine fr_iconst 81 dX7_grow_80 rfl ?_
              refine fr_putz 84 10 dX7_grow_81 rfl fs_kX7_121 fs_pX7_10 rfl fs_l0 rfl (by omega) ?_
              refine fr_iload_n 85 dX7_grow_84 rfl rfl ?_
              refine fr_iret dX7_grow_85 rfl ?_
              exact fin _ _ _ (by omega) (by omega) (by omega) (by omega)
          · refine fr_iload_n 52 dX7_grow_51 rfl rfl ?_
            refine fr_goto 59 dX7_grow_52 rfl ?_
            refine fr_puti 62 5 dX7_grow_59 rfl fs_kX7_22 fs_pX7_5 rfl fs_l0 rfl ?_
            refine fr_aload_n 63 dX7_grow_62 rfl rfl ?_
            refine fr_iload_n 64 dX7_grow_63 rfl rfl ?_
            refine fr_iconst 65 dX7_grow_64 rfl ?_
            refine fr_icmp_ne 72 68 dX7_grow_65 rfl rfl (by omega) (by omega) (fun h65 => ?_) (fun h65 => ?_)
            · refine fr_aload_n 73 dX7_grow_72 rfl rfl ?_
              refine fr_geti 76 6 dX7_grow_73 rfl fs_kX7_26 rfl fs_l0 rfl ?_
              refine fr_top (e6 _) ?_
              refine fr_puti 79 6 dX7_grow_76 rfl fs_kX7_26 fs_pX7_6 rfl fs_l0 rfl ?_
              refine fr_aload_n 80 dX7_grow_79 rfl rfl ?_
              refine fr_iconst 81 dX7_grow_80 rfl ?_
              refine fr_putz 84 10 dX7_grow_81 rfl fs_kX7_121 fs_pX7_10 rfl fs_l0 rfl (by omega) ?_
              refine fr_iload_n 85 dX7_grow_84 rfl rfl ?_
              refine fr_iret dX7_grow_85 rfl ?_
              exact fin _ _ _ (by omega) (by omega) (by omega) (by omega)
            · refine fr_iload_n 69 dX7_grow_68 rfl rfl ?_
              refine fr_goto 76 dX7_grow_69 rfl ?_
              refine fr_puti 79 6 dX7_grow_76 rfl fs_kX7_26 fs_pX7_6 rfl fs_l0 rfl ?_
              refine fr_aload_n 80 dX7_grow_79 rfl rfl ?_
              refine fr_iconst 81 dX7_grow_80 rfl ?_
              refine fr_putz 84 10 dX7_grow_81 rfl fs_kX7_121 fs_pX7_10 rfl fs_l0 rfl (by omega) ?_
              refine fr_iload_n 85 dX7_grow_84 rfl rfl ?_
              refine fr_iret dX7_grow_85 rfl ?_
              exact fin _ _ _ (by omega) (by omega) (by omega) (by omega)
      · refine fr_bipush 29 dX7_grow_27 rfl (by decide) ?_
        refine fr_iret dX7_grow_29 rfl ?_
        obtain ⟨-, n1, n2⟩ := no (by omega)
        exact ⟨congrArg some n1.symm, by rw [n2]; exact hI, Or.inl ⟨rfl, n2⟩, fun _ _ _ => rfl⟩
def φL (t : rt) (b e : Int) (N : nd) : Int := if pick t b e N < 0 then 1 else 0
def φP (t : rt) (b e : Int) (N : nd) : Int := if pick t b e N < 0 then pop N.1 else 0
def φE (t : rt) (b e : Int) (N : nd) : Int := if pick t b e N < 0 ∧ pop N.1 = 0 then 1 else 0
def aTree (t : rt) (b e w : Int) : Int := if 0 ≤ w ∧ w ≤ 5 then (if w = 0 then trS t b e (fun _ => 1) 8 (root t) else if w = 1 then trS t b e (φL t b e) 8 (root t) else if w = 2 then trM t b e (fun N => N.2.2) 8 (root t) else if w = 3 then trS t b e (φP t b e) 8 (root t) else if w = 4 then trM t b e (φP t b e) 8 (root t) else trS t b e (φE t b e) 8 (root t)) else -2
theorem lS_one : ∀ L : List nd, lS (fun _ => 1) L = (L.length : Int)
  | [] => rfl
  | N :: l => by show 1 + lS _ l = ((l.length + 1 : Nat) : Int); rw [lS_one l]; omega
abbrev Q_gtA (t : rt) (b e : Int) (σ : fs_S) (v : Int) : fs_Q := fun x τ => x = some v ∧ (τ = σ ∨ TV τ t b e ∧ OV τ t ∧ τ 0 7 = 1 ∧ τ 0 10 = 1 ∧ frG σ τ)
theorem lS_r {φ : nd → Int} {c : Int} (hc : 0 ≤ c) : ∀ (l : List nd), (∀ N ∈ l, 0 ≤ φ N ∧ φ N ≤ c) → 0 ≤ lS φ l ∧ lS φ l ≤ c * (l.length : Int)
  | [], _ => ⟨Int.le_refl _, by show (0 : Int) ≤ c * ((0 : Nat) : Int); simp⟩
  | N :: l, h => by
    have h1 := h N List.mem_cons_self
    have h2 := lS_r hc l (fun M hM => h M (List.mem_cons_of_mem _ hM))
    show 0 ≤ φ N + lS φ l ∧ φ N + lS φ l ≤ c * ((l.length + 1 : Nat) : Int)
    rw [Int.natCast_add, Int.mul_add]
    omega
theorem lX_r {φ : nd → Int} {c : Int} (hc : 0 ≤ c) : ∀ (l : List nd), (∀ N ∈ l, φ N ≤ c) → 0 ≤ lX φ l ∧ lX φ l ≤ c
  | [], _ => ⟨Int.le_refl _, hc⟩
  | N :: l, h => by
    have h1 := h N List.mem_cons_self
    have h2 := lX_r hc l (fun M hM => h M (List.mem_cons_of_mem _ hM))
    rw [lX]
    omega
set_option maxRecDepth 100000 in
set_option maxHeartbeats 3000000 in
theorem cM_tree {σ : fs_S} {t : rt} {b e w : Int} (hw : twf t) (hR : RM σ t) (hB : σ 0 5 = b) (hE : σ 0 6 = e) (hb' : 1 ≤ b ∧ b ≤ 4) (he : 1 ≤ e ∧ e ≤ 8) (hb : σ 0 7 = 0 ∨ σ 0 7 = 1) (hv : σ 0 7 = 1 → OV σ t) (hb9 : σ 0 10 = 0 ∨ σ 0 10 = 1) (hv9 : σ 0 10 = 1 → TV σ t b e) (hww : rg w) : fs_C mX7_tree 4 [.inr 0, .inl w] σ (Q_gtA t b e σ (aTree t b e w)) := by
  refine fs_C.intro [some (.inr 0), some (.inl w), none, none, none, none, none, none, none] fs_oX7_tree (Nat.le_of_ble_eq_true rfl) rfl ?_
  have key : ∀ (τ : fs_S) (L : List nd), (0 ≤ w ∧ w ≤ 5) → τ 0 25 = (L.length : Int) → L.length ≤ 511 → NV τ t b e L L.length → (∀ φ, lS φ L = trS t b e φ 8 (root t)) → (∀ φ, lX φ L = trM t b e φ 8 (root t)) → (∀ v, v = aTree t b e w → Q_gtA t b e σ (aTree t b e w) (some v) τ) → ∀ (m k : Nat) (y8 : Option fs_V), k + m = L.length →
      fs_W (fs_Γ 4 (Q_gtA t b e σ (aTree t b e w))) mX7_tree 32 [some (.inr 0), some (.inl w), some (.inl (lS (φL t b e) (L.take k))), some (.inl (lX (fun N => N.2.2) (L.take k))), some (.inl (lS (φP t b e) (L.take k))), some (.inl (lX (φP t b e) (L.take k))), some (.inl (lS (φE t b e) (L.take k))), some (.inl (k : Int)), y8] [] τ := by
    intro τ L hok hnd hlen hN hS hX fin m
    have rX : ∀ k, 0 ≤ lX (fun N : nd => N.2.2) (L.take k) ∧ lX (fun N : nd => N.2.2) (L.take k) ≤ 8 := fun k => lX_r (by decide) _ (fun N hM => by obtain ⟨j, hj⟩ := List.getElem?_of_mem (List.mem_of_mem_take hM); exact (hN.1 j N hj).2.2.2.2)
    have rP : ∀ k, 0 ≤ lX (φP t b e) (L.take k) ∧ lX (φP t b e) (L.take k) ≤ 16 := fun k => lX_r (by decide) _ (fun N _ => by have := pop_r N.1; unfold φP; split <;> omega)
    induction m with
    | zero =>
      intro k y8 hk
      have ek : k = L.length := by omega
      subst ek
      rw [List.take_length]
      have q0 := hS (fun _ => 1)
      rw [lS_one] at q0
      have q1 := hS (φL t b e)
      have q2 := hX (fun N => N.2.2)
      have q3 := hS (φP t b e)
      have q4 := hX (φP t b e)
      have q5 := hS (φE t b e)
      refine fr_iload 34 dX7_tree_32 rfl rfl ?_
      refine fr_aload_n 35 dX7_tree_34 rfl rfl ?_
      refine fr_geti 38 25 dX7_tree_35 rfl fs_kX7_221 rfl fs_l0 rfl ?_
      refine fr_icmp_ge 133 41 dX7_tree_38 rfl rfl (by omega) (by omega) (fun h38 => ?_) (fun h38 => ?_)
      · refine fr_iload_n 134 dX7_tree_133 rfl rfl ?_
        refine fr_if_ne 144 137 dX7_tree_134 rfl rfl (by omega) (fun h134 => ?_) (fun h134 => ?_)
        · refine fr_iload_n 145 dX7_tree_144 rfl rfl ?_
          refine fr_iconst 146 dX7_tree_145 rfl ?_
          refine fr_icmp_ne 153 149 dX7_tree_146 rfl rfl (by omega) (by omega) (fun h146 => ?_) (fun h146 => ?_)
          · refine fr_iload_n 154 dX7_tree_153 rfl rfl ?_
            refine fr_iconst 155 dX7_tree_154 rfl ?_
            refine fr_icmp_ne 162 158 dX7_tree_155 rfl rfl (by omega) (by omega) (fun h155 => ?_) (fun h155 => ?_)
            · refine fr_iload_n 163 dX7_tree_162 rfl rfl ?_
              refine fr_iconst 164 dX7_tree_163 rfl ?_
              refine fr_icmp_ne 172 167 dX7_tree_164 rfl rfl (by omega) (by omega) (fun h164 => ?_) (fun h164 => ?_)
              · refine fr_iload_n 173 dX7_tree_172 rfl rfl ?_
                refine fr_iconst 174 dX7_tree_173 rfl ?_
                refine fr_icmp_ne 182 177 dX7_tree_174 rfl rfl (by omega) (by omega) (fun h174 => ?_) (fun h174 => ?_)
                · refine fr_iload 184 dX7_tree_182 rfl rfl ?_
                  refine fr_iret dX7_tree_184 rfl ?_
                  refine fin _ ?_
                  unfold aTree
                  rw [if_pos hok]
                  first
                  | (rw [if_pos (by omega)]; exact q0)
                  | (rw [if_neg (by omega), if_pos (by omega)]; exact q1)
                  | (rw [if_neg (by omega), if_neg (by omega), if_pos (by omega)]; exact q2)
                  | (rw [if_neg (by omega), if_neg (by omega), if_neg (by omega), if_pos (by omega)]; exact q3)
                  | (rw [if_neg (by omega), if_neg (by omega), if_neg (by omega), if_neg (by omega), if_pos (by omega)]; exact q4)
                  | (rw [if_neg (by omega), if_neg (by omega), if_neg (by omega), if_neg (by omega), if_neg (by omega)]; exact q5)
                · refine fr_iload 179 dX7_tree_177 rfl rfl ?_
                  refine fr_goto 184 dX7_tree_179 rfl ?_
                  refine fr_iret dX7_tree_184 rfl ?_
                  refine fin _ ?_
                  unfold aTree
                  rw [if_pos hok]
                  first
                  | (rw [if_pos (by omega)]; exact q0)
                  | (rw [if_neg (by omega), if_pos (by omega)]; exact q1)
                  | (rw [if_neg (by omega), if_neg (by omega), if_pos (by omega)]; exact q2)
                  | (rw [if_neg (by omega), if_neg (by omega), if_neg (by omega), if_pos (by omega)]; exact q3)
                  | (rw [if_neg (by omega), if_neg (by omega), if_neg (by omega), if_neg (by omega), if_pos (by omega)]; exact q4)
                  | (rw [if_neg (by omega), if_neg (by omega), if_neg (by omega), if_neg (by omega), if_neg (by omega)]; exact q5)
              · refine fr_iload 169 dX7_tree_167 rfl rfl ?_
                refine fr_goto 184 dX7_tree_169 rfl ?_
                refine fr_iret dX7_tree_184 rfl ?_
                refine fin _ ?_
                unfold aTree
                rw [if_pos hok]
                first
                | (rw [if_pos (by omega)]; exact q0)
                | (rw [if_neg (by omega), if_pos (by omega)]; exact q1)
                | (rw [if_neg (by omega), if_neg (by omega), if_pos (by omega)]; exact q2)
                | (rw [if_neg (by omega), if_neg (by omega), if_neg (by omega), if_pos (by omega)]; exact q3)
                | (rw [if_neg (by omega), if_neg (by omega), if_neg (by omega), if_neg (by omega), if_pos (by omega)]; exact q4)
                | (rw [if_neg (by omega), if_neg (by omega), if_neg (by omega), if_neg (by omega), if_neg (by omega)]; exact q5)
            · refine fr_iload_n 159 dX7_tree_158 rfl rfl ?_
              refine fr_goto 184 dX7_tree_159 rfl ?_
              refine fr_iret dX7_tree_184 rfl ?_
              refine fin _ ?_
              unfold aTree
              rw [if_pos hok]
              first
              | (rw [if_pos (by omega)]; exact q0)
              | (rw [if_neg (by omega), if_pos (by omega)]; exact q1)
              | (rw [if_neg (by omega), if_neg (by omega), if_pos (by omega)]; exact q2)
              | (rw [if_neg (by omega), if_neg (by omega), if_neg (by omega), if_pos (by omega)]; exact q3)
              | (rw [if_neg (by omega), if_neg (by omega), if_neg (by omega), if_neg (by omega), if_pos (by omega)]; exact q4)
              | (rw [if_neg (by omega), if_neg (by omega), if_neg (by omega), if_neg (by omega), if_neg (by omega)]; exact q5)
          · refine fr_iload_n 150 dX7_tree_149 rfl rfl ?_
            refine fr_goto 184 dX7_tree_150 rfl ?_
            refine fr_iret dX7_tree_184 rfl ?_
            refine fin _ ?_
            unfold aTree
            rw [if_pos hok]
            first
            | (rw [if_pos (by omega)]; exact q0)
            | (rw [if_neg (by omega), if_pos (by omega)]; exact q1)
            | (rw [if_neg (by omega), if_neg (by omega), if_pos (by omega)]; exact q2)
            | (rw [if_neg (by omega), if_neg (by omega), if_neg (by omega), if_pos (by omega)]; exact q3)
            | (rw [if_neg (by omega), if_neg (by omega), if_neg (by omega), if_neg (by omega), if_pos (by omega)]; exact q4)
            | (rw [if_neg (by omega), if_neg (by omega), if_neg (by omega), if_neg (by omega), if_neg (by omega)]; exact q5)
        · refine fr_aload_n 138 dX7_tree_137 rfl rfl ?_
          refine fr_geti 141 25 dX7_tree_138 rfl fs_kX7_221 rfl fs_l0 rfl ?_
          refine fr_top hnd ?_
          refine fr_goto 184 dX7_tree_141 rfl ?_
          refine fr_iret dX7_tree_184 rfl ?_
          refine fin _ ?_
          unfold aTree
          rw [if_pos hok]
          first
          | (rw [if_pos (by omega)]; exact q0)
          | (rw [if_neg (by omega), if_pos (by omega)]; exact q1)
          | (rw [if_neg (by omega), if_neg (by omega), if_pos (by omega)]; exact q2)
          | (rw [if_neg (by omega), if_neg (by omega), if_neg (by omega), if_pos (by omega)]; exact q3)
          | (rw [if_neg (by omega), if_neg (by omega), if_neg (by omega), if_neg (by omega), if_pos (by omega)]; exact q4)
          | (rw [if_neg (by omega), if_neg (by omega), if_neg (by omega), if_neg (by omega), if_neg (by omega)]; exact q5)
      · exact absurd h38 (by omega)
    | succ m ih =>
      intro k y8 hk
      obtain ⟨N, hkN⟩ : ∃ N, L[k]? = some N := ⟨_, List.getElem?_eq_getElem (by omega)⟩
      obtain ⟨nm, gd⟩ := hN.1 k N hkN
      have hc := (hN.2 k N (by omega) hkN).1
      have pr := pick_r t b e N
      have pp := pop_r N.1
      have dd := gd.2.2
      have rx := rX k
      have rp := rP k
      obtain ⟨-, s2⟩ := GV.split hkN
      have u1 : lS (φL t b e) (L.take (k + 1)) = lS (φL t b e) (L.take k) + φL t b e N := by rw [s2, lS_app]; show _ + (φL t b e N + 0) = _; omega
      have u2 : lX (fun N : nd => N.2.2) (L.take (k + 1)) = max (lX (fun N : nd => N.2.2) (L.take k)) N.2.2 := by rw [s2, lX_app]; show max _ (max (max 0 N.2.2) 0) = _; omega
      have u3 : lS (φP t b e) (L.take (k + 1)) = lS (φP t b e) (L.take k) + φP t b e N := by rw [s2, lS_app]; show _ + (φP t b e N + 0) = _; omega
      have u5 : lS (φE t b e) (L.take (k + 1)) = lS (φE t b e) (L.take k) + φE t b e N := by rw [s2, lS_app]; show _ + (φE t b e N + 0) = _; omega
      have u4 : lX (φP t b e) (L.take (k + 1)) = max (lX (φP t b e) (L.take k)) (φP t b e N) := by rw [s2, lX_app]; show max _ (max (max 0 (φP t b e N)) 0) = _; unfold φP; split <;> omega
      have nxt := fun y8 => ih (k + 1) y8 (by omega)
      rw [u1, u2, u3, u4, u5] at nxt
      clear ih u1 u2 u3 u4 u5 rX rP
      have dep : ∀ x, x = max (lX (fun N : nd => N.2.2) (L.take k)) N.2.2 → fs_W (fs_Γ 4 (Q_gtA t b e σ (aTree t b e w))) mX7_tree 63 [some (.inr 0), some (.inl w), some (.inl (lS (φL t b e) (L.take k))), some (.inl (lX (fun N => N.2.2) (L.take k))), some (.inl (lS (φP t b e) (L.take k))), some (.inl (lX (φP t b e) (L.take k))), some (.inl (lS (φE t b e) (L.take k))), some (.inl (k : Int)), y8] [.inl x] τ := by
        intro x hx
        subst hx
        by_cases hp : pick t b e N < 0
        · have v1 : φL t b e N = 1 := if_pos hp
          have v3 : φP t b e N = pop N.1 := if_pos hp
          rw [v1, v3] at nxt
          have lat : ∀ (x y z : Int) (y8 : Option fs_V), x = max (lX (φP t b e) (L.take k)) (pop N.1) → y = lS (φE t b e) (L.take k) + φE t b e N → fs_W (fs_Γ 4 (Q_gtA t b e σ (aTree t b e w))) mX7_tree 127 [some (.inr 0), some (.inl w), some (.inl (lS (φL t b e) (L.take k) + 1)), some (.inl (max (lX (fun N => N.2.2) (L.take k)) N.2.2)), some (.inl (lS (φP t b e) (L.take k) + pop N.1)), some (.inl x), some (.inl y), some (.inl (k : Int)), y8] [] τ := by
            intro x y z y8 hx hy
            subst hx; subst hy
            refine fr_iinc 130 [_, _, _, _, _, _, _, _, _] dX7_tree_127 rfl rfl rfl ?_
            refine fr_goto 32 dX7_tree_130 rfl ?_
            rw [show (k : Int) + 1 = ((k + 1 : Nat) : Int) by omega]
            exact nxt _
          refine fr_istore_n 64 [_, _, _, _, _, _, _, _, _] dX7_tree_63 rfl (Nat.le_of_ble_eq_true rfl) rfl ?_
          refine fr_aload_n 65 dX7_tree_64 rfl rfl ?_
          refine fr_getr 68 22 dX7_tree_65 rfl fs_kX7_81 fs_l0 rfl ?_
          refine fr_iload 70 dX7_tree_68 rfl rfl ?_
          refine fr_iald 71 dX7_tree_70 rfl fs_l22 (by omega) ?_
          refine fr_top hc ?_
          refine fr_if_ge 127 74 dX7_tree_71 rfl rfl (by omega) (fun h71 => ?_) (fun h71 => ?_)
          · exact absurd h71 (by omega)
          · refine fr_aload_n 75 dX7_tree_74 rfl rfl ?_
            refine fr_getr 78 20 dX7_tree_75 rfl fs_kX7_75 fs_l0 rfl ?_
            refine fr_iload 80 dX7_tree_78 rfl rfl ?_
            refine fr_iald 81 dX7_tree_80 rfl fs_l20 (by omega) ?_
            refine fr_top nm.1 ?_
            refine fr_callSi 84 (M2 := mX7_bits) [_] dX7_tree_81 rfl fs_mX7_208 fs_oX7_bits fs_sX7_bits rfl (fs_Γ_rm (d := 0) (by decide)) (Nat.le_of_ble_eq_true rfl) rfl ?_
            refine (cM_bits gd.1).ci ?_
            refine fr_istore 86 [_, _, _, _, _, _, _, _, _] dX7_tree_84 rfl (Nat.le_of_ble_eq_true rfl) rfl ?_
            refine fr_iinc 89 [_, _, _, _, _, _, _, _, _] dX7_tree_86 rfl rfl rfl ?_
            refine fr_iload 91 dX7_tree_89 rfl rfl ?_
            refine fr_iload 93 dX7_tree_91 rfl rfl ?_
            refine fr_iadd 94 dX7_tree_93 rfl ?_
            refine fr_istore 96 [_, _, _, _, _, _, _, _, _] dX7_tree_94 rfl (Nat.le_of_ble_eq_true rfl) rfl ?_
            refine fr_iload 98 dX7_tree_96 rfl rfl ?_
            refine fr_iload 100 dX7_tree_98 rfl rfl ?_
            refine fr_icmp_le 108 103 dX7_tree_100 rfl rfl (by omega) (by omega) (fun h100 => ?_) (fun h100 => ?_)
            · refine fr_iload 110 dX7_tree_108 rfl rfl ?_
              refine fr_istore 112 [_, _, _, _, _, _, _, _, _] dX7_tree_110 rfl (Nat.le_of_ble_eq_true rfl) rfl ?_
              refine fr_iload 114 dX7_tree_112 rfl rfl ?_
              refine fr_iload 116 dX7_tree_114 rfl rfl ?_
              refine fr_if_ne 123 119 dX7_tree_116 rfl rfl (by omega) (fun h116 => ?_) (fun h116 => ?_)
              · refine fr_iconst 124 dX7_tree_123 rfl ?_
                refine fr_iadd 125 dX7_tree_124 rfl ?_
                refine fr_istore 127 [_, _, _, _, _, _, _, _, _] dX7_tree_125 rfl (Nat.le_of_ble_eq_true rfl) rfl ?_
                refine lat _ _ 0 _ (by omega) ?_
                unfold φE
                first
                | (rw [if_pos ⟨hp, by omega⟩])
                | (rw [if_neg (by omega)])
              · refine fr_iconst 120 dX7_tree_119 rfl ?_
                refine fr_goto 124 dX7_tree_120 rfl ?_
                refine fr_iadd 125 dX7_tree_124 rfl ?_
                refine fr_istore 127 [_, _, _, _, _, _, _, _, _] dX7_tree_125 rfl (Nat.le_of_ble_eq_true rfl) rfl ?_
                refine lat _ _ 0 _ (by omega) ?_
                unfold φE
                first
                | (rw [if_pos ⟨hp, by omega⟩])
                | (rw [if_neg (by omega)])
            · refine fr_iload 105 dX7_tree_103 rfl rfl ?_
              refine fr_goto 110 dX7_tree_105 rfl ?_
              refine fr_istore 112 [_, _, _, _, _, _, _, _, _] dX7_tree_110 rfl (Nat.le_of_ble_eq_true rfl) rfl ?_
              refine fr_iload 114 dX7_tree_112 rfl rfl ?_
              refine fr_iload 116 dX7_tree_114 rfl rfl ?_
              refine fr_if_ne 123 119 dX7_tree_116 rfl rfl (by omega) (fun h116 => ?_) (fun h116 => ?_)
              · refine fr_iconst 124 dX7_tree_123 rfl ?_
                refine fr_iadd 125 dX7_tree_124 rfl ?_
                refine fr_istore 127 [_, _, _, _, _, _, _, _, _] dX7_tree_125 rfl (Nat.le_of_ble_eq_true rfl) rfl ?_
                refine lat _ _ 0 _ (by omega) ?_
                unfold φE
                first
                | (rw [if_pos ⟨hp, by omega⟩])
                | (rw [if_neg (by omega)])
              · refine fr_iconst 120 dX7_tree_119 rfl ?_
                refine fr_goto 124 dX7_tree_120 rfl ?_
                refine fr_iadd 125 dX7_tree_124 rfl ?_
                refine fr_istore 127 [_, _, _, _, _, _, _, _, _] dX7_tree_125 rfl (Nat.le_of_ble_eq_true rfl) rfl ?_
                refine lat _ _ 0 _ (by omega) ?_
                unfold φE
                first
                | (rw [if_pos ⟨hp, by omega⟩])
                | (rw [if_neg (by omega)])
        · have v1 : φL t b e N = 0 := if_neg hp
          have v3 : φP t b e N = 0 := if_neg hp
          have v5 : φE t b e N = 0 := if_neg (by omega)
          rw [v1, v3, v5, show lS (φL t b e) (L.take k) + 0 = lS (φL t b e) (L.take k) by omega, show lS (φP t b e) (L.take k) + 0 = lS (φP t b e) (L.take k) by omega, show lS (φE t b e) (L.take k) + 0 = lS (φE t b e) (L.take k) by omega, show max (lX (φP t b e) (L.take k)) 0 = lX (φP t b e) (L.take k) by omega] at nxt
          refine fr_istore_n 64 [_, _, _, _, _, _, _, _, _] dX7_tree_63 rfl (Nat.le_of_ble_eq_true rfl) rfl ?_
          refine fr_aload_n 65 dX7_tree_64 rfl rfl ?_
          refine fr_getr 68 22 dX7_tree_65 rfl fs_kX7_81 fs_l0 rfl ?_
          refine fr_iload 70 dX7_tree_68 rfl rfl ?_
          refine fr_iald 71 dX7_tree_70 rfl fs_l22 (by omega) ?_
          refine fr_top hc ?_
          refine fr_if_ge 127 74 dX7_tree_71 rfl rfl (by omega) (fun h71 => ?_) (fun h71 => ?_)
          · refine fr_iinc 130 [_, _, _, _, _, _, _, _, _] dX7_tree_127 rfl rfl rfl ?_
            refine fr_goto 32 dX7_tree_130 rfl ?_
            rw [show (k : Int) + 1 = ((k + 1 : Nat) : Int) by omega]
            exact nxt _
          · exact absurd h71 (by omega)
      refine fr_iload 34 dX7_tree_32 rfl rfl ?_
      refine fr_aload_n 35 dX7_tree_34 rfl rfl ?_
      refine fr_geti 38 25 dX7_tree_35 rfl fs_kX7_221 rfl fs_l0 rfl ?_
      refine fr_icmp_ge 133 41 dX7_tree_38 rfl rfl (by omega) (by omega) (fun h38 => ?_) (fun h38 => ?_)
      · exact absurd h38 (by omega)
      · refine fr_aload_n 42 dX7_tree_41 rfl rfl ?_
        refine fr_getr 45 21 dX7_tree_42 rfl fs_kX7_78 fs_l0 rfl ?_
        refine fr_iload 47 dX7_tree_45 rfl rfl ?_
        refine fr_iald 48 dX7_tree_47 rfl fs_l21 (by omega) ?_
        refine fr_top nm.2.1 ?_
        refine fr_iload_n 49 dX7_tree_48 rfl rfl ?_
        refine fr_icmp_le 62 52 dX7_tree_49 rfl rfl (by omega) (by omega) (fun h49 => ?_) (fun h49 => ?_)
        · refine fr_iload_n 63 dX7_tree_62 rfl rfl ?_
          exact dep _ (by omega)
        · refine fr_aload_n 53 dX7_tree_52 rfl rfl ?_
          refine fr_getr 56 21 dX7_tree_53 rfl fs_kX7_78 fs_l0 rfl ?_
          refine fr_iload 58 dX7_tree_56 rfl rfl ?_
          refine fr_iald 59 dX7_tree_58 rfl fs_l21 (by omega) ?_
          refine fr_top nm.2.1 ?_
          refine fr_goto 63 dX7_tree_59 rfl ?_
          exact dep _ (by omega)
  refine fr_iload_n 1 dX7_tree_0 rfl rfl ?_
  refine fr_iconst 2 dX7_tree_1 rfl ?_
  refine fr_iconst 3 dX7_tree_2 rfl ?_
  refine fr_callSi 6 (M2 := mX7_in) [_, _, _] dX7_tree_3 rfl fs_mX7_100 fs_oX7_in fs_sX7_in rfl (fs_Γ_rm (d := 0) (by decide)) (Nat.le_of_ble_eq_true rfl) rfl ?_
  refine (cM_in hww (by decide) (by decide)).ci ?_
  refine fr_if_ne 12 9 dX7_tree_6 rfl rfl (by omega) (fun h6 => ?_) (fun h6 => ?_)
  · refine fr_aload_n 13 dX7_tree_12 rfl rfl ?_
    refine fr_callVv 16 (M2 := mX7_growTree) [] dX7_tree_13 rfl fs_mX7_231 fs_oX7_growTree fs_iX7_growTree fs_l0 rfl rfl (fs_Γ_rm (d := 3) (by decide)) (Nat.le_of_ble_eq_true rfl) rfl ?_
    refine (cM_growTree hw hR hB hE hb' he hb hv hb9 hv9).mono ?_
    rintro _ τ ⟨rfl, hT, hO, h7, h10, hF⟩
    refine ⟨rfl, ?_⟩
    obtain ⟨L, l1, l2, l3, l4, l5, l6⟩ := id hT
    refine fr_iconst 17 dX7_tree_16 rfl ?_
    refine fr_istore_n 18 [_, _, _, _, _, _, _, _, _] dX7_tree_17 rfl (Nat.le_of_ble_eq_true rfl) rfl ?_
    refine fr_iconst 19 dX7_tree_18 rfl ?_
    refine fr_istore_n 20 [_, _, _, _, _, _, _, _, _] dX7_tree_19 rfl (Nat.le_of_ble_eq_true rfl) rfl ?_
    refine fr_iconst 21 dX7_tree_20 rfl ?_
    refine fr_istore 23 [_, _, _, _, _, _, _, _, _] dX7_tree_21 rfl (Nat.le_of_ble_eq_true rfl) rfl ?_
    refine fr_iconst 24 dX7_tree_23 rfl ?_
    refine fr_istore 26 [_, _, _, _, _, _, _, _, _] dX7_tree_24 rfl (Nat.le_of_ble_eq_true rfl) rfl ?_
    refine fr_iconst 27 dX7_tree_26 rfl ?_
    refine fr_istore 29 [_, _, _, _, _, _, _, _, _] dX7_tree_27 rfl (Nat.le_of_ble_eq_true rfl) rfl ?_
    refine fr_iconst 30 dX7_tree_29 rfl ?_
    refine fr_istore 32 [_, _, _, _, _, _, _, _, _] dX7_tree_30 rfl (Nat.le_of_ble_eq_true rfl) rfl ?_
    exact key τ L (by omega) l1 l2.2 l4 l5 l6 (fun v hv' => ⟨congrArg some hv', Or.inr ⟨hT, hO, h7, h10, hF⟩⟩) L.length 0 _ (by omega)
  · refine fr_bipush 11 dX7_tree_9 rfl (by decide) ?_
    refine fr_iret dX7_tree_11 rfl ?_
    exact ⟨congrArg some (by unfold aTree; rw [if_neg (by omega)]), Or.inl rfl⟩
