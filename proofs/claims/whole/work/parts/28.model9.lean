/-! ===== the model: tuple, probe ===== -/
abbrev Q_ltA (t : rt) (σ : fs_S) (v : Int) : fs_Q := fun x τ => x = some v ∧ (τ = σ ∨ LV τ t ∧ OV τ t ∧ τ 0 7 = 1 ∧ τ 0 9 = 1 ∧ frL σ τ)
set_option maxRecDepth 100000 in
set_option maxHeartbeats 1500000 in
theorem cM_tuple {σ : fs_S} {t : rt} {i w : Int} (hw : twf t) (hR : RM σ t) (hb : σ 0 7 = 0 ∨ σ 0 7 = 1) (hv : σ 0 7 = 1 → OV σ t) (hb9 : σ 0 9 = 0 ∨ σ 0 9 = 1) (hv9 : σ 0 9 = 1 → LV σ t) (hi : rg i) (hww : rg w) : fs_C mX7_tuple 4 [.inr 0, .inl i, .inl w] σ (Q_ltA t σ (aTuple t i w)) := by
  refine fs_C.intro [some (.inr 0), some (.inl i), some (.inl w)] fs_oX7_tuple (Nat.le_of_ble_eq_true rfl) rfl ?_
  have hn := hw.1
  have hlen := lsK_len_le t (tn t).toNat
  change (TL t).length ≤ 1029 at hlen
  refine fr_iload_n 1 dX7_tuple_0 rfl rfl ?_
  refine fr_iconst 2 dX7_tuple_1 rfl ?_
  refine fr_bipush 4 dX7_tuple_2 rfl (by decide) ?_
  refine fr_callSi 7 (M2 := mX7_in) [_, _, _] dX7_tuple_4 rfl fs_mX7_100 fs_oX7_in fs_sX7_in rfl (fs_Γ_rm (d := 0) (by decide)) (Nat.le_of_ble_eq_true rfl) rfl ?_
  refine (cM_in hww (by decide) (by decide)).ci ?_
  refine fr_if_ne 13 10 dX7_tuple_7 rfl rfl (by omega) (fun h7 => ?_) (fun h7 => ?_)
  · refine fr_aload_n 14 dX7_tuple_13 rfl rfl ?_
    refine fr_callVv 17 (M2 := mX7_listTuples) [] dX7_tuple_14 rfl fs_mX7_202 fs_oX7_listTuples fs_iX7_listTuples fs_l0 rfl rfl (fs_Γ_rm (d := 3) (by decide)) (Nat.le_of_ble_eq_true rfl) rfl ?_
    refine (cM_listTuples hw hR hb hv hb9 hv9).mono ?_
    rintro _ τ ⟨rfl, hV, hO, h7, h9, hF⟩
    refine ⟨rfl, ?_⟩
    have hM0 := hV.2.2.1
    have hRt : RM τ t := hR.eq hw (hF _ _ (by decide) (by decide)) (fun k i a b _ _ => hF k i (by omega) (by omega))
    refine fr_iload_n 18 dX7_tuple_17 rfl rfl ?_
    refine fr_iconst 19 dX7_tuple_18 rfl ?_
    refine fr_aload_n 20 dX7_tuple_19 rfl rfl ?_
    refine fr_geti 23 23 dX7_tuple_20 rfl fs_kX7_199 rfl fs_l0 rfl ?_
    refine fr_iconst 24 dX7_tuple_23 rfl ?_
    refine fr_isub 25 dX7_tuple_24 rfl ?_
    refine fr_callSi 28 (M2 := mX7_in) [_, _, _] dX7_tuple_25 rfl fs_mX7_100 fs_oX7_in fs_sX7_in rfl (fs_Γ_rm (d := 0) (by decide)) (Nat.le_of_ble_eq_true rfl) rfl ?_
    refine (cM_in hi (by omega) (by omega)).ci ?_
    refine fr_if_ne 34 31 dX7_tuple_28 rfl rfl (by omega) (fun h28 => ?_) (fun h28 => ?_)
    · obtain ⟨q1, q2, q3⟩ := TL_at hn.1 (t := t) (i := i) (by omega) (by omega)
      have q4 := hV.2.2.2 _ _ q1
      rw [show ((i.toNat : Nat) : Int) = i by omega] at q4
      refine fr_iload_n 35 dX7_tuple_34 rfl rfl ?_
      refine fr_iconst 36 dX7_tuple_35 rfl ?_
      refine fr_icmp_ge 50 39 dX7_tuple_36 rfl rfl (by omega) (by omega) (fun h36 => ?_) (fun h36 => ?_)
      · refine fr_iload_n 51 dX7_tuple_50 rfl rfl ?_
        refine fr_iconst 52 dX7_tuple_51 rfl ?_
        refine fr_icmp_ne 68 55 dX7_tuple_52 rfl rfl (by omega) (by omega) (fun h52 => ?_) (fun h52 => ?_)
        · refine fr_iload_n 69 dX7_tuple_68 rfl rfl ?_
          refine fr_iconst 70 dX7_tuple_69 rfl ?_
          refine fr_icmp_ne 87 73 dX7_tuple_70 rfl rfl (by omega) (by omega) (fun h70 => ?_) (fun h70 => ?_)
          · refine fr_aload_n 88 dX7_tuple_87 rfl rfl ?_
            refine fr_getr 91 16 dX7_tuple_88 rfl fs_kX7_63 fs_l0 rfl ?_
            refine fr_aload_n 92 dX7_tuple_91 rfl rfl ?_
            refine fr_getr 95 14 dX7_tuple_92 rfl fs_kX7_57 fs_l0 rfl ?_
            refine fr_iload_n 96 dX7_tuple_95 rfl rfl ?_
            refine fr_iald 97 dX7_tuple_96 rfl fs_l14 (by omega) ?_
            refine fr_top q4.1 ?_
            refine fr_iald 98 dX7_tuple_97 rfl fs_l16 (by omega) ?_
            refine fr_top (hV.2.1 _ q2.1 q2.2) ?_
            refine fr_callSi 101 (M2 := mX7_bits) [_] dX7_tuple_98 rfl fs_mX7_208 fs_oX7_bits fs_sX7_bits rfl (fs_Γ_rm (d := 0) (by decide)) (Nat.le_of_ble_eq_true rfl) rfl ?_
            refine (cM_bits (mb_lt hw _)).ci ?_
            refine fr_iret dX7_tuple_101 rfl ?_
            refine ⟨congrArg some ?_, Or.inr ⟨hV, hO, h7, h9, hF⟩⟩
            unfold aTuple
            rw [if_pos (by omega), if_pos (by omega), if_neg (by omega)]
            first
            | (rw [if_pos (by omega)]; rfl)
            | (rw [if_neg (by omega), if_pos (by omega)])
            | (rw [if_neg (by omega), if_neg (by omega)])
          · refine fr_aload_n 74 dX7_tuple_73 rfl rfl ?_
            refine fr_getr 77 5 dX7_tuple_74 rfl fs_kX7_29 fs_l0 rfl ?_
            refine fr_aload_n 78 dX7_tuple_77 rfl rfl ?_
            refine fr_getr 81 15 dX7_tuple_78 rfl fs_kX7_60 fs_l0 rfl ?_
            refine fr_iload_n 82 dX7_tuple_81 rfl rfl ?_
            refine fr_iald 83 dX7_tuple_82 rfl fs_l15 (by omega) ?_
            refine fr_top q4.2 ?_
            refine fr_iald 84 dX7_tuple_83 rfl fs_l5 (by omega) ?_
            refine fr_top (hO.1 _ q3.1 q3.2) ?_
            refine fr_goto 101 dX7_tuple_84 rfl ?_
            refine fr_iret dX7_tuple_101 rfl ?_
            refine ⟨congrArg some ?_, Or.inr ⟨hV, hO, h7, h9, hF⟩⟩
            unfold aTuple
            rw [if_pos (by omega), if_pos (by omega), if_neg (by omega)]
            first
            | (rw [if_pos (by omega)]; rfl)
            | (rw [if_neg (by omega), if_pos (by omega)])
            | (rw [if_neg (by omega), if_neg (by omega)])
        · refine fr_aload_n 56 dX7_tuple_55 rfl rfl ?_
          refine fr_aload_n 57 dX7_tuple_56 rfl rfl ?_
          refine fr_getr 60 14 dX7_tuple_57 rfl fs_kX7_57 fs_l0 rfl ?_
          refine fr_iload_n 61 dX7_tuple_60 rfl rfl ?_
          refine fr_iald 62 dX7_tuple_61 rfl fs_l14 (by omega) ?_
          refine fr_top q4.1 ?_
          refine fr_callVi 65 (M2 := mX7_entries) [_] dX7_tuple_62 rfl fs_mX7_205 fs_oX7_entries fs_iX7_entries fs_l0 rfl rfl (fs_Γ_rm (d := 2) (by decide)) (Nat.le_of_ble_eq_true rfl) rfl ?_
          refine (cM_entries hw hRt hV.1 q2).ci ?_
          refine fr_goto 101 dX7_tuple_65 rfl ?_
          refine fr_iret dX7_tuple_101 rfl ?_
          refine ⟨congrArg some ?_, Or.inr ⟨hV, hO, h7, h9, hF⟩⟩
          unfold aTuple
          rw [if_pos (by omega), if_pos (by omega), if_neg (by omega)]
          first
          | (rw [if_pos (by omega)]; rfl)
          | (rw [if_neg (by omega), if_pos (by omega)])
          | (rw [if_neg (by omega), if_neg (by omega)])
      · refine fr_aload_n 40 dX7_tuple_39 rfl rfl ?_
        refine fr_getr 43 14 dX7_tuple_40 rfl fs_kX7_57 fs_l0 rfl ?_
        refine fr_iload_n 44 dX7_tuple_43 rfl rfl ?_
        refine fr_iald 45 dX7_tuple_44 rfl fs_l14 (by omega) ?_
        refine fr_top q4.1 ?_
        refine fr_iload_n 46 dX7_tuple_45 rfl rfl ?_
        refine fr_callSi 49 (M2 := mX7_lengthIn) [_, _] dX7_tuple_46 rfl fs_mX7_187 fs_oX7_lengthIn fs_sX7_lengthIn rfl (fs_Γ_rm (d := 0) (by decide)) (Nat.le_of_ble_eq_true rfl) rfl ?_
        refine (cM_lengthIn q2 (by omega)).ci ?_
        refine fr_iret dX7_tuple_49 rfl ?_
        exact ⟨congrArg some (by unfold aTuple; rw [if_pos (by omega), if_pos (by omega), if_pos (by omega)]), Or.inr ⟨hV, hO, h7, h9, hF⟩⟩
    · refine fr_bipush 33 dX7_tuple_31 rfl (by decide) ?_
      refine fr_iret dX7_tuple_33 rfl ?_
      exact ⟨congrArg some (by unfold aTuple; rw [if_pos (by omega), if_neg (by omega)]), Or.inr ⟨hV, hO, h7, h9, hF⟩⟩
  · refine fr_bipush 12 dX7_tuple_10 rfl (by decide) ?_
    refine fr_iret dX7_tuple_12 rfl ?_
    exact ⟨congrArg some (by unfold aTuple; rw [if_neg (by omega)]), Or.inl rfl⟩
set_option maxRecDepth 100000 in
set_option maxHeartbeats 1500000 in
theorem cM_codeOf {σ : fs_S} {t : rt} {r a b c d : Int} (hw : twf t) (hR : RM σ t) (hr : 0 ≤ r ∧ r < tn t) (ha : tlo t r 0 ≤ a ∧ a ≤ thi t r 0) (hb : tlo t r 1 ≤ b ∧ b ≤ thi t r 1) (hc : tlo t r 2 ≤ c ∧ c ≤ thi t r 2) (hd : tlo t r 3 ≤ d ∧ d ≤ thi t r 3) : fs_C mX7_codeOf 3 [.inr 0, .inl r, .inl a, .inl b, .inl c, .inl d] σ (fun x τ => x = some (cdO t r a b c d) ∧ τ = σ) := by
  refine fs_C.intro [some (.inr 0), some (.inl r), some (.inl a), some (.inl b), some (.inl c), some (.inl d)] fs_oX7_codeOf (Nat.le_of_ble_eq_true rfl) rfl ?_
  have q0 := tLH hw hr.1 hr.2 (f := 0) (by omega) (by omega)
  have q1 := tLH hw hr.1 hr.2 (f := 1) (by omega) (by omega)
  have q2 := tLH hw hr.1 hr.2 (f := 2) (by omega) (by omega)
  have q3 := tLH hw hr.1 hr.2 (f := 3) (by omega) (by omega)
  have e0 : a = ((a.toNat : Nat) : Int) := by omega
  have e1 : b = ((b.toNat : Nat) : Int) := by omega
  have e2 : c = ((c.toNat : Nat) : Int) := by omega
  have e3 : d = ((d.toNat : Nat) : Int) := by omega
  have c0 : fs_C mX7_lengthOf 2 [.inr 0, .inl r, .inl 0, .inl a] σ (fun z τ => z = some ((loF (wN 0) (tH t r 0) a.toNat 65 (tL t r 0) : Nat) : Int) ∧ τ = σ) := by
    have := cM_lengthOf (x := a.toNat) hw hR hr (f := 0) (by omega) (by omega)
    rw [← e0] at this
    exact this
  have c1 : fs_C mX7_lengthOf 2 [.inr 0, .inl r, .inl 1, .inl b] σ (fun z τ => z = some ((loF (wN 1) (tH t r 1) b.toNat 65 (tL t r 1) : Nat) : Int) ∧ τ = σ) := by
    have := cM_lengthOf (x := b.toNat) hw hR hr (f := 1) (by omega) (by omega)
    rw [← e1] at this
    exact this
  have c2 : fs_C mX7_lengthOf 2 [.inr 0, .inl r, .inl 2, .inl c] σ (fun z τ => z = some ((loF (wN 2) (tH t r 2) c.toNat 65 (tL t r 2) : Nat) : Int) ∧ τ = σ) := by
    have := cM_lengthOf (x := c.toNat) hw hR hr (f := 2) (by omega) (by omega)
    rw [← e2] at this
    exact this
  have c3 : fs_C mX7_lengthOf 2 [.inr 0, .inl r, .inl 3, .inl d] σ (fun z τ => z = some ((loF (wN 3) (tH t r 3) d.toNat 65 (tL t r 3) : Nat) : Int) ∧ τ = σ) := by
    have := cM_lengthOf (x := d.toNat) hw hR hr (f := 3) (by omega) (by omega)
    rw [← e3] at this
    exact this
  refine fr_sipush 3 dX7_codeOf_0 rfl (by decide) ?_
  refine fr_bipush 5 dX7_codeOf_3 rfl (by decide) ?_
  refine fr_aload_n 6 dX7_codeOf_5 rfl rfl ?_
  refine fr_iload_n 7 dX7_codeOf_6 rfl rfl ?_
  refine fr_iconst 8 dX7_codeOf_7 rfl ?_
  refine fr_iload_n 9 dX7_codeOf_8 rfl rfl ?_
  refine fr_callVi 12 (M2 := mX7_lengthOf) [_, _, _] dX7_codeOf_9 rfl fs_mX7_211 fs_oX7_lengthOf fs_iX7_lengthOf fs_l0 rfl rfl (fs_Γ_rm (d := 2) (by decide)) (Nat.le_of_ble_eq_true rfl) rfl ?_
  refine c0.ci ?_
  refine fr_isub 13 dX7_codeOf_12 rfl ?_
  refine fr_imul 14 dX7_codeOf_13 rfl ?_
  refine fr_bipush 16 dX7_codeOf_14 rfl (by decide) ?_
  refine fr_bipush 18 dX7_codeOf_16 rfl (by decide) ?_
  refine fr_aload_n 19 dX7_codeOf_18 rfl rfl ?_
  refine fr_iload_n 20 dX7_codeOf_19 rfl rfl ?_
  refine fr_iconst 21 dX7_codeOf_20 rfl ?_
  refine fr_iload_n 22 dX7_codeOf_21 rfl rfl ?_
  refine fr_callVi 25 (M2 := mX7_lengthOf) [_, _, _] dX7_codeOf_22 rfl fs_mX7_211 fs_oX7_lengthOf fs_iX7_lengthOf fs_l0 rfl rfl (fs_Γ_rm (d := 2) (by decide)) (Nat.le_of_ble_eq_true rfl) rfl ?_
  refine c1.ci ?_
  refine fr_isub 26 dX7_codeOf_25 rfl ?_
  refine fr_imul 27 dX7_codeOf_26 rfl ?_
  refine fr_iadd 28 dX7_codeOf_27 rfl ?_
  refine fr_iconst 29 dX7_codeOf_28 rfl ?_
  refine fr_bipush 31 dX7_codeOf_29 rfl (by decide) ?_
  refine fr_aload_n 32 dX7_codeOf_31 rfl rfl ?_
  refine fr_iload_n 33 dX7_codeOf_32 rfl rfl ?_
  refine fr_iconst 34 dX7_codeOf_33 rfl ?_
  refine fr_iload 36 dX7_codeOf_34 rfl rfl ?_
  refine fr_callVi 39 (M2 := mX7_lengthOf) [_, _, _] dX7_codeOf_36 rfl fs_mX7_211 fs_oX7_lengthOf fs_iX7_lengthOf fs_l0 rfl rfl (fs_Γ_rm (d := 2) (by decide)) (Nat.le_of_ble_eq_true rfl) rfl ?_
  refine c2.ci ?_
  refine fr_isub 40 dX7_codeOf_39 rfl ?_
  refine fr_imul 41 dX7_codeOf_40 rfl ?_
  refine fr_iadd 42 dX7_codeOf_41 rfl ?_
  refine fr_iconst 43 dX7_codeOf_42 rfl ?_
  refine fr_iadd 44 dX7_codeOf_43 rfl ?_
  refine fr_aload_n 45 dX7_codeOf_44 rfl rfl ?_
  refine fr_iload_n 46 dX7_codeOf_45 rfl rfl ?_
  refine fr_iconst 47 dX7_codeOf_46 rfl ?_
  refine fr_iload 49 dX7_codeOf_47 rfl rfl ?_
  refine fr_callVi 52 (M2 := mX7_lengthOf) [_, _, _] dX7_codeOf_49 rfl fs_mX7_211 fs_oX7_lengthOf fs_iX7_lengthOf fs_l0 rfl rfl (fs_Γ_rm (d := 2) (by decide)) (Nat.le_of_ble_eq_true rfl) rfl ?_
  refine c3.ci ?_
  refine fr_isub 53 dX7_codeOf_52 rfl ?_
  refine fr_iret dX7_codeOf_53 rfl ?_
  exact ⟨rfl, rfl⟩
abbrev frP (σ τ : fs_S) : Prop := ∀ k i, ¬ (k = 5 ∨ k = 6 ∨ 13 ≤ k ∧ k ≤ 17) → ¬ (k = 0 ∧ (i = 7 ∨ i = 9 ∨ i = 23)) → τ k i = σ k i
def Q_pr (t : rt) (σ : fs_S) (v : Int) : fs_Q := fun x τ => x = some v ∧ (τ = σ ∨ LV τ t ∧ OV τ t ∧ τ 0 7 = 1 ∧ τ 0 9 = 1 ∧ frP σ τ)
set_option maxRecDepth 100000 in
set_option maxHeartbeats 3000000 in
theorem cM_probe {σ : fs_S} {t : rt} {a b c d w : Int} (hw : twf t) (hR : RM σ t) (hb : σ 0 7 = 0 ∨ σ 0 7 = 1) (hv : σ 0 7 = 1 → OV σ t) (hb9 : σ 0 9 = 0 ∨ σ 0 9 = 1) (hv9 : σ 0 9 = 1 → LV σ t) (ha : rg a) (hbb : rg b) (hc : rg c) (hd : rg d) (hww : rg w) : fs_C mX7_probe 4 [.inr 0, .inl a, .inl b, .inl c, .inl d, .inl w] σ (Q_pr t σ (aProbe t a b c d w)) := by
  refine fs_C.intro [some (.inr 0), some (.inl a), some (.inl b), some (.inl c), some (.inl d), some (.inl w), none, none, none, none] fs_oX7_probe (Nat.le_of_ble_eq_true rfl) rfl ?_
  have hn := hw.1
  have hlen := lsK_len_le t (tn t).toNat
  change (TL t).length ≤ 1029 at hlen
  obtain ⟨n, en⟩ : ∃ n, tn t = n := ⟨_, rfl⟩
  have hfl := tfit_lt hw a b c d
  -- the inner loop: the first place with that code
  have kI : ∀ (m : Nat) (k fd pb : Int) (τ : fs_S) (F : Option fs_V), -1 ≤ k → k < n → k < m → 0 ≤ pb → pb < ((TL t).length : Int) → (∀ p, 0 ≤ p → p < n → τ 17 p = pcd t a b c d p) → (∀ x, τ 14 pb = x → rg x) → (∀ p, 0 ≤ p → p < n → rg (pcd t a b c d p)) → 0 ≤ fd → fd ≤ n → 
      (∀ y9, fs_W (fs_Γ 4 (Q_pr t σ (aProbe t a b c d w))) mX7_probe 177 [some (.inr 0), some (.inl a), some (.inl b), some (.inl c), some (.inl d), some (.inl w), F, some (.inl (min fd (lea (fun p => decide (pcd t a b c d p = τ 14 pb)) n))), some (.inl pb), y9] [] τ) →
      fs_W (fs_Γ 4 (Q_pr t σ (aProbe t a b c d w))) mX7_probe 133 [some (.inr 0), some (.inl a), some (.inl b), some (.inl c), some (.inl d), some (.inl w), F, some (.inl (min fd (leg (fun p => decide (pcd t a b c d p = τ 14 pb)) (n - 1 - k).toNat (k + 1)))), some (.inl pb), some (.inl k)] [] τ := by
    intro m
    induction m with
    | zero =>
      intro k fd pb τ F h0 h1 h2 h3 h4 hC hx hP h5 h6 kk
      have ek : k = -1 := by omega
      subst ek
      have := kk (some (.inl (-1)))
      unfold lea at this
      refine fr_iload 135 dX7_probe_133 rfl rfl ?_
      refine fr_if_lt 177 138 dX7_probe_135 rfl rfl (by omega) (fun h135 => ?_) (fun h135 => ?_)
      · rw [show (n - 1 - -1).toNat = n.toNat by omega]
        exact this
      · exact absurd h135 (by omega)
    | succ m ih =>
      intro k fd pb τ F h0 h1 h2 h3 h4 hC hx hP h5 h6 kk
      have gs := leg_spec (fun p => decide (pcd t a b c d p = τ 14 pb)) (n - 1 - k).toNat (k + 1)
      by_cases hk : k < 0
      · have ek : k = -1 := by omega
        subst ek
        have := kk (some (.inl (-1)))
        unfold lea at this
        refine fr_iload 135 dX7_probe_133 rfl rfl ?_
        refine fr_if_lt 177 138 dX7_probe_135 rfl rfl (by omega) (fun h135 => ?_) (fun h135 => ?_)
        · rw [show (n - 1 - -1).toNat = n.toNat by omega]
          exact this
        · exact absurd h135 (by omega)
      · have hCk := hC k (by omega) h1
        have hPk := hP k (by omega) h1
        have hxx := hx _ rfl
        have step : leg (fun p => decide (pcd t a b c d p = τ 14 pb)) (n - 1 - (k - 1)).toNat (k - 1 + 1) = if pcd t a b c d k = τ 14 pb then k else leg (fun p => decide (pcd t a b c d p = τ 14 pb)) (n - 1 - k).toNat (k + 1) := by
          rw [show (n - 1 - (k - 1)).toNat = (n - 1 - k).toNat + 1 by omega, show k - 1 + 1 = k by omega, leg]
          simp only [decide_eq_true_eq]
        have nxt := ih (k - 1) fd pb τ F (by omega) (by omega) (by omega) h3 h4 hC hx hP h5 h6 kk
        rw [step] at nxt
        refine fr_iload 135 dX7_probe_133 rfl rfl ?_
        refine fr_if_lt 177 138 dX7_probe_135 rfl rfl (by omega) (fun h135 => ?_) (fun h135 => ?_)
        · exact absurd h135 (by omega)
        · refine fr_aload_n 139 dX7_probe_138 rfl rfl ?_
          refine fr_getr 142 17 dX7_probe_139 rfl fs_kX7_66 fs_l0 rfl ?_
          refine fr_iload 144 dX7_probe_142 rfl rfl ?_
          refine fr_iald 145 dX7_probe_144 rfl fs_l17 (by omega) ?_
          refine fr_top hCk ?_
          refine fr_aload_n 146 dX7_probe_145 rfl rfl ?_
          refine fr_getr 149 14 dX7_probe_146 rfl fs_kX7_57 fs_l0 rfl ?_
          refine fr_iload 151 dX7_probe_149 rfl rfl ?_
          refine fr_iald 152 dX7_probe_151 rfl fs_l14 (by omega) ?_
          refine fr_icmp_ne 167 155 dX7_probe_152 rfl rfl hPk hxx (fun h152 => ?_) (fun h152 => ?_)
          · refine fr_iload 169 dX7_probe_167 rfl rfl ?_
            refine fr_istore 171 [_, _, _, _, _, _, _, _, _, _] dX7_probe_169 rfl (Nat.le_of_ble_eq_true rfl) rfl ?_
            refine fr_iinc 174 [_, _, _, _, _, _, _, _, _, _] dX7_probe_171 rfl rfl rfl ?_
            refine fr_goto 133 dX7_probe_174 rfl ?_
            rw [show k + -1 = k - 1 by omega]
            first
            | (rw [if_neg (by omega)] at nxt; exact nxt)
            | (rw [if_pos (by omega), show min fd k = k by omega] at nxt; exact nxt)
            | (rw [if_pos (by omega), show min fd k = min fd (leg (fun p => decide (pcd t a b c d p = τ 14 pb)) (n - 1 - k).toNat (k + 1)) by omega] at nxt; exact nxt)
          · refine fr_iload 157 dX7_probe_155 rfl rfl ?_
            refine fr_iload 159 dX7_probe_157 rfl rfl ?_
            refine fr_icmp_ge 167 162 dX7_probe_159 rfl rfl (by omega) (by omega) (fun h159 => ?_) (fun h159 => ?_)
            · refine fr_iload 169 dX7_probe_167 rfl rfl ?_
              refine fr_istore 171 [_, _, _, _, _, _, _, _, _, _] dX7_probe_169 rfl (Nat.le_of_ble_eq_true rfl) rfl ?_
              refine fr_iinc 174 [_, _, _, _, _, _, _, _, _, _] dX7_probe_171 rfl rfl rfl ?_
              refine fr_goto 133 dX7_probe_174 rfl ?_
              rw [show k + -1 = k - 1 by omega]
              first
              | (rw [if_neg (by omega)] at nxt; exact nxt)
              | (rw [if_pos (by omega), show min fd k = k by omega] at nxt; exact nxt)
              | (rw [if_pos (by omega), show min fd k = min fd (leg (fun p => decide (pcd t a b c d p = τ 14 pb)) (n - 1 - k).toNat (k + 1)) by omega] at nxt; exact nxt)
            · refine fr_iload 164 dX7_probe_162 rfl rfl ?_
              refine fr_goto 169 dX7_probe_164 rfl ?_
              refine fr_istore 171 [_, _, _, _, _, _, _, _, _, _] dX7_probe_169 rfl (Nat.le_of_ble_eq_true rfl) rfl ?_
              refine fr_iinc 174 [_, _, _, _, _, _, _, _, _, _] dX7_probe_171 rfl rfl rfl ?_
              refine fr_goto 133 dX7_probe_174 rfl ?_
              rw [show k + -1 = k - 1 by omega]
              first
              | (rw [if_neg (by omega)] at nxt; exact nxt)
              | (rw [if_pos (by omega), show min fd k = k by omega] at nxt; exact nxt)
              | (rw [if_pos (by omega), show min fd k = min fd (leg (fun p => decide (pcd t a b c d p = τ 14 pb)) (n - 1 - k).toNat (k + 1)) by omega] at nxt; exact nxt)
  have kO : ∀ (m : Nat) (fd : Int) (pb : Nat) (τ : fs_S) (F y9 : Option fs_V), (((0 ≤ a ∧ a ≤ 63) ∧ (0 ≤ b ∧ b ≤ 63) ∧ (0 ≤ c ∧ c ≤ 63) ∧ 0 ≤ d ∧ d ≤ 3) ∧ 0 ≤ w ∧ w ≤ 2) → pb ≤ (TL t).length → (TL t).length - pb < m → LV τ t → OV τ t → τ 0 7 = 1 → τ 0 9 = 1 → frP σ τ → (∀ p, 0 ≤ p → p < n → τ 17 p = pcd t a b c d p) → (∀ p, 0 ≤ p → p < n → rg (pcd t a b c d p)) → 0 ≤ fd → fd ≤ n → prb (pcd t a b c d) n ((TL t).drop pb) fd (pb : Int) = prb (pcd t a b c d) n (TL t) n 0 →
      fs_W (fs_Γ 4 (Q_pr t σ (aProbe t a b c d w))) mX7_probe 104 [some (.inr 0), some (.inl a), some (.inl b), some (.inl c), some (.inl d), some (.inl w), F, some (.inl fd), some (.inl (pb : Int)), y9] [] τ := by
    intro m
    induction m with
    | zero => intro fd pb τ F y9 hok h0 h1; omega
    | succ m ih =>
      intro fd pb τ F y9 hok h0 h1 hV hO h7 h9 hF hC hP h5 h6 he
      have hM0 := hV.2.2.1
      have hm2 : τ 0 0 = n := by rw [hF _ _ (by decide) (by decide), hR.1, en]
      have fin : ∀ (v : Int), v = aProbe t a b c d w → Q_pr t σ (aProbe t a b c d w) (some v) τ := fun v h => ⟨congrArg some h, Or.inr ⟨hV, hO, h7, h9, hF⟩⟩
      have ex : (pb = (TL t).length ∨ ∃ x, (TL t)[pb]? = some x ∧ fd ≤ x.2) → prb (pcd t a b c d) n (TL t) n 0 = (fd, (pb : Int)) := by
        intro h
        rw [← he]
        rcases h with h | ⟨x, h, h'⟩
        · rw [h, List.drop_length, prb]
        · rw [List.drop_eq_getElem_cons (List.getElem?_eq_some_iff.mp h).1, (List.getElem?_eq_some_iff.mp h).2, prb, if_neg (by omega)]
      have out : prb (pcd t a b c d) n (TL t) n 0 = (fd, (pb : Int)) → ∀ y, fs_W (fs_Γ 4 (Q_pr t σ (aProbe t a b c d w))) mX7_probe 183 [some (.inr 0), some (.inl a), some (.inl b), some (.inl c), some (.inl d), some (.inl w), F, some (.inl fd), some (.inl (pb : Int)), y] [] τ := by
        intro hpr y
        have hans : aProbe t a b c d w = (if w = 1 then (pb : Int) else if w = 2 then (if (pb : Int) = 0 then -6 else (pb : Int) - 1) else if fd = n then -6 else tod t fd) := by
          unfold aProbe
          rw [if_pos hok, en, hpr]
        refine fr_iload 185 dX7_probe_183 rfl rfl ?_
        refine fr_iconst 186 dX7_probe_185 rfl ?_
        refine fr_icmp_ne 192 189 dX7_probe_186 rfl rfl (by omega) (by omega) (fun h186 => ?_) (fun h186 => ?_)
        · refine fr_iload 194 dX7_probe_192 rfl rfl ?_
          refine fr_iconst 195 dX7_probe_194 rfl ?_
          refine fr_icmp_ne 215 198 dX7_probe_195 rfl rfl (by omega) (by omega) (fun h195 => ?_) (fun h195 => ?_)
          · refine fr_iload 217 dX7_probe_215 rfl rfl ?_
            refine fr_aload_n 218 dX7_probe_217 rfl rfl ?_
            refine fr_geti 221 0 dX7_probe_218 rfl fs_kX7_104 rfl fs_l0 rfl ?_
            refine fr_icmp_ne 229 224 dX7_probe_221 rfl rfl (by omega) (by omega) (fun h221 => ?_) (fun h221 => ?_)
            · refine fr_aload_n 230 dX7_probe_229 rfl rfl ?_
              refine fr_getr 233 5 dX7_probe_230 rfl fs_kX7_29 fs_l0 rfl ?_
              refine fr_iload 235 dX7_probe_233 rfl rfl ?_
              refine fr_iald 236 dX7_probe_235 rfl fs_l5 (by omega) ?_
              refine fr_top (hO.1 fd h5 (by omega)) ?_
              refine fr_iret dX7_probe_236 rfl ?_
              refine fin _ ?_
              rw [hans, if_neg (by omega)]
              first
              | (rw [if_pos (by omega), if_pos (by omega)])
              | (rw [if_pos (by omega), if_neg (by omega)])
              | (rw [if_neg (by omega), if_pos (by omega)])
              | (rw [if_neg (by omega), if_neg (by omega)])
            · refine fr_bipush 226 dX7_probe_224 rfl (by decide) ?_
              refine fr_goto 236 dX7_probe_226 rfl ?_
              refine fr_iret dX7_probe_236 rfl ?_
              refine fin _ ?_
              rw [hans, if_neg (by omega)]
              first
              | (rw [if_pos (by omega), if_pos (by omega)])
              | (rw [if_pos (by omega), if_neg (by omega)])
              | (rw [if_neg (by omega), if_pos (by omega)])
              | (rw [if_neg (by omega), if_neg (by omega)])
          · refine fr_iload 200 dX7_probe_198 rfl rfl ?_
            refine fr_if_ne 208 203 dX7_probe_200 rfl rfl (by omega) (fun h200 => ?_) (fun h200 => ?_)
            · refine fr_iload 210 dX7_probe_208 rfl rfl ?_
              refine fr_iconst 211 dX7_probe_210 rfl ?_
              refine fr_isub 212 dX7_probe_211 rfl ?_
              refine fr_goto 236 dX7_probe_212 rfl ?_
              refine fr_iret dX7_probe_236 rfl ?_
              refine fin _ ?_
              rw [hans, if_neg (by omega)]
              first
              | (rw [if_pos (by omega), if_pos (by omega)])
              | (rw [if_pos (by omega), if_neg (by omega)])
              | (rw [if_neg (by omega), if_pos (by omega)])
              | (rw [if_neg (by omega), if_neg (by omega)])
            · refine fr_bipush 205 dX7_probe_203 rfl (by decide) ?_
              refine fr_goto 236 dX7_probe_205 rfl ?_
              refine fr_iret dX7_probe_236 rfl ?_
              refine fin _ ?_
              rw [hans, if_neg (by omega)]
              first
              | (rw [if_pos (by omega), if_pos (by omega)])
              | (rw [if_pos (by omega), if_neg (by omega)])
              | (rw [if_neg (by omega), if_pos (by omega)])
              | (rw [if_neg (by omega), if_neg (by omega)])
        · refine fr_iload 191 dX7_probe_189 rfl rfl ?_
          refine fr_iret dX7_probe_191 rfl ?_
          exact fin _ (by rw [hans, if_pos (by omega)])
      have hat : (pb : Int) < ((TL t).length : Int) → ∃ x, (TL t)[pb]? = some x ∧ τ 14 (pb : Int) = x.1 ∧ τ 15 (pb : Int) = x.2 ∧ (0 ≤ x.1 ∧ x.1 < 1029) ∧ (0 ≤ x.2 ∧ x.2 < n) := by
        intro h
        obtain ⟨q1, q2, q3⟩ := TL_at hn.1 (t := t) (i := (pb : Int)) (by omega) h
        rw [show (pb : Int).toNat = pb by omega] at q1 q2 q3
        have q4 := hV.2.2.2 _ _ q1
        exact ⟨_, q1, q4.1, q4.2, q2, by omega⟩
      refine fr_iload 106 dX7_probe_104 rfl rfl ?_
      refine fr_aload_n 107 dX7_probe_106 rfl rfl ?_
      refine fr_geti 110 23 dX7_probe_107 rfl fs_kX7_199 rfl fs_l0 rfl ?_
      refine fr_icmp_ge 183 113 dX7_probe_110 rfl rfl (by omega) (by omega) (fun h110 => ?_) (fun h110 => ?_)
      · exact out (ex (Or.inl (by omega))) _
      · obtain ⟨x, x1, x2, x3, x4, x5⟩ := hat (by omega)
        refine fr_aload_n 114 dX7_probe_113 rfl rfl ?_
        refine fr_getr 117 15 dX7_probe_114 rfl fs_kX7_60 fs_l0 rfl ?_
        refine fr_iload 119 dX7_probe_117 rfl rfl ?_
        refine fr_iald 120 dX7_probe_119 rfl fs_l15 (by omega) ?_
        refine fr_iload 122 dX7_probe_120 rfl rfl ?_
        refine fr_icmp_ge 183 125 dX7_probe_122 rfl rfl (by omega) (by omega) (fun h122 => ?_) (fun h122 => ?_)
        · exact out (ex (Or.inr ⟨x, x1, by omega⟩)) _
        · refine fr_aload_n 126 dX7_probe_125 rfl rfl ?_
          refine fr_geti 129 0 dX7_probe_126 rfl fs_kX7_104 rfl fs_l0 rfl ?_
          refine fr_top hm2 ?_
          refine fr_iconst 130 dX7_probe_129 rfl ?_
          refine fr_isub 131 dX7_probe_130 rfl ?_
          refine fr_istore 133 [_, _, _, _, _, _, _, _, _, _] dX7_probe_131 rfl (Nat.le_of_ble_eq_true rfl) rfl ?_
          clear ex out hat
          have := kI (n.toNat + 1) (n - 1) fd (pb : Int) τ F (by omega) (by omega) (by omega) (by omega) (by omega) hC (fun z hz => by rw [← hz, x2]; omega) hP h5 h6 (fun y9' => ?_)
          · rw [show (n - 1 - (n - 1)).toNat = 0 by omega, leg, show min fd (n - 1 + 1) = fd by omega] at this
            exact this
          · have ls := lea_spec (fun p => decide (pcd t a b c d p = τ 14 (pb : Int))) (n := n) (by omega)
            refine fr_iinc 180 [_, _, _, _, _, _, _, _, _, _] dX7_probe_177 rfl rfl rfl ?_
            refine fr_goto 104 dX7_probe_180 rfl ?_
            rw [show (pb : Int) + 1 = ((pb + 1 : Nat) : Int) by omega]
            refine ih _ (pb + 1) _ _ _ hok (by omega) (by omega) hV hO h7 h9 hF hC hP (by omega) (by omega) ?_
            rw [← he, List.drop_eq_getElem_cons (i := pb) (List.getElem?_eq_some_iff.mp x1).1, (List.getElem?_eq_some_iff.mp x1).2, prb, if_pos (by omega), x2, show (pb : Int) + 1 = ((pb + 1 : Nat) : Int) by omega]
  have kC : ∀ (m : Nat) (k : Int) (τ : fs_S), (((0 ≤ a ∧ a ≤ 63) ∧ (0 ≤ b ∧ b ≤ 63) ∧ (0 ≤ c ∧ c ≤ 63) ∧ 0 ≤ d ∧ d ≤ 3) ∧ 0 ≤ w ∧ w ≤ 2) → 0 ≤ k → k ≤ n → n - k < m → LV τ t → OV τ t → τ 0 7 = 1 → τ 0 9 = 1 → frP σ τ → (∀ p, 0 ≤ p → p < k → τ 17 p = pcd t a b c d p) → (∀ p, 0 ≤ p → p < n → rg (pcd t a b c d p)) →
      fs_W (fs_Γ 4 (Q_pr t σ (aProbe t a b c d w))) mX7_probe 42 [some (.inr 0), some (.inl a), some (.inl b), some (.inl c), some (.inl d), some (.inl w), some (.inl ((tfit t a b c d : Nat) : Int)), some (.inl k), none, none] [] τ := by
    intro m
    induction m with
    | zero => intro k τ hok h0 h1 h2; omega
    | succ m ih =>
      intro k τ hok h0 h1 h2 hV hO h7 h9 hF hC hP
      have hm2 : τ 0 0 = n := by rw [hF _ _ (by decide) (by decide), hR.1, en]
      have hRt : RM τ t := hR.eq hw (hF _ _ (by decide) (by decide)) (fun k i a b _ _ => hF k i (by omega) (by omega))
      have ek : k = ((k.toNat : Nat) : Int) := by omega
      have chas : k < n → fs_C mX7_has 0 [.inl ((tfit t a b c d : Nat) : Int), .inl k] τ (fun x τ' => x = some (if (tfit t a b c d).testBit k.toNat then 1 else 0) ∧ τ' = τ) := fun h => by
        have := cM_has (σ := τ) (m := tfit t a b c d) (i := k.toNat) hfl (by omega)
        rw [← ek] at this
        exact this
      have nxt : ∀ v, k < n → v = pcd t a b c d k → fs_W (fs_Γ 4 (Q_pr t σ (aProbe t a b c d w))) mX7_probe 88 [some (.inr 0), some (.inl a), some (.inl b), some (.inl c), some (.inl d), some (.inl w), some (.inl ((tfit t a b c d : Nat) : Int)), some (.inl k), none, none] [.inl v, .inl k, .inr 17] τ := by
        intro v hk hv'
        refine fr_iast 89 dX7_probe_88 rfl fs_l17 (by omega) ?_
        refine fr_iinc 92 [_, _, _, _, _, _, _, _, _, _] dX7_probe_89 rfl rfl rfl ?_
        refine fr_goto 42 dX7_probe_92 rfl ?_
        refine ih (k + 1) _ hok (by omega) (by omega) (by omega) (hV.eq (fs_u_k _ _ (by decide)) (fun k' i b1 b2 => fs_u_k _ _ (by omega))) (hO.eq (fun k' i h => fs_u_k _ _ (by omega))) (by rw [fs_u_k _ _ (by decide)]; exact h7) (by rw [fs_u_k _ _ (by decide)]; exact h9) (fun k' i b1 b2 => by rw [fs_u_k _ _ (by omega)]; exact hF k' i b1 b2) (fun p b1 b2 => ?_) hP
        by_cases e : p = k
        · rw [e, fs_u_eq]; exact hv'
        · rw [fs_u_i _ e]; exact hC p b1 (by omega)
      refine fr_iload 44 dX7_probe_42 rfl rfl ?_
      refine fr_aload_n 45 dX7_probe_44 rfl rfl ?_
      refine fr_geti 48 0 dX7_probe_45 rfl fs_kX7_104 rfl fs_l0 rfl ?_
      refine fr_icmp_ge 95 51 dX7_probe_48 rfl rfl (by omega) (by omega) (fun h48 => ?_) (fun h48 => ?_)
      · refine fr_aload_n 96 dX7_probe_95 rfl rfl ?_
        refine fr_geti 99 0 dX7_probe_96 rfl fs_kX7_104 rfl fs_l0 rfl ?_
        refine fr_top hm2 ?_
        refine fr_istore 101 [_, _, _, _, _, _, _, _, _, _] dX7_probe_99 rfl (Nat.le_of_ble_eq_true rfl) rfl ?_
        refine fr_iconst 102 dX7_probe_101 rfl ?_
        refine fr_istore 104 [_, _, _, _, _, _, _, _, _, _] dX7_probe_102 rfl (Nat.le_of_ble_eq_true rfl) rfl ?_
        exact kO ((TL t).length + 1) n 0 _ _ _ hok (by omega) (by omega) hV hO h7 h9 hF (fun p b1 b2 => hC p b1 (by omega)) hP (by omega) (by omega) rfl
      · refine fr_aload_n 52 dX7_probe_51 rfl rfl ?_
        refine fr_getr 55 17 dX7_probe_52 rfl fs_kX7_66 fs_l0 rfl ?_
        refine fr_iload 57 dX7_probe_55 rfl rfl ?_
        refine fr_iload 59 dX7_probe_57 rfl rfl ?_
        refine fr_iload 61 dX7_probe_59 rfl rfl ?_
        refine fr_callSi 64 (M2 := mX7_has) [_, _] dX7_probe_61 rfl fs_mX7_107 fs_oX7_has fs_sX7_has rfl (fs_Γ_rm (d := 0) (by decide)) (Nat.le_of_ble_eq_true rfl) rfl ?_
        refine (chas (by omega)).ci ?_
        refine fr_if_eq 86 67 dX7_probe_64 rfl rfl (by omega) (fun h64 => ?_) (fun h64 => ?_)
        · refine fr_bipush 88 dX7_probe_86 rfl (by decide) ?_
          refine nxt _ (by omega) ?_
          unfold pcd
          first
          | (rw [if_pos hbit])
          | (rw [if_neg]; intro z; rw [if_pos z] at h64; omega)
        · have hbit : (tfit t a b c d).testBit k.toNat = true := by
            cases hx : (tfit t a b c d).testBit k.toNat with
            | true => rfl
            | false => rw [hx] at h64; exact absurd rfl h64
          obtain ⟨f0, f1, f2, f3, f4⟩ := tfit_fit hbit
          rw [← ek] at f0 f1 f2 f3 f4
          have hod := tod_r (t := t) h0 (by omega)
          refine fr_aload_n 68 dX7_probe_67 rfl rfl ?_
          refine fr_aload_n 69 dX7_probe_68 rfl rfl ?_
          refine fr_getr 72 5 dX7_probe_69 rfl fs_kX7_29 fs_l0 rfl ?_
          refine fr_iload 74 dX7_probe_72 rfl rfl ?_
          refine fr_iald 75 dX7_probe_74 rfl fs_l5 (by omega) ?_
          refine fr_top (hO.1 k h0 (by omega)) ?_
          refine fr_iload_n 76 dX7_probe_75 rfl rfl ?_
          refine fr_iload_n 77 dX7_probe_76 rfl rfl ?_
          refine fr_iload_n 78 dX7_probe_77 rfl rfl ?_
          refine fr_iload 80 dX7_probe_78 rfl rfl ?_
          refine fr_callVi 83 (M2 := mX7_codeOf) [_, _, _, _, _] dX7_probe_80 rfl fs_mX7_214 fs_oX7_codeOf fs_iX7_codeOf fs_l0 rfl rfl (fs_Γ_rm (d := 3) (by decide)) (Nat.le_of_ble_eq_true rfl) rfl ?_
          refine (cM_codeOf hw hRt ⟨hod.1, hod.2.1⟩ f1 f2 f3 f4).ci ?_
          refine fr_goto 88 dX7_probe_83 rfl ?_
          refine nxt _ (by omega) ?_
          unfold pcd
          first
          | (rw [if_pos hbit])
          | (rw [if_neg]; intro z; rw [if_pos z] at h64; omega)
  have hPr : (((0 ≤ a ∧ a ≤ 63) ∧ (0 ≤ b ∧ b ≤ 63) ∧ (0 ≤ c ∧ c ≤ 63) ∧ 0 ≤ d ∧ d ≤ 3)) → ∀ p, 0 ≤ p → p < n → rg (pcd t a b c d p) := by
    intro _ p _ _
    unfold pcd cdO
    have e0 := loF_le (wN 0) (tH t (tod t p) 0) a.toNat 65 (tL t (tod t p) 0)
    have e1 := loF_le (wN 1) (tH t (tod t p) 1) b.toNat 65 (tL t (tod t p) 1)
    have e2 := loF_le (wN 2) (tH t (tod t p) 2) c.toNat 65 (tL t (tod t p) 2)
    have e3 := loF_le (wN 3) (tH t (tod t p) 3) d.toNat 65 (tL t (tod t p) 3)
    have w0 := wN_r 0
    have w1 := wN_r 1
    have w2 := wN_r 2
    have w3 := wN_r 3
    split <;> (constructor <;> omega)
  refine fr_iload_n 1 dX7_probe_0 rfl rfl ?_
  refine fr_iload_n 2 dX7_probe_1 rfl rfl ?_
  refine fr_iload_n 3 dX7_probe_2 rfl rfl ?_
  refine fr_iload 5 dX7_probe_3 rfl rfl ?_
  refine fr_callSi 8 (M2 := mX7_isPacket) [_, _, _, _] dX7_probe_5 rfl fs_mX7_150 fs_oX7_isPacket fs_sX7_isPacket rfl (fs_Γ_rm (d := 1) (by decide)) (Nat.le_of_ble_eq_true rfl) rfl ?_
  refine (cM_isPacket ha hbb hc hd).ci ?_
  refine fr_if_eq 21 11 dX7_probe_8 rfl rfl (by omega) (fun h8 => ?_) (fun h8 => ?_)
  · refine fr_bipush 23 dX7_probe_21 rfl (by decide) ?_
    refine fr_iret dX7_probe_23 rfl ?_
    exact ⟨congrArg some (by unfold aProbe; rw [if_neg (by omega)]), Or.inl rfl⟩
  · refine fr_iload 13 dX7_probe_11 rfl rfl ?_
    refine fr_iconst 14 dX7_probe_13 rfl ?_
    refine fr_iconst 15 dX7_probe_14 rfl ?_
    refine fr_callSi 18 (M2 := mX7_in) [_, _, _] dX7_probe_15 rfl fs_mX7_100 fs_oX7_in fs_sX7_in rfl (fs_Γ_rm (d := 0) (by decide)) (Nat.le_of_ble_eq_true rfl) rfl ?_
    refine (cM_in hww (by decide) (by decide)).ci ?_
    refine fr_if_ne 24 21 dX7_probe_18 rfl rfl (by omega) (fun h18 => ?_) (fun h18 => ?_)
    · refine fr_aload_n 25 dX7_probe_24 rfl rfl ?_
      refine fr_callVv 28 (M2 := mX7_listTuples) [] dX7_probe_25 rfl fs_mX7_202 fs_oX7_listTuples fs_iX7_listTuples fs_l0 rfl rfl (fs_Γ_rm (d := 3) (by decide)) (Nat.le_of_ble_eq_true rfl) rfl ?_
      have hok : ((0 ≤ a ∧ a ≤ 63) ∧ (0 ≤ b ∧ b ≤ 63) ∧ (0 ≤ c ∧ c ≤ 63) ∧ 0 ≤ d ∧ d ≤ 3) ∧ 0 ≤ w ∧ w ≤ 2 := by omega
      refine (cM_listTuples hw hR hb hv hb9 hv9).mono ?_
      rintro _ τ ⟨rfl, hV, hO, h7, h9, hF⟩
      refine ⟨rfl, ?_⟩
      have hRt : RM τ t := hR.eq hw (hF _ _ (by decide) (by decide)) (fun k i a b _ _ => hF k i (by omega) (by omega))
      refine fr_aload_n 29 dX7_probe_28 rfl rfl ?_
      refine fr_iload_n 30 dX7_probe_29 rfl rfl ?_
      refine fr_iload_n 31 dX7_probe_30 rfl rfl ?_
      refine fr_iload_n 32 dX7_probe_31 rfl rfl ?_
      refine fr_iload 34 dX7_probe_32 rfl rfl ?_
      refine fr_callVi 37 (M2 := mX7_fitting) [_, _, _, _] dX7_probe_34 rfl fs_mX7_154 fs_oX7_fitting fs_iX7_fitting fs_l0 rfl rfl (fs_Γ_rm (d := 3) (by decide)) (Nat.le_of_ble_eq_true rfl) rfl ?_
      refine (cM_fitting hw hRt (Or.inr h7) (fun _ => hO) hok.1.1 hok.1.2.1 hok.1.2.2.1 hok.1.2.2.2).mono ?_
      rintro _ τ2 ⟨rfl, hO2, h72, hF2⟩
      refine ⟨_, rfl, ?_⟩
      refine fr_istore 39 [_, _, _, _, _, _, _, _, _, _] dX7_probe_37 rfl (Nat.le_of_ble_eq_true rfl) rfl ?_
      refine fr_iconst 40 dX7_probe_39 rfl ?_
      refine fr_istore 42 [_, _, _, _, _, _, _, _, _, _] dX7_probe_40 rfl (Nat.le_of_ble_eq_true rfl) rfl ?_
      exact kC (n.toNat + 1) 0 _ hok (by omega) (by omega) (by omega) (hV.eq (hF2 _ _ (by decide) (by decide) (by decide)) (fun k i b1 b2 => hF2 k i (by omega) (by omega) (by omega))) hO2 h72 ((hF2 _ _ (by decide) (by decide) (by decide)).trans h9) (fun k i b1 b2 => (hF2 k i (by omega) (by omega) (by omega)).trans (hF k i (by omega) (by omega))) (fun p b1 b2 => by omega) (hPr hok.1)
    · refine fr_bipush 23 dX7_probe_21 rfl (by decide) ?_
      refine fr_iret dX7_probe_23 rfl ?_
      exact ⟨congrArg some (by unfold aProbe; rw [if_neg (by omega)]), Or.inl rfl⟩
