/-! ===== the model: list of tuples, tuple, probe ===== -/
abbrev frL (σ τ : fs_S) : Prop := ∀ k i, ¬ (k = 5 ∨ k = 6 ∨ 13 ≤ k ∧ k ≤ 16) → ¬ (k = 0 ∧ (i = 7 ∨ i = 9 ∨ i = 23)) → τ k i = σ k i
def Q_lt (t : rt) (σ : fs_S) : fs_Q := fun x τ => x = none ∧ LV τ t ∧ OV τ t ∧ τ 0 7 = 1 ∧ τ 0 9 = 1 ∧ frL σ τ
set_option maxRecDepth 100000 in
set_option maxHeartbeats 1500000 in
theorem cM_listTuples {σ : fs_S} {t : rt} (hw : twf t) (hR : RM σ t) (hb : σ 0 7 = 0 ∨ σ 0 7 = 1) (hv : σ 0 7 = 1 → OV σ t) (hb9 : σ 0 9 = 0 ∨ σ 0 9 = 1) (hv9 : σ 0 9 = 1 → LV σ t) : fs_C mX7_listTuples 3 [.inr 0] σ (Q_lt t σ) := by
  refine fs_C.intro [some (.inr 0), none, none] fs_oX7_listTuples (Nat.le_of_ble_eq_true rfl) rfl ?_
  have hn := hw.1
  have hm := hR.1
  have hRt : ∀ τ, frL σ τ → RM τ t := fun τ h => hR.eq hw (h _ _ (by decide) (by decide)) (fun k i a b _ _ => h k i (by omega) (by omega))
  obtain ⟨N, eN⟩ : ∃ N : Nat, (N : Int) = tn t := ⟨(tn t).toNat, by omega⟩
  have k4 : ∀ (m c k : Nat) (τ : fs_S), k < N → c + m = 1029 → OV τ t → τ 0 7 = 1 → τ 0 9 = 1 → frL σ τ → LC τ t → LB τ t → LM τ (lsK t k ++ lsC t (k : Int) c) →
      (∀ (τ' : fs_S) y, OV τ' t → τ' 0 7 = 1 → τ' 0 9 = 1 → frL σ τ' → LC τ' t → LB τ' t → LM τ' (lsK t (k + 1)) → fs_W (fs_Γ 3 (Q_lt t σ)) mX7_listTuples 168 [some (.inr 0), some (.inl (k : Int)), y] [] τ') →
      fs_W (fs_Γ 3 (Q_lt t σ)) mX7_listTuples 103 [some (.inr 0), some (.inl (k : Int)), some (.inl (c : Int))] [] τ := by
    intro m
    induction m with
    | zero =>
      intro c k τ h0 h1 hO h7 h9 hF hC hB hM kk
      have ec : c = 1029 := by omega
      subst ec
      refine fr_iload_n 104 dX7_listTuples_103 rfl rfl ?_
      refine fr_sipush 107 dX7_listTuples_104 rfl (by decide) ?_
      refine fr_icmp_ge 168 110 dX7_listTuples_107 rfl rfl (by omega) (by omega) (fun h107 => ?_) (fun h107 => ?_)
      · exact kk _ _ hO h7 h9 hF hC hB (by rw [lsK]; exact hM)
      · exact absurd h107 (by omega)
    | succ m ih =>
      intro c k τ h0 h1 hO h7 h9 hF hC hB hM kk
      have hmb := hB (c : Int) (by omega) (by omega)
      have hml := mb_lt hw (c : Int)
      have skip : qt t (k : Int) (c : Int) = false → fs_W (fs_Γ 3 (Q_lt t σ)) mX7_listTuples 162 [some (.inr 0), some (.inl (k : Int)), some (.inl (c : Int))] [] τ := by
        intro hq
        refine fr_iinc 165 [_, _, _] dX7_listTuples_162 rfl rfl rfl ?_
        refine fr_goto 103 dX7_listTuples_165 rfl ?_
        exact ih (c + 1) k τ h0 (by omega) hO h7 h9 hF hC hB (by rw [lsC, hq]; simpa using hM) kk
      refine fr_iload_n 104 dX7_listTuples_103 rfl rfl ?_
      refine fr_sipush 107 dX7_listTuples_104 rfl (by decide) ?_
      refine fr_icmp_ge 168 110 dX7_listTuples_107 rfl rfl (by omega) (by omega) (fun h107 => ?_) (fun h107 => ?_)
      · exact absurd h107 (by omega)
      · refine fr_aload_n 111 dX7_listTuples_110 rfl rfl ?_
        refine fr_getr 114 16 dX7_listTuples_111 rfl fs_kX7_63 fs_l0 rfl ?_
        refine fr_iload_n 115 dX7_listTuples_114 rfl rfl ?_
        refine fr_iald 116 dX7_listTuples_115 rfl fs_l16 (by omega) ?_
        refine fr_top hmb ?_
        refine fr_if_eq 162 119 dX7_listTuples_116 rfl rfl (by omega) (fun h116 => ?_) (fun h116 => ?_)
        · exact skip (decide_eq_false (fun z => z.1 (by omega)))
        · refine fr_aload_n 120 dX7_listTuples_119 rfl rfl ?_
          refine fr_getr 123 16 dX7_listTuples_120 rfl fs_kX7_63 fs_l0 rfl ?_
          refine fr_iload_n 124 dX7_listTuples_123 rfl rfl ?_
          refine fr_iald 125 dX7_listTuples_124 rfl fs_l16 (by omega) ?_
          refine fr_top hmb ?_
          refine fr_callSi 128 (M2 := mX7_lowest) [_] dX7_listTuples_125 rfl fs_mX7_158 fs_oX7_lowest fs_sX7_lowest rfl (fs_Γ_rm (d := 1) (by decide)) (Nat.le_of_ble_eq_true rfl) rfl ?_
          refine (cM_lowest hml).ci ?_
          obtain ⟨j, ej, hj, -, -⟩ := lowb_spec hml (by omega)
          refine fr_iload_n 129 dX7_listTuples_128 rfl rfl ?_
          refine fr_icmp_ne 162 132 dX7_listTuples_129 rfl rfl (by omega) (by omega) (fun h129 => ?_) (fun h129 => ?_)
          · exact skip (decide_eq_false (fun z => h129 z.2))
          · have hq : qt t (k : Int) (c : Int) = true := decide_eq_true ⟨by omega, h129⟩
            have hlt := ls_lt (by omega) hq
            have hM0 := hM.1
            obtain ⟨ln, eln⟩ : ∃ ln : Int, ((lsK t k ++ lsC t (k : Int) c).length : Int) = ln := ⟨_, rfl⟩
            rw [eln] at hM0
            refine fr_aload_n 133 dX7_listTuples_132 rfl rfl ?_
            refine fr_getr 136 14 dX7_listTuples_133 rfl fs_kX7_57 fs_l0 rfl ?_
            refine fr_aload_n 137 dX7_listTuples_136 rfl rfl ?_
            refine fr_geti 140 23 dX7_listTuples_137 rfl fs_kX7_199 rfl fs_l0 rfl ?_
            refine fr_top hM0 ?_
            refine fr_iload_n 141 dX7_listTuples_140 rfl rfl ?_
            refine fr_iast 142 dX7_listTuples_141 rfl fs_l14 (by omega) ?_
            refine fr_aload_n 143 dX7_listTuples_142 rfl rfl ?_
            refine fr_getr 146 15 dX7_listTuples_143 rfl fs_kX7_60 fs_l0 rfl ?_
            refine fr_aload_n 147 dX7_listTuples_146 rfl rfl ?_
            refine fr_geti 150 23 dX7_listTuples_147 rfl fs_kX7_199 rfl fs_l0 rfl ?_
            refine fr_top (y := ln) (by rw [fs_u_k _ _ (by decide)]; exact hM0) ?_
            refine fr_iload_n 151 dX7_listTuples_150 rfl rfl ?_
            refine fr_iast 152 dX7_listTuples_151 rfl fs_l15 (by omega) ?_
            refine fr_aload_n 153 dX7_listTuples_152 rfl rfl ?_
            refine fr_dup 154 dX7_listTuples_153 rfl ?_
            refine fr_geti 157 23 dX7_listTuples_154 rfl fs_kX7_199 rfl fs_l0 rfl ?_
            refine fr_top (y := ln) (by rw [fs_u_k _ _ (by decide), fs_u_k _ _ (by decide)]; exact hM0) ?_
            refine fr_iconst 158 dX7_listTuples_157 rfl ?_
            refine fr_iadd 159 dX7_listTuples_158 rfl ?_
            refine fr_puti 162 23 dX7_listTuples_159 rfl fs_kX7_199 fs_pX7_23 rfl fs_l0 rfl ?_
            show fs_W _ _ _ _ _ _
            refine fr_iinc 165 [_, _, _] dX7_listTuples_162 rfl rfl rfl ?_
            refine fr_goto 103 dX7_listTuples_165 rfl ?_
            refine ih (c + 1) k _ h0 (by omega) (hO.eq (fun k' i h => by rw [fs_u_k _ _ (by omega), fs_u_k _ _ (by omega), fs_u_k _ _ (by omega)])) ?_ ?_ (fun k' i a b => ?_) (fun r f len b1 b2 b3 b4 b5 b6 => ?_) (fun c' b1 b2 => ?_) ?_ kk
            · rw [fs_u_ne _ (by decide), fs_u_k _ _ (by decide), fs_u_k _ _ (by decide)]; exact h7
            · rw [fs_u_ne _ (by decide), fs_u_k _ _ (by decide), fs_u_k _ _ (by decide)]; exact h9
            · rw [fs_u_ne _ (by omega), fs_u_k _ _ (by omega), fs_u_k _ _ (by omega)]; exact hF k' i a b
            · rw [fs_u_k _ _ (by decide), fs_u_k _ _ (by decide), fs_u_k _ _ (by decide)]; exact hC r f len b1 b2 b3 b4 b5 b6
            · rw [fs_u_k _ _ (by decide), fs_u_k _ _ (by decide), fs_u_k _ _ (by decide)]; exact hB c' b1 b2
            · rw [lsC, if_pos hq, ← List.append_assoc]
              refine hM.push ?_ ?_ (fun k' i b1 b2 => ?_)
              · rw [eln, fs_u_eq]
              · rw [eln, fs_u_k _ _ (by decide), fs_u_k _ _ (by decide), fs_u_eq, fs_u_k _ _ (by decide), fs_u_eq]; exact ⟨rfl, rfl⟩
              · rw [eln] at b2
                rw [fs_u_k _ _ (by omega), fs_u_ne _ (by omega), fs_u_ne _ (by omega)]
  have k3 : ∀ (m k : Nat) (τ : fs_S) (y : Option fs_V), k + m = N → OV τ t → τ 0 7 = 1 → τ 0 9 = 1 → frL σ τ → LC τ t → LB τ t → LM τ (lsK t k) →
      fs_W (fs_Γ 3 (Q_lt t σ)) mX7_listTuples 93 [some (.inr 0), some (.inl (k : Int)), y] [] τ := by
    intro m
    induction m with
    | zero =>
      intro k τ y h1 hO h7 h9 hF hC hB hM
      have hm2 := (hRt _ hF).1
      refine fr_iload_n 94 dX7_listTuples_93 rfl rfl ?_
      refine fr_aload_n 95 dX7_listTuples_94 rfl rfl ?_
      refine fr_geti 98 0 dX7_listTuples_95 rfl fs_kX7_104 rfl fs_l0 rfl ?_
      refine fr_icmp_ge 174 101 dX7_listTuples_98 rfl rfl (by omega) (by omega) (fun h98 => ?_) (fun h98 => ?_)
      · refine fr_vret dX7_listTuples_174 rfl ?_
        exact ⟨rfl, ⟨hC, hB, by unfold TL; rw [show (tn t).toNat = k by omega]; exact hM⟩, hO, h7, h9, hF⟩
      · exact absurd h98 (by omega)
    | succ m ih =>
      intro k τ y h1 hO h7 h9 hF hC hB hM
      have hm2 := (hRt _ hF).1
      refine fr_iload_n 94 dX7_listTuples_93 rfl rfl ?_
      refine fr_aload_n 95 dX7_listTuples_94 rfl rfl ?_
      refine fr_geti 98 0 dX7_listTuples_95 rfl fs_kX7_104 rfl fs_l0 rfl ?_
      refine fr_icmp_ge 174 101 dX7_listTuples_98 rfl rfl (by omega) (by omega) (fun h98 => ?_) (fun h98 => ?_)
      · exact absurd h98 (by omega)
      · refine fr_iconst 102 dX7_listTuples_101 rfl ?_
        refine fr_istore_n 103 [_, _, _] dX7_listTuples_102 rfl (Nat.le_of_ble_eq_true rfl) rfl ?_
        refine k4 1029 0 k _ (by omega) (Nat.zero_add _) hO h7 h9 hF hC hB (by rw [show lsC t (k : Int) 0 = [] from rfl, List.append_nil]; exact hM) (fun τ' y' hO' h7' h9' hF' hC' hB' hM' => ?_)
        refine fr_iinc 171 [_, _, _] dX7_listTuples_168 rfl rfl rfl ?_
        refine fr_goto 93 dX7_listTuples_171 rfl ?_
        exact ih (k + 1) _ _ (by omega) hO' h7' h9' hF' hC' hB' hM'
  have k2 : ∀ (m : Nat) (c : Int) (τ : fs_S), 0 ≤ c → c ≤ 1029 → 1029 - c < m → OV τ t → τ 0 7 = 1 → τ 0 9 = 1 → frL σ τ → LC τ t → (∀ c', 0 ≤ c' → c' < c → τ 16 c' = ((mb t c' : Nat) : Int)) →
      fs_W (fs_Γ 3 (Q_lt t σ)) mX7_listTuples 62 [some (.inr 0), some (.inl c), none] [] τ := by
    intro m
    induction m with
    | zero => intro c τ h0 h1 h2; omega
    | succ m ih =>
      intro c τ h0 h1 h2 hO h7 h9 hF hC hB
      refine fr_iload_n 63 dX7_listTuples_62 rfl rfl ?_
      refine fr_sipush 66 dX7_listTuples_63 rfl (by decide) ?_
      refine fr_icmp_ge 86 69 dX7_listTuples_66 rfl rfl (by omega) (by omega) (fun h66 => ?_) (fun h66 => ?_)
      · refine fr_aload_n 87 dX7_listTuples_86 rfl rfl ?_
        refine fr_iconst 88 dX7_listTuples_87 rfl ?_
        refine fr_puti 91 23 dX7_listTuples_88 rfl fs_kX7_199 fs_pX7_23 rfl fs_l0 rfl ?_
        refine fr_iconst 92 dX7_listTuples_91 rfl ?_
        refine fr_istore_n 93 [_, _, _] dX7_listTuples_92 rfl (Nat.le_of_ble_eq_true rfl) rfl ?_
        refine k3 N 0 _ _ (by omega) (hO.eq (fun k' i h => fs_u_k _ _ (by omega))) ?_ ?_ (fun k' i a b => ?_) (fun r f len b1 b2 b3 b4 b5 b6 => ?_) (fun c' a b => ?_) ⟨fs_u_eq _ _ _ _, fun i x hx => by simp [lsK] at hx⟩
        · rw [fs_u_ne _ (by decide)]; exact h7
        · rw [fs_u_ne _ (by decide)]; exact h9
        · rw [fs_u_ne _ (by omega)]; exact hF k' i a b
        · rw [fs_u_k _ _ (by decide)]; exact hC r f len b1 b2 b3 b4 b5 b6
        · rw [fs_u_k _ _ (by decide)]; exact hB c' a (by omega)
      · refine fr_aload_n 70 dX7_listTuples_69 rfl rfl ?_
        refine fr_getr 73 16 dX7_listTuples_70 rfl fs_kX7_63 fs_l0 rfl ?_
        refine fr_iload_n 74 dX7_listTuples_73 rfl rfl ?_
        refine fr_aload_n 75 dX7_listTuples_74 rfl rfl ?_
        refine fr_iload_n 76 dX7_listTuples_75 rfl rfl ?_
        refine fr_callVi 79 (M2 := mX7_membersOf) [_] dX7_listTuples_76 rfl fs_mX7_196 fs_oX7_membersOf fs_iX7_membersOf fs_l0 rfl rfl (fs_Γ_rm (d := 2) (by decide)) (Nat.le_of_ble_eq_true rfl) rfl ?_
        refine (cM_membersOf hw (hRt _ hF) hO.1 hC (by omega)).ci ?_
        refine fr_iast 80 dX7_listTuples_79 rfl fs_l16 (by omega) ?_
        refine fr_iinc 83 [_, _, _] dX7_listTuples_80 rfl rfl rfl ?_
        refine fr_goto 62 dX7_listTuples_83 rfl ?_
        refine ih (c + 1) _ (by omega) (by omega) (by omega) (hO.eq (fun k' i h => fs_u_k _ _ (by omega))) (by rw [fs_u_k _ _ (by decide)]; exact h7) (by rw [fs_u_k _ _ (by decide)]; exact h9) (fun k' i a b => by rw [fs_u_k _ _ (by omega)]; exact hF k' i a b) (fun r f len b1 b2 b3 b4 b5 b6 => by rw [fs_u_k _ _ (by decide)]; exact hC r f len b1 b2 b3 b4 b5 b6) (fun c' a b => ?_)
        by_cases e : c' = c
        · rw [e]; exact fs_u_eq _ _ _ _
        · rw [fs_u_i _ e]; exact hB c' a (by omega)
  have k1 : ∀ (m : Nat) (j : Int) (τ : fs_S), 0 ≤ j → j ≤ 28 * tn t → 28 * tn t - j < m → OV τ t → τ 0 7 = 1 → τ 0 9 = 1 → frL σ τ → (∀ i, 0 ≤ i → i < j → τ 13 i = ol t (i / 28) (i / 7 % 4) (i % 7)) →
      fs_W (fs_Γ 3 (Q_lt t σ)) mX7_listTuples 19 [some (.inr 0), some (.inl j), none] [] τ := by
    intro m
    induction m with
    | zero => intro j τ h0 h1 h2; omega
    | succ m ih =>
      intro j τ h0 h1 h2 hO h7 h9 hF hC
      have hm2 := (hRt _ hF).1
      refine fr_iload_n 20 dX7_listTuples_19 rfl rfl ?_
      refine fr_bipush 22 dX7_listTuples_20 rfl (by decide) ?_
      refine fr_aload_n 23 dX7_listTuples_22 rfl rfl ?_
      refine fr_geti 26 0 dX7_listTuples_23 rfl fs_kX7_104 rfl fs_l0 rfl ?_
      refine fr_imul 27 dX7_listTuples_26 rfl ?_
      refine fr_icmp_ge 60 30 dX7_listTuples_27 rfl rfl (by omega) (by omega) (fun h27 => ?_) (fun h27 => ?_)
      · refine fr_iconst 61 dX7_listTuples_60 rfl ?_
        refine fr_istore_n 62 [_, _, _] dX7_listTuples_61 rfl (Nat.le_of_ble_eq_true rfl) rfl ?_
        refine k2 1030 0 _ (by omega) (by omega) (by omega) hO h7 h9 hF (fun r f len b1 b2 b3 b4 b5 b6 => ?_) (fun c' a b => by omega)
        rw [hC _ (by omega) (by omega), show (28 * r + 7 * f + len) / 28 = r by omega, show (28 * r + 7 * f + len) / 7 % 4 = f by omega, show (28 * r + 7 * f + len) % 7 = len by omega]
      · refine fr_aload_n 31 dX7_listTuples_30 rfl rfl ?_
        refine fr_getr 34 13 dX7_listTuples_31 rfl fs_kX7_54 fs_l0 rfl ?_
        refine fr_iload_n 35 dX7_listTuples_34 rfl rfl ?_
        refine fr_aload_n 36 dX7_listTuples_35 rfl rfl ?_
        refine fr_iload_n 37 dX7_listTuples_36 rfl rfl ?_
        refine fr_bipush 39 dX7_listTuples_37 rfl (by decide) ?_
        refine fr_idiv 40 dX7_listTuples_39 rfl (by omega) (by omega) ?_
        refine fr_iload_n 41 dX7_listTuples_40 rfl rfl ?_
        refine fr_bipush 43 dX7_listTuples_41 rfl (by decide) ?_
        refine fr_idiv 44 dX7_listTuples_43 rfl (by omega) (by omega) ?_
        refine fr_iconst 45 dX7_listTuples_44 rfl ?_
        refine fr_irem 46 dX7_listTuples_45 rfl (by omega) (by omega) ?_
        refine fr_iload_n 47 dX7_listTuples_46 rfl rfl ?_
        refine fr_bipush 49 dX7_listTuples_47 rfl (by decide) ?_
        refine fr_irem 50 dX7_listTuples_49 rfl (by omega) (by omega) ?_
        refine fr_callVi 53 (M2 := mX7_ofLength) [_, _, _] dX7_listTuples_50 rfl fs_mX7_193 fs_oX7_ofLength fs_iX7_ofLength fs_l0 rfl rfl (fs_Γ_rm (d := 2) (by decide)) (Nat.le_of_ble_eq_true rfl) rfl ?_
        refine (cM_ofLength hw (hRt _ hF) (by omega) (by omega) (by omega)).ci ?_
        refine fr_iast 54 dX7_listTuples_53 rfl fs_l13 (by omega) ?_
        refine fr_iinc 57 [_, _, _] dX7_listTuples_54 rfl rfl rfl ?_
        refine fr_goto 19 dX7_listTuples_57 rfl ?_
        refine ih (j + 1) _ (by omega) (by omega) (by omega) (hO.eq (fun k' i h => fs_u_k _ _ (by omega))) (by rw [fs_u_k _ _ (by decide)]; exact h7) (by rw [fs_u_k _ _ (by decide)]; exact h9) (fun k' i a b => by rw [fs_u_k _ _ (by omega)]; exact hF k' i a b) (fun i a b => ?_)
        by_cases e : i = j
        · rw [e]; exact fs_u_eq _ _ _ _
        · rw [fs_u_i _ e]; exact hC i a (by omega)
  refine fr_aload_n 1 dX7_listTuples_0 rfl rfl ?_
  refine fr_callVv 4 (M2 := mX7_order) [] dX7_listTuples_1 rfl fs_mX7_147 fs_oX7_order fs_iX7_order fs_l0 rfl rfl (fs_Γ_rm (d := 2) (by decide)) (Nat.le_of_ble_eq_true rfl) rfl ?_
  refine (cM_order hw hR hb hv).mono ?_
  rintro _ τ ⟨rfl, hO, h7, hF⟩
  refine ⟨rfl, ?_⟩
  have e9 : τ 0 9 = σ 0 9 := hF _ _ (by decide) (by decide) (by decide)
  refine fr_aload_n 5 dX7_listTuples_4 rfl rfl ?_
  refine fr_geti 8 9 dX7_listTuples_5 rfl fs_kX7_118 rfl fs_l0 rfl ?_
  refine fr_if_eq 12 11 dX7_listTuples_8 rfl rfl (by omega) (fun h8 => ?_) (fun h8 => ?_)
  · refine fr_aload_n 13 dX7_listTuples_12 rfl rfl ?_
    refine fr_iconst 14 dX7_listTuples_13 rfl ?_
    refine fr_putz 17 9 dX7_listTuples_14 rfl fs_kX7_118 fs_pX7_9 rfl fs_l0 rfl (by omega) ?_
    refine fr_iconst 18 dX7_listTuples_17 rfl ?_
    refine fr_istore_n 19 [_, _, _] dX7_listTuples_18 rfl (Nat.le_of_ble_eq_true rfl) rfl ?_
    exact k1 ((28 * tn t).toNat + 1) 0 _ (by omega) (by omega) (by omega) (hO.eq (fun k x h => fs_u_k _ _ (by omega))) (by rw [fs_u_ne _ (by decide)]; exact h7) (fs_u_eq _ _ _ _) (fun k x a b => by rw [fs_u_ne _ (by omega)]; exact hF k x (by omega) (by omega) (by omega)) (fun i a b => by omega)
  · refine fr_vret dX7_listTuples_11 rfl ?_
    exact ⟨rfl, (hv9 (by omega)).eq (hF _ _ (by decide) (by decide) (by decide)) (fun k i h1 h2 => hF k i (by omega) (by omega) (by omega)), hO, h7, by omega, fun k i a b => hF k i (by omega) (by omega) (by omega)⟩
