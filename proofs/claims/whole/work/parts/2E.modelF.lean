/-! ===== the model: images, counts ===== -/
def aImage (k : Int) : Int := if 0 ≤ k ∧ k ≤ 1 then 1 else -2
def sImage (A : ab) (k : Int) : ab := if 0 ≤ k ∧ k ≤ 1 then (A.1, A.2.1, A.2.2.1, fun j => if j = k then (1, A.1, A.2.2.1.1, A.2.2.1.2) else A.2.2.2 j) else A
def aRestore (A : ab) (k : Int) : Int := if 0 ≤ k ∧ k ≤ 1 then (if (A.2.2.2 k).1 = 0 then -3 else 1) else -2
def sRestore (A : ab) (k : Int) : ab := if (0 ≤ k ∧ k ≤ 1) ∧ (A.2.2.2 k).1 ≠ 0 then ((A.2.2.2 k).2.1, A.2.1, ((A.2.2.2 k).2.2.1, (A.2.2.2 k).2.2.2), A.2.2.2) else A
abbrev Q_im (A : ab) (k : Int) (σ : fs_S) : fs_Q := fun x τ => x = some (aImage k) ∧ IMc τ (sImage A k) ∧ (∀ k' i, k' ≠ 24 → k' ≠ 25 → τ k' i = σ k' i)
set_option maxRecDepth 100000 in
set_option maxHeartbeats 3000000 in
theorem cM_image {σ : fs_S} {A : ab} {k : Int} (hI : IMc σ A) (hw : awf A) (hk : rg k) : fs_C mX7_image 1 [.inr 0, .inl k] σ (Q_im A k σ) := by
  refine fs_C.intro [some (.inr 0), some (.inl k), none, none] fs_oX7_image (Nat.le_of_ble_eq_true rfl) rfl ?_
  obtain ⟨a1, a2, ⟨a3, a3'⟩, a4⟩ := id hI
  have hn := hw.1.1
  have k2 : ∀ (m : Nat) (i : Int) (τ : fs_S), (0 ≤ k ∧ k ≤ 1) → 0 ≤ i → i ≤ 16 → 16 - i < m → (∀ k' j, ¬ (k' = 24 ∧ 163 * k ≤ j ∧ j < 163 * k + 163) → τ k' j = σ k' j) → (∀ j, 0 ≤ j → j < 64 → τ 24 (163 * k + j) = σ 1 j ∧ τ 24 (163 * k + 64 + j) = σ 2 j) → (∀ j, 0 ≤ j → j < i → τ 24 (163 * k + 128 + j) = σ 3 j ∧ τ 24 (163 * k + 144 + j) = σ 4 j) →
      fs_W (fs_Γ 1 (Q_im A k σ)) mX7_image 65 [some (.inr 0), some (.inl k), some (.inl (163 * k)), some (.inl i)] [] τ := by
    intro m
    induction m with
    | zero => intro i τ hok h0 h1 h2; omega
    | succ m ih =>
      intro i τ hok h0 h1 h2 hF hA hB
      have e0 : τ 0 0 = tn A.1 := (hF _ _ (by omega)).trans a1.1
      have e5 : τ 0 5 = A.2.2.1.1 := (hF _ _ (by omega)).trans a3
      have e6 : τ 0 6 = A.2.2.1.2 := (hF _ _ (by omega)).trans a3'
      refine fr_iload_n 66 dX7_image_65 rfl rfl ?_
      refine fr_bipush 68 dX7_image_66 rfl (by decide) ?_
      refine fr_icmp_ge 113 71 dX7_image_68 rfl rfl (by omega) (by omega) (fun h68 => ?_) (fun h68 => ?_)
      · refine fr_aload_n 114 dX7_image_113 rfl rfl ?_
        refine fr_getr 117 24 dX7_image_114 rfl fs_kX7_87 fs_l0 rfl ?_
        refine fr_iload_n 118 dX7_image_117 rfl rfl ?_
        refine fr_sipush 121 dX7_image_118 rfl (by decide) ?_
        refine fr_iadd 122 dX7_image_121 rfl ?_
        refine fr_aload_n 123 dX7_image_122 rfl rfl ?_
        refine fr_geti 126 0 dX7_image_123 rfl fs_kX7_104 rfl fs_l0 rfl ?_
        refine fr_top e0 ?_
        refine fr_iast 127 dX7_image_126 rfl fs_l24 (by omega) ?_
        refine fr_aload_n 128 dX7_image_127 rfl rfl ?_
        refine fr_getr 131 24 dX7_image_128 rfl fs_kX7_87 fs_l0 rfl ?_
        refine fr_iload_n 132 dX7_image_131 rfl rfl ?_
        refine fr_sipush 135 dX7_image_132 rfl (by decide) ?_
        refine fr_iadd 136 dX7_image_135 rfl ?_
        refine fr_aload_n 137 dX7_image_136 rfl rfl ?_
        refine fr_geti 140 5 dX7_image_137 rfl fs_kX7_22 rfl fs_l0 rfl ?_
        refine fr_top (y := A.2.2.1.1) (by rw [fs_u_k _ _ (by decide)]; exact e5) ?_
        refine fr_iast 141 dX7_image_140 rfl fs_l24 (by omega) ?_
        refine fr_aload_n 142 dX7_image_141 rfl rfl ?_
        refine fr_getr 145 24 dX7_image_142 rfl fs_kX7_87 fs_l0 rfl ?_
        refine fr_iload_n 146 dX7_image_145 rfl rfl ?_
        refine fr_sipush 149 dX7_image_146 rfl (by decide) ?_
        refine fr_iadd 150 dX7_image_149 rfl ?_
        refine fr_aload_n 151 dX7_image_150 rfl rfl ?_
        refine fr_geti 154 6 dX7_image_151 rfl fs_kX7_26 rfl fs_l0 rfl ?_
        refine fr_top (y := A.2.2.1.2) (by rw [fs_u_k _ _ (by decide), fs_u_k _ _ (by decide)]; exact e6) ?_
        refine fr_iast 155 dX7_image_154 rfl fs_l24 (by omega) ?_
        refine fr_aload_n 156 dX7_image_155 rfl rfl ?_
        refine fr_getr 159 25 dX7_image_156 rfl fs_kX7_90 fs_l0 rfl ?_
        refine fr_iload_n 160 dX7_image_159 rfl rfl ?_
        refine fr_iconst 161 dX7_image_160 rfl ?_
        refine fr_zast 162 dX7_image_161 rfl fs_l25 (by omega) (by omega) ?_
        refine fr_iconst 163 dX7_image_162 rfl ?_
        refine fr_iret dX7_image_163 rfl ?_
        obtain ⟨S, eS⟩ : ∃ S, S = fs_u (fs_u (fs_u (fs_u τ 24 (163 * k + 160) (tn A.1)) 24 (163 * k + 161) A.2.2.1.1) 24 (163 * k + 162) A.2.2.1.2) 25 k 1 := ⟨_, rfl⟩
        rw [← eS]
        have f0 : ∀ k' j, k' ≠ 24 → k' ≠ 25 → S k' j = σ k' j := fun k' j z1 z2 => by rw [eS, fs_u_k _ _ z2, fs_u_k _ _ z1, fs_u_k _ _ z1, fs_u_k _ _ z1]; exact hF k' j (by omega)
        have f24 : ∀ j, j < 163 * k + 160 ∨ 163 * k + 163 ≤ j → S 24 j = τ 24 j := fun j z => by rw [eS, fs_u_k _ _ (by decide), fs_u_i _ (by omega), fs_u_i _ (by omega), fs_u_i _ (by omega)]
        refine ⟨congrArg some (by unfold aImage; rw [if_pos hok]), ?_, f0⟩
        unfold sImage
        rw [if_pos hok]
        refine ⟨a1.eq hw.1 (f0 _ _ (by decide) (by decide)) (fun k' j z1 z2 _ _ => f0 k' j (by omega) (by omega)), fun f b1 b2 => ?_, ⟨?_, ?_⟩, fun q b1 b2 => ?_⟩
        · rw [f0 _ _ (by decide) (by decide), f0 _ _ (by decide) (by decide)]; exact a2 f b1 b2
        · rw [f0 _ _ (by decide) (by decide)]; exact a3
        · rw [f0 _ _ (by decide) (by decide)]; exact a3'
        · show S 25 q = (if q = k then (1, A.1, A.2.2.1.1, A.2.2.1.2) else A.2.2.2 q).1 ∧ ((if q = k then (1, A.1, A.2.2.1.1, A.2.2.1.2) else A.2.2.2 q).1 = 1 → RI S q (if q = k then (1, A.1, A.2.2.1.1, A.2.2.1.2) else A.2.2.2 q).2)
          by_cases e : q = k
          · subst e
            rw [if_pos rfl]
            refine ⟨by rw [eS, fs_u_eq], fun _ => ⟨?_, fun r f c1 c2 c3 c4 => ?_, fun r c1 c2 => ?_, ?_, ?_⟩⟩
            · rw [eS, fs_u_k _ _ (by decide), fs_u_i _ (by omega), fs_u_i _ (by omega), fs_u_eq]
            · change r < tn A.1 at c2
              rw [f24 _ (by omega), f24 _ (by omega), (hA _ (by omega) (by omega)).1, (hA _ (by omega) (by omega)).2]
              exact a1.2.1 r f c1 c2 c3 c4
            · change r < tn A.1 at c2
              rw [f24 _ (by omega), f24 _ (by omega), (hB _ (by omega) (by omega)).1, (hB _ (by omega) (by omega)).2]
              exact a1.2.2 r c1 c2
            · rw [eS, fs_u_k _ _ (by decide), fs_u_i _ (by omega), fs_u_eq]
            · rw [eS, fs_u_k _ _ (by decide), fs_u_eq]
          · rw [if_neg e]
            have g24 : ∀ j, 163 * q ≤ j → j < 163 * q + 163 → S 24 j = σ 24 j := fun j z1 z2 => by rw [f24 _ (by omega)]; exact hF _ _ (by omega)
            refine ⟨?_, fun z => ?_⟩
            · rw [eS, fs_u_i _ e, fs_u_k _ _ (by decide), fs_u_k _ _ (by decide), fs_u_k _ _ (by decide), hF _ _ (by omega)]
              exact (a4 q b1 b2).1
            · obtain ⟨q1, q2, q3, q4, q5⟩ := (a4 q b1 b2).2 z
              have hn2 := ((hw.2.2.2 q b1 b2).2 z).1.1
              refine ⟨by rw [g24 _ (by omega) (by omega)]; exact q1, fun r f c1 c2 c3 c4 => ?_, fun r c1 c2 => ?_, by rw [g24 _ (by omega) (by omega)]; exact q4, by rw [g24 _ (by omega) (by omega)]; exact q5⟩
              · rw [g24 _ (by omega) (by omega), g24 _ (by omega) (by omega)]; exact q2 r f c1 c2 c3 c4
              · rw [g24 _ (by omega) (by omega), g24 _ (by omega) (by omega)]; exact q3 r c1 c2
      · refine fr_aload_n 72 dX7_image_71 rfl rfl ?_
        refine fr_getr 75 24 dX7_image_72 rfl fs_kX7_87 fs_l0 rfl ?_
        refine fr_iload_n 76 dX7_image_75 rfl rfl ?_
        refine fr_sipush 79 dX7_image_76 rfl (by decide) ?_
        refine fr_iadd 80 dX7_image_79 rfl ?_
        refine fr_iload_n 81 dX7_image_80 rfl rfl ?_
        refine fr_iadd 82 dX7_image_81 rfl ?_
        refine fr_aload_n 83 dX7_image_82 rfl rfl ?_
        refine fr_getr 86 3 dX7_image_83 rfl fs_kX7_16 fs_l0 rfl ?_
        refine fr_iload_n 87 dX7_image_86 rfl rfl ?_
        refine fr_iald 88 dX7_image_87 rfl fs_l3 (by omega) ?_
        refine fr_iast 89 dX7_image_88 rfl fs_l24 (by omega) ?_
        refine fr_aload_n 90 dX7_image_89 rfl rfl ?_
        refine fr_getr 93 24 dX7_image_90 rfl fs_kX7_87 fs_l0 rfl ?_
        refine fr_iload_n 94 dX7_image_93 rfl rfl ?_
        refine fr_sipush 97 dX7_image_94 rfl (by decide) ?_
        refine fr_iadd 98 dX7_image_97 rfl ?_
        refine fr_iload_n 99 dX7_image_98 rfl rfl ?_
        refine fr_iadd 100 dX7_image_99 rfl ?_
        refine fr_aload_n 101 dX7_image_100 rfl rfl ?_
        refine fr_getr 104 4 dX7_image_101 rfl fs_kX7_19 fs_l0 rfl ?_
        refine fr_iload_n 105 dX7_image_104 rfl rfl ?_
        refine fr_iald 106 dX7_image_105 rfl fs_l4 (by omega) ?_
        refine fr_iast 107 dX7_image_106 rfl fs_l24 (by omega) ?_
        refine fr_iinc 110 [_, _, _, _] dX7_image_107 rfl rfl rfl ?_
        refine fr_goto 65 dX7_image_110 rfl ?_
        refine ih (i + 1) _ hok (by omega) (by omega) (by omega) (fun k' j z => ?_) (fun j b1 b2 => ?_) (fun j b1 b2 => ?_)
        · rw [fs_u_ne _ (by omega), fs_u_ne _ (by omega)]; exact hF k' j z
        · rw [fs_u_ne _ (by omega), fs_u_ne _ (by omega), fs_u_ne _ (by omega), fs_u_ne _ (by omega)]; exact hA j b1 b2
        · by_cases e : j = i
          · subst e
            rw [fs_u_ne _ (by omega), fs_u_eq, fs_u_eq, fs_u_k _ _ (by decide), hF 3 _ (by omega), hF 4 _ (by omega)]
            exact ⟨rfl, rfl⟩
          · rw [fs_u_ne _ (by omega), fs_u_ne _ (by omega), fs_u_ne _ (by omega), fs_u_ne _ (by omega)]; exact hB j b1 (by omega)
  have k1 : ∀ (m : Nat) (i : Int) (τ : fs_S), (0 ≤ k ∧ k ≤ 1) → 0 ≤ i → i ≤ 64 → 64 - i < m → (∀ k' j, ¬ (k' = 24 ∧ 163 * k ≤ j ∧ j < 163 * k + 163) → τ k' j = σ k' j) → (∀ j, 0 ≤ j → j < i → τ 24 (163 * k + j) = σ 1 j ∧ τ 24 (163 * k + 64 + j) = σ 2 j) →
      fs_W (fs_Γ 1 (Q_im A k σ)) mX7_image 20 [some (.inr 0), some (.inl k), some (.inl (163 * k)), some (.inl i)] [] τ := by
    intro m
    induction m with
    | zero => intro i τ hok h0 h1 h2; omega
    | succ m ih =>
      intro i τ hok h0 h1 h2 hF hA
      refine fr_iload_n 21 dX7_image_20 rfl rfl ?_
      refine fr_bipush 23 dX7_image_21 rfl (by decide) ?_
      refine fr_icmp_ge 63 26 dX7_image_23 rfl rfl (by omega) (by omega) (fun h23 => ?_) (fun h23 => ?_)
      · refine fr_iconst 64 dX7_image_63 rfl ?_
        refine fr_istore_n 65 [_, _, _, _] dX7_image_64 rfl (Nat.le_of_ble_eq_true rfl) rfl ?_
        exact k2 17 0 _ hok (by omega) (by omega) (by omega) hF (fun j b1 b2 => hA j b1 (by omega)) (fun j b1 b2 => by omega)
      · refine fr_aload_n 27 dX7_image_26 rfl rfl ?_
        refine fr_getr 30 24 dX7_image_27 rfl fs_kX7_87 fs_l0 rfl ?_
        refine fr_iload_n 31 dX7_image_30 rfl rfl ?_
        refine fr_iload_n 32 dX7_image_31 rfl rfl ?_
        refine fr_iadd 33 dX7_image_32 rfl ?_
        refine fr_aload_n 34 dX7_image_33 rfl rfl ?_
        refine fr_getr 37 1 dX7_image_34 rfl fs_kX7_7 fs_l0 rfl ?_
        refine fr_iload_n 38 dX7_image_37 rfl rfl ?_
        refine fr_iald 39 dX7_image_38 rfl fs_l1 (by omega) ?_
        refine fr_iast 40 dX7_image_39 rfl fs_l24 (by omega) ?_
        refine fr_aload_n 41 dX7_image_40 rfl rfl ?_
        refine fr_getr 44 24 dX7_image_41 rfl fs_kX7_87 fs_l0 rfl ?_
        refine fr_iload_n 45 dX7_image_44 rfl rfl ?_
        refine fr_bipush 47 dX7_image_45 rfl (by decide) ?_
        refine fr_iadd 48 dX7_image_47 rfl ?_
        refine fr_iload_n 49 dX7_image_48 rfl rfl ?_
        refine fr_iadd 50 dX7_image_49 rfl ?_
        refine fr_aload_n 51 dX7_image_50 rfl rfl ?_
        refine fr_getr 54 2 dX7_image_51 rfl fs_kX7_13 fs_l0 rfl ?_
        refine fr_iload_n 55 dX7_image_54 rfl rfl ?_
        refine fr_iald 56 dX7_image_55 rfl fs_l2 (by omega) ?_
        refine fr_iast 57 dX7_image_56 rfl fs_l24 (by omega) ?_
        refine fr_iinc 60 [_, _, _, _] dX7_image_57 rfl rfl rfl ?_
        refine fr_goto 20 dX7_image_60 rfl ?_
        refine ih (i + 1) _ hok (by omega) (by omega) (by omega) (fun k' j z => ?_) (fun j b1 b2 => ?_)
        · rw [fs_u_ne _ (by omega), fs_u_ne _ (by omega)]; exact hF k' j z
        · by_cases e : j = i
          · subst e
            rw [fs_u_ne _ (by omega), fs_u_eq, fs_u_eq, fs_u_k _ _ (by decide), hF 1 _ (by omega), hF 2 _ (by omega)]
            exact ⟨rfl, rfl⟩
          · rw [fs_u_ne _ (by omega), fs_u_ne _ (by omega), fs_u_ne _ (by omega), fs_u_ne _ (by omega)]; exact hA j b1 (by omega)
  refine fr_iload_n 1 dX7_image_0 rfl rfl ?_
  refine fr_iconst 2 dX7_image_1 rfl ?_
  refine fr_iconst 3 dX7_image_2 rfl ?_
  refine fr_callSi 6 (M2 := mX7_in) [_, _, _] dX7_image_3 rfl fs_mX7_100 fs_oX7_in fs_sX7_in rfl (fs_Γ_rm (d := 0) (by decide)) (Nat.le_of_ble_eq_true rfl) rfl ?_
  refine (cM_in hk (by decide) (by decide)).ci ?_
  refine fr_if_ne 12 9 dX7_image_6 rfl rfl (by omega) (fun h6 => ?_) (fun h6 => ?_)
  · refine fr_sipush 15 dX7_image_12 rfl (by decide) ?_
    refine fr_iload_n 16 dX7_image_15 rfl rfl ?_
    refine fr_imul 17 dX7_image_16 rfl ?_
    refine fr_istore_n 18 [_, _, _, _] dX7_image_17 rfl (Nat.le_of_ble_eq_true rfl) rfl ?_
    refine fr_iconst 19 dX7_image_18 rfl ?_
    refine fr_istore_n 20 [_, _, _, _] dX7_image_19 rfl (Nat.le_of_ble_eq_true rfl) rfl ?_
    exact k1 65 0 σ (by omega) (by omega) (by omega) (by omega) (fun _ _ _ => rfl) (fun j b1 b2 => by omega)
  · refine fr_bipush 11 dX7_image_9 rfl (by decide) ?_
    refine fr_iret dX7_image_11 rfl ?_
    have es : sImage A k = A := if_neg (by omega)
    exact ⟨congrArg some (by unfold aImage; rw [if_neg (by omega)]), by rw [es]; exact hI, fun _ _ _ _ => rfl⟩
abbrev Q_re (A : ab) (k : Int) (σ : fs_S) : fs_Q := fun x τ => x = some (aRestore A k) ∧ IMc τ (sRestore A k) ∧ (τ = σ ∧ sRestore A k = A ∨ fl0 τ) ∧ frC σ τ
set_option maxRecDepth 100000 in
set_option maxHeartbeats 3000000 in
theorem cM_restore {σ : fs_S} {A : ab} {k : Int} (hI : IMc σ A) (hw : awf A) (hk : rg k) : fs_C mX7_restore 1 [.inr 0, .inl k] σ (Q_re A k σ) := by
  refine fs_C.intro [some (.inr 0), some (.inl k), none, none] fs_oX7_restore (Nat.le_of_ble_eq_true rfl) rfl ?_
  obtain ⟨a1, a2, ⟨a3, a3'⟩, a4⟩ := id hI
  have k2 : ∀ (m : Nat) (i : Int) (τ : fs_S), (0 ≤ k ∧ k ≤ 1) → (A.2.2.2 k).1 = 1 → 0 ≤ i → i ≤ 16 → 16 - i < m → (∀ k' j, ¬ ((k' = 1 ∨ k' = 2) ∧ 0 ≤ j ∧ j < 64) → ¬ ((k' = 3 ∨ k' = 4) ∧ 0 ≤ j ∧ j < 16) → τ k' j = σ k' j) → (∀ j, 0 ≤ j → j < 64 → τ 1 j = σ 24 (163 * k + j) ∧ τ 2 j = σ 24 (163 * k + 64 + j)) → (∀ j, 0 ≤ j → j < i → τ 3 j = σ 24 (163 * k + 128 + j) ∧ τ 4 j = σ 24 (163 * k + 144 + j)) →
      fs_W (fs_Γ 1 (Q_re A k σ)) mX7_restore 77 [some (.inr 0), some (.inl k), some (.inl (163 * k)), some (.inl i)] [] τ := by
    intro m
    induction m with
    | zero => intro i τ hok hkp h0 h1 h2; omega
    | succ m ih =>
      intro i τ hok hkp h0 h1 h2 hF hA hB
      obtain ⟨q1, q2, q3, q4, q5⟩ := (a4 k (by omega) (by omega)).2 hkp
      have hw2 := (hw.2.2.2 k (by omega) (by omega)).2 hkp
      have hn2 := hw2.1.1
      have f24 : ∀ j, τ 24 j = σ 24 j := fun j => hF _ _ (by omega) (by omega)
      have e160 : τ 24 (163 * k + 160) = tn (A.2.2.2 k).2.1 := (f24 _).trans q1
      have e161 : τ 24 (163 * k + 161) = (A.2.2.2 k).2.2.1 := (f24 _).trans q4
      have e162 : τ 24 (163 * k + 162) = (A.2.2.2 k).2.2.2 := (f24 _).trans q5
      refine fr_iload_n 78 dX7_restore_77 rfl rfl ?_
      refine fr_bipush 80 dX7_restore_78 rfl (by decide) ?_
      refine fr_icmp_ge 125 83 dX7_restore_80 rfl rfl (by omega) (by omega) (fun h80 => ?_) (fun h80 => ?_)
      · refine fr_aload_n 126 dX7_restore_125 rfl rfl ?_
        refine fr_aload_n 127 dX7_restore_126 rfl rfl ?_
        refine fr_getr 130 24 dX7_restore_127 rfl fs_kX7_87 fs_l0 rfl ?_
        refine fr_iload_n 131 dX7_restore_130 rfl rfl ?_
        refine fr_sipush 134 dX7_restore_131 rfl (by decide) ?_
        refine fr_iadd 135 dX7_restore_134 rfl ?_
        refine fr_iald 136 dX7_restore_135 rfl fs_l24 (by omega) ?_
        refine fr_top e160 ?_
        refine fr_puti 139 0 dX7_restore_136 rfl fs_kX7_104 fs_pX7_0 rfl fs_l0 rfl ?_
        refine fr_aload_n 140 dX7_restore_139 rfl rfl ?_
        refine fr_aload_n 141 dX7_restore_140 rfl rfl ?_
        refine fr_getr 144 24 dX7_restore_141 rfl fs_kX7_87 fs_l0 rfl ?_
        refine fr_iload_n 145 dX7_restore_144 rfl rfl ?_
        refine fr_sipush 148 dX7_restore_145 rfl (by decide) ?_
        refine fr_iadd 149 dX7_restore_148 rfl ?_
        refine fr_iald 150 dX7_restore_149 rfl fs_l24 (by omega) ?_
        refine fr_top (y := (A.2.2.2 k).2.2.1) (by rw [fs_u_k _ _ (by decide)]; exact e161) ?_
        refine fr_puti 153 5 dX7_restore_150 rfl fs_kX7_22 fs_pX7_5 rfl fs_l0 rfl ?_
        refine fr_aload_n 154 dX7_restore_153 rfl rfl ?_
        refine fr_aload_n 155 dX7_restore_154 rfl rfl ?_
        refine fr_getr 158 24 dX7_restore_155 rfl fs_kX7_87 fs_l0 rfl ?_
        refine fr_iload_n 159 dX7_restore_158 rfl rfl ?_
        refine fr_sipush 162 dX7_restore_159 rfl (by decide) ?_
        refine fr_iadd 163 dX7_restore_162 rfl ?_
        refine fr_iald 164 dX7_restore_163 rfl fs_l24 (by omega) ?_
        refine fr_top (y := (A.2.2.2 k).2.2.2) (by rw [fs_u_k _ _ (by decide), fs_u_k _ _ (by decide)]; exact e162) ?_
        refine fr_puti 167 6 dX7_restore_164 rfl fs_kX7_26 fs_pX7_6 rfl fs_l0 rfl ?_
        refine fr_aload_n 168 dX7_restore_167 rfl rfl ?_
        refine fr_callVv 171 (M2 := mX7_change) [] dX7_restore_168 rfl fs_mX7_131 fs_oX7_change fs_iX7_change fs_l0 rfl rfl (fs_Γ_rm (d := 0) (by decide)) (Nat.le_of_ble_eq_true rfl) rfl ?_
        refine cM_change.mono ?_
        rintro _ S ⟨rfl, c1, c2⟩
        refine ⟨rfl, ?_⟩
        refine fr_iconst 172 dX7_restore_171 rfl ?_
        refine fr_iret dX7_restore_172 rfl ?_
        have f0 : ∀ k' j, k' ≠ 0 → S k' j = τ k' j := fun k' j z => by rw [c2 _ _ (by omega), fs_u_k _ _ z, fs_u_k _ _ z, fs_u_k _ _ z]
        have g0 : ∀ k' j, k' ≠ 0 → ¬ ((k' = 1 ∨ k' = 2) ∧ 0 ≤ j ∧ j < 64) → ¬ ((k' = 3 ∨ k' = 4) ∧ 0 ≤ j ∧ j < 16) → S k' j = σ k' j := fun k' j z z1 z2 => by rw [f0 _ _ z]; exact hF k' j z1 z2
        refine ⟨congrArg some (by unfold aRestore; rw [if_pos hok, if_neg (by omega)]), ?_, Or.inr c1, fun k' j z => g0 k' j (by omega) (by omega) (by omega)⟩
        unfold sRestore
        rw [if_pos ⟨hok, by omega⟩]
        refine ⟨⟨?_, fun r f b1 b2 b3 b4 => ?_, fun r b1 b2 => ?_⟩, fun f b1 b2 => ?_, ⟨?_, ?_⟩, fun q b1 b2 => ?_⟩
        · rw [c2 _ _ (by decide), fs_u_ne _ (by decide), fs_u_ne _ (by decide), fs_u_eq]
        · change r < tn (A.2.2.2 k).2.1 at b2
          rw [f0 _ _ (by decide), f0 _ _ (by decide), (hA _ (by omega) (by omega)).1, (hA _ (by omega) (by omega)).2]
          exact q2 r f b1 b2 b3 b4
        · change r < tn (A.2.2.2 k).2.1 at b2
          rw [f0 _ _ (by decide), f0 _ _ (by decide), (hB _ (by omega) (by omega)).1, (hB _ (by omega) (by omega)).2]
          exact q3 r b1 b2
        · rw [g0 _ _ (by decide) (by omega) (by omega), g0 _ _ (by decide) (by omega) (by omega)]; exact a2 f b1 b2
        · rw [c2 _ _ (by decide), fs_u_ne _ (by decide), fs_u_eq]
        · rw [c2 _ _ (by decide), fs_u_eq]
        · rw [g0 _ _ (by decide) (by omega) (by omega)]
          have g24 : ∀ j, S 24 j = σ 24 j := fun j => g0 _ _ (by decide) (by omega) (by omega)
          refine ⟨(a4 q b1 b2).1, fun z => ?_⟩
          obtain ⟨p1, p2, p3, p4, p5⟩ := (a4 q b1 b2).2 z
          refine ⟨by rw [g24]; exact p1, fun r f c d e g => ?_, fun r c d => ?_, by rw [g24]; exact p4, by rw [g24]; exact p5⟩
          · rw [g24, g24]; exact p2 r f c d e g
          · rw [g24, g24]; exact p3 r c d
      · refine fr_aload_n 84 dX7_restore_83 rfl rfl ?_
        refine fr_getr 87 3 dX7_restore_84 rfl fs_kX7_16 fs_l0 rfl ?_
        refine fr_iload_n 88 dX7_restore_87 rfl rfl ?_
        refine fr_aload_n 89 dX7_restore_88 rfl rfl ?_
        refine fr_getr 92 24 dX7_restore_89 rfl fs_kX7_87 fs_l0 rfl ?_
        refine fr_iload_n 93 dX7_restore_92 rfl rfl ?_
        refine fr_sipush 96 dX7_restore_93 rfl (by decide) ?_
        refine fr_iadd 97 dX7_restore_96 rfl ?_
        refine fr_iload_n 98 dX7_restore_97 rfl rfl ?_
        refine fr_iadd 99 dX7_restore_98 rfl ?_
        refine fr_iald 100 dX7_restore_99 rfl fs_l24 (by omega) ?_
        refine fr_iast 101 dX7_restore_100 rfl fs_l3 (by omega) ?_
        refine fr_aload_n 102 dX7_restore_101 rfl rfl ?_
        refine fr_getr 105 4 dX7_restore_102 rfl fs_kX7_19 fs_l0 rfl ?_
        refine fr_iload_n 106 dX7_restore_105 rfl rfl ?_
        refine fr_aload_n 107 dX7_restore_106 rfl rfl ?_
        refine fr_getr 110 24 dX7_restore_107 rfl fs_kX7_87 fs_l0 rfl ?_
        refine fr_iload_n 111 dX7_restore_110 rfl rfl ?_
        refine fr_sipush 114 dX7_restore_111 rfl (by decide) ?_
        refine fr_iadd 115 dX7_restore_114 rfl ?_
        refine fr_iload_n 116 dX7_restore_115 rfl rfl ?_
        refine fr_iadd 117 dX7_restore_116 rfl ?_
        refine fr_iald 118 dX7_restore_117 rfl fs_l24 (by omega) ?_
        refine fr_iast 119 dX7_restore_118 rfl fs_l4 (by omega) ?_
        refine fr_iinc 122 [_, _, _, _] dX7_restore_119 rfl rfl rfl ?_
        refine fr_goto 77 dX7_restore_122 rfl ?_
        refine ih (i + 1) _ hok hkp (by omega) (by omega) (by omega) (fun k' j z1 z2 => ?_) (fun j b1 b2 => ?_) (fun j b1 b2 => ?_)
        · rw [fs_u_ne _ (by omega), fs_u_ne _ (by omega)]; exact hF k' j z1 z2
        · rw [fs_u_ne _ (by omega), fs_u_ne _ (by omega), fs_u_ne _ (by omega), fs_u_ne _ (by omega)]; exact hA j b1 b2
        · by_cases e : j = i
          · subst e
            rw [fs_u_ne _ (by omega), fs_u_eq, fs_u_eq, fs_u_k _ _ (by decide), f24, f24]
            exact ⟨rfl, rfl⟩
          · rw [fs_u_ne _ (by omega), fs_u_ne _ (by omega), fs_u_ne _ (by omega), fs_u_ne _ (by omega)]; exact hB j b1 (by omega)
  have k1 : ∀ (m : Nat) (i : Int) (τ : fs_S), (0 ≤ k ∧ k ≤ 1) → (A.2.2.2 k).1 = 1 → 0 ≤ i → i ≤ 64 → 64 - i < m → (∀ k' j, ¬ ((k' = 1 ∨ k' = 2) ∧ 0 ≤ j ∧ j < 64) → τ k' j = σ k' j) → (∀ j, 0 ≤ j → j < i → τ 1 j = σ 24 (163 * k + j) ∧ τ 2 j = σ 24 (163 * k + 64 + j)) →
      fs_W (fs_Γ 1 (Q_re A k σ)) mX7_restore 32 [some (.inr 0), some (.inl k), some (.inl (163 * k)), some (.inl i)] [] τ := by
    intro m
    induction m with
    | zero => intro i τ hok hkp h0 h1 h2; omega
    | succ m ih =>
      intro i τ hok hkp h0 h1 h2 hF hA
      have f24 : ∀ j, τ 24 j = σ 24 j := fun j => hF _ _ (by omega)
      refine fr_iload_n 33 dX7_restore_32 rfl rfl ?_
      refine fr_bipush 35 dX7_restore_33 rfl (by decide) ?_
      refine fr_icmp_ge 75 38 dX7_restore_35 rfl rfl (by omega) (by omega) (fun h35 => ?_) (fun h35 => ?_)
      · refine fr_iconst 76 dX7_restore_75 rfl ?_
        refine fr_istore_n 77 [_, _, _, _] dX7_restore_76 rfl (Nat.le_of_ble_eq_true rfl) rfl ?_
        exact k2 17 0 _ hok hkp (by omega) (by omega) (by omega) (fun k' j z1 z2 => hF k' j z1) (fun j b1 b2 => hA j b1 (by omega)) (fun j b1 b2 => by omega)
      · refine fr_aload_n 39 dX7_restore_38 rfl rfl ?_
        refine fr_getr 42 1 dX7_restore_39 rfl fs_kX7_7 fs_l0 rfl ?_
        refine fr_iload_n 43 dX7_restore_42 rfl rfl ?_
        refine fr_aload_n 44 dX7_restore_43 rfl rfl ?_
        refine fr_getr 47 24 dX7_restore_44 rfl fs_kX7_87 fs_l0 rfl ?_
        refine fr_iload_n 48 dX7_restore_47 rfl rfl ?_
        refine fr_iload_n 49 dX7_restore_48 rfl rfl ?_
        refine fr_iadd 50 dX7_restore_49 rfl ?_
        refine fr_iald 51 dX7_restore_50 rfl fs_l24 (by omega) ?_
        refine fr_iast 52 dX7_restore_51 rfl fs_l1 (by omega) ?_
        refine fr_aload_n 53 dX7_restore_52 rfl rfl ?_
        refine fr_getr 56 2 dX7_restore_53 rfl fs_kX7_13 fs_l0 rfl ?_
        refine fr_iload_n 57 dX7_restore_56 rfl rfl ?_
        refine fr_aload_n 58 dX7_restore_57 rfl rfl ?_
        refine fr_getr 61 24 dX7_restore_58 rfl fs_kX7_87 fs_l0 rfl ?_
        refine fr_iload_n 62 dX7_restore_61 rfl rfl ?_
        refine fr_bipush 64 dX7_restore_62 rfl (by decide) ?_
        refine fr_iadd 65 dX7_restore_64 rfl ?_
        refine fr_iload_n 66 dX7_restore_65 rfl rfl ?_
        refine fr_iadd 67 dX7_restore_66 rfl ?_
        refine fr_iald 68 dX7_restore_67 rfl fs_l24 (by omega) ?_
        refine fr_iast 69 dX7_restore_68 rfl fs_l2 (by omega) ?_
        refine fr_iinc 72 [_, _, _, _] dX7_restore_69 rfl rfl rfl ?_
        refine fr_goto 32 dX7_restore_72 rfl ?_
        refine ih (i + 1) _ hok hkp (by omega) (by omega) (by omega) (fun k' j z => ?_) (fun j b1 b2 => ?_)
        · rw [fs_u_ne _ (by omega), fs_u_ne _ (by omega)]; exact hF k' j z
        · by_cases e : j = i
          · subst e
            rw [fs_u_ne _ (by omega), fs_u_eq, fs_u_eq, fs_u_k _ _ (by decide), f24, f24]
            exact ⟨rfl, rfl⟩
          · rw [fs_u_ne _ (by omega), fs_u_ne _ (by omega), fs_u_ne _ (by omega), fs_u_ne _ (by omega)]; exact hA j b1 (by omega)
  refine fr_iload_n 1 dX7_restore_0 rfl rfl ?_
  refine fr_iconst 2 dX7_restore_1 rfl ?_
  refine fr_iconst 3 dX7_restore_2 rfl ?_
  refine fr_callSi 6 (M2 := mX7_in) [_, _, _] dX7_restore_3 rfl fs_mX7_100 fs_oX7_in fs_sX7_in rfl (fs_Γ_rm (d := 0) (by decide)) (Nat.le_of_ble_eq_true rfl) rfl ?_
  refine (cM_in hk (by decide) (by decide)).ci ?_
  refine fr_if_ne 12 9 dX7_restore_6 rfl rfl (by omega) (fun h6 => ?_) (fun h6 => ?_)
  · have hok : 0 ≤ k ∧ k ≤ 1 := by omega
    have ek := (a4 k (by omega) (by omega)).1
    have er := (hw.2.2.2 k (by omega) (by omega)).1
    refine fr_aload_n 13 dX7_restore_12 rfl rfl ?_
    refine fr_getr 16 25 dX7_restore_13 rfl fs_kX7_90 fs_l0 rfl ?_
    refine fr_iload_n 17 dX7_restore_16 rfl rfl ?_
    refine fr_zald 18 dX7_restore_17 rfl fs_l25 (by omega) ?_
    refine fr_if_ne 24 21 dX7_restore_18 rfl rfl (by omega) (fun h18 => ?_) (fun h18 => ?_)
    · refine fr_sipush 27 dX7_restore_24 rfl (by decide) ?_
      refine fr_iload_n 28 dX7_restore_27 rfl rfl ?_
      refine fr_imul 29 dX7_restore_28 rfl ?_
      refine fr_istore_n 30 [_, _, _, _] dX7_restore_29 rfl (Nat.le_of_ble_eq_true rfl) rfl ?_
      refine fr_iconst 31 dX7_restore_30 rfl ?_
      refine fr_istore_n 32 [_, _, _, _] dX7_restore_31 rfl (Nat.le_of_ble_eq_true rfl) rfl ?_
      exact k1 65 0 σ hok (by omega) (by omega) (by omega) (by omega) (fun _ _ _ => rfl) (fun j b1 b2 => by omega)
    · refine fr_bipush 23 dX7_restore_21 rfl (by decide) ?_
      refine fr_iret dX7_restore_23 rfl ?_
      have es : sRestore A k = A := if_neg (fun z => z.2 (by omega))
      exact ⟨congrArg some (by unfold aRestore; rw [if_pos hok, if_pos (by omega)]), by rw [es]; exact hI, Or.inl ⟨rfl, es⟩, fun _ _ _ => rfl⟩
  · refine fr_bipush 11 dX7_restore_9 rfl (by decide) ?_
    refine fr_iret dX7_restore_11 rfl ?_
    have es : sRestore A k = A := if_neg (by omega)
    exact ⟨congrArg some (by unfold aRestore; rw [if_neg (by omega)]), by rw [es]; exact hI, Or.inl ⟨rfl, es⟩, fun _ _ _ => rfl⟩
