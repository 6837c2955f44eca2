/-! ===== the class: walk ===== -/
set_option maxRecDepth 100000 in
set_option maxHeartbeats 3000000 in
theorem wK_walk {σ : fs_S} {A : ab} {a b c d w : Int} (hI : IC σ A) (hw : awf A) (h1 : rg a) (h2 : rg b) (h3 : rg c) (h4 : rg d) (h5 : rg w) : fs_C mX6_walk 3 [.inr 26, .inl a, .inl b, .inl c, .inl d, .inl w] σ (Q_C σ (aWalk A.1 A.2.2.1.1 A.2.2.1.2 a b c d w) A) := by
  refine fs_C.intro [some (.inr 26), some (.inl a), some (.inl b), some (.inl c), some (.inl d), some (.inl w), none, none] fs_oX6_walk (Nat.le_of_ble_eq_true rfl) rfl ?_
  have hn := hw.1.1
  have cp := @cK_isPacket σ a b c d h1 h2 h3 h4
  have k55 : ∀ (s : Int), (s = 0 ∨ s = 1) → (((0 ≤ a ∧ a ≤ 63) ∧ (0 ≤ b ∧ b ≤ 63) ∧ (0 ≤ c ∧ c ≤ 63) ∧ 0 ≤ d ∧ d ≤ 3) ∧ ((0 ≤ w ∧ w ≤ 2) ∨ (10 ≤ w ∧ w ≤ 13))) → (s = 1 ↔ 10 ≤ w ∧ w ≤ 13) → fs_W (fs_Γ 3 (Q_C σ (aWalk A.1 A.2.2.1.1 A.2.2.1.2 a b c d w) A)) mX6_walk 55 [some (.inr 26), some (.inl a), some (.inl b), some (.inl c), some (.inl d), some (.inl w), some (.inl s), none] [] σ := by
    intro s hs ok hq
    have fl := tfit_lt hw.1 a b c d
    obtain ⟨Wk, eW⟩ : ∃ Wk, Wk = wk A.1 A.2.2.1.1 A.2.2.1.2 (pk a b c d) 8 (root A.1) (fun _ => 0) := ⟨_, rfl⟩
    have an : aWalk A.1 A.2.2.1.1 A.2.2.1.2 a b c d w = (if 9 < w then Wk.2 (w - 10) else if w = 0 then Wk.1.2.2 else if w = 1 then pop Wk.1.1 else lk A.1 Wk.1.1 (tfit A.1 a b c d)) := by
      unfold aWalk
      rw [if_pos ok, ← eW]
    have ft : ∀ f, 0 ≤ f → f < 4 → ∀ i, (tfit A.1 a b c d).testBit i = true → (tkm A.1 f (pk a b c d f) (pk a b c d f)).testBit i = true := by
      intro f x y i z
      unfold tfit at z
      rw [Nat.testBit_and, Nat.testBit_and, Nat.testBit_and] at z
      simp only [Bool.and_eq_true] at z
      rcases (by omega : f = 0 ∨ f = 1 ∨ f = 2 ∨ f = 3) with rfl | rfl | rfl | rfl
      · exact z.1.1.1
      · exact z.1.1.2
      · exact z.1.2
      · exact z.2
    refine fr_aload_n 56 dX6_walk_55 rfl rfl ?_
    refine fr_iload_n 57 dX6_walk_56 rfl rfl ?_
    refine fr_iload_n 58 dX6_walk_57 rfl rfl ?_
    refine fr_iload_n 59 dX6_walk_58 rfl rfl ?_
    refine fr_iload 61 dX6_walk_59 rfl rfl ?_
    refine fr_callVv 64 (M2 := mX6_setPacket) [_, _, _, _] dX6_walk_61 rfl fs_mX6_119 fs_oX6_setPacket fs_iX6_setPacket fs_l26 rfl rfl (fs_Γ_rm (d := 0) (by decide)) (Nat.le_of_ble_eq_true rfl) rfl ?_
    refine cK_setPacket.mono ?_
    rintro _ τ ⟨rfl, ⟨p0, p1, p2, p3⟩, hF⟩
    have ic := hI.packet hF
    refine ⟨rfl, ?_⟩
    refine fr_aload_n 65 dX6_walk_64 rfl rfl ?_
    refine fr_getr 68 74 dX6_walk_65 rfl fs_kX6_46 fs_l26 rfl ?_
    refine fr_aload_n 69 dX6_walk_68 rfl rfl ?_
    refine fr_getr 72 82 dX6_walk_69 rfl fs_kX6_64 fs_l26 rfl ?_
    refine fr_callVi 75 (M2 := mX0_descend) [_] dX6_walk_72 rfl fs_mX6_220 fs_oX0_descend fs_iX0_descend fs_l74 rfl rfl (fs_Γ_rm (d := 2) (by decide)) (Nat.le_of_ble_eq_true rfl) rfl ?_
    refine (cK_descend (F := tfit A.1 a b c d) hw.1 ic.1.1.1 ic.1.2.2.1 ic.1.2.2.2.2.1.1 ic.1.2.2.2.2.1.2 hw.2.2.1.1 hw.2.2.1.2 (pk_r ok.1) (pk_at p0 p1 p2 p3) ft (fun i z => tfit_bit z)).mono ?_
    rintro _ ρ ⟨rfl, ⟨g8, g75, gD, gG⟩, gF⟩
    rw [← eW] at g8 g75 gD gG ⊢
    have ic2 : IC ρ A := ic.eq (fun k i _ _ _ _ z1 z2 => gF k i (by omega) (by omega) (by omega))
    have fr : ∀ k i, k < 26 → ρ k i = σ k i := fun k i z => (gF k i (by omega) (by omega) (by omega)).trans (hF k i (by omega))
    have r0 := (gF 82 0 (by decide) (by decide) (by decide)).trans p0
    have r1 := (gF 82 1 (by decide) (by decide) (by decide)).trans p1
    have r2 := (gF 82 2 (by decide) (by decide) (by decide)).trans p2
    have r3 := (gF 82 3 (by decide) (by decide) (by decide)).trans p3
    have cf := cK_fitting hw.1 ic2.1.1.1 ic2.1.2.2.1 (fun f x y => by rw [pk_at r0 r1 r2 r3 f x y]; exact pk_r ok.1 f x y)
    rw [r0, r1, r2, r3] at cf
    refine ⟨_, rfl, ?_⟩
    refine fr_istore 77 [_, _, _, _, _, _, _, _] dX6_walk_75 rfl (Nat.le_of_ble_eq_true rfl) rfl ?_
    refine fr_iload 79 dX6_walk_77 rfl rfl ?_
    refine fr_if_eq 96 82 dX6_walk_79 rfl rfl (by omega) (fun h79 => ?_) (fun h79 => ?_)
    · have hw3 : 0 ≤ w ∧ w ≤ 2 := by
        have hq2 : ¬ (10 ≤ w ∧ w ≤ 13) := fun z => by have := hq.2 z; omega
        omega
      refine fr_iload 98 dX6_walk_96 rfl rfl ?_
      rcases (by omega : (w = 0 ∨ w = 1) ∨ (w ≠ 0 ∧ w ≠ 1)) with (rfl | rfl) | hd98
      · refine fr_look 124 dX6_walk_98 (by decide) rfl rfl rfl ?_
        refine fr_aload_n 125 dX6_walk_124 rfl rfl ?_
        refine fr_getr 128 74 dX6_walk_125 rfl fs_kX6_46 fs_l26 rfl ?_
        refine fr_geti 131 8 dX6_walk_128 rfl fs_kX6_226 rfl fs_l74 rfl ?_
        refine fr_top g8 ?_
        refine fr_iret dX6_walk_131 rfl ?_
        refine ⟨congrArg some ?_, ic2, fr⟩
        rw [an]
        first
        | rfl
        | (rw [if_neg (by omega), if_neg (by omega), if_neg (by omega)])
      · refine fr_look 132 dX6_walk_98 (by decide) rfl rfl rfl ?_
        refine fr_iload 134 dX6_walk_132 rfl rfl ?_
        refine fr_callSi 137 (M2 := mJ6_bitCount_0f7a4) [_] dX6_walk_134 rfl fs_mX6_229 fs_oJ6_bitCount_0f7a4 fs_sJ6_bitCount_0f7a4 rfl (fs_Γ_rm (d := 0) (by decide)) (Nat.le_of_ble_eq_true rfl) rfl ?_
        refine (cK_bitCount gG.1).ci ?_
        refine fr_iret dX6_walk_137 rfl ?_
        refine ⟨congrArg some ?_, ic2, fr⟩
        rw [an]
        first
        | rfl
        | (rw [if_neg (by omega), if_neg (by omega), if_neg (by omega)])
      · refine fr_look 138 (off := 40) dX6_walk_98 (by omega) rfl (by simp [Op.lookupswitch.offset]; omega) rfl ?_
        refine fr_iload 140 dX6_walk_138 rfl rfl ?_
        refine fr_aload_n 141 dX6_walk_140 rfl rfl ?_
        refine fr_getr 144 42 dX6_walk_141 rfl fs_kX6_21 fs_l26 rfl ?_
        refine fr_aload_n 145 dX6_walk_144 rfl rfl ?_
        refine fr_getr 148 82 dX6_walk_145 rfl fs_kX6_64 fs_l26 rfl ?_
        refine fr_callVi 151 (M2 := mX2_fitting) [_] dX6_walk_148 rfl fs_mX6_123 fs_oX2_fitting fs_iX2_fitting fs_l42 rfl rfl (fs_Γ_rm (d := 1) (by decide)) (Nat.le_of_ble_eq_true rfl) rfl ?_
        refine cf.ci ?_
        refine fr_callSi 154 (M2 := mX6_lookedAt) [_, _] dX6_walk_151 rfl fs_mX6_234 fs_oX6_lookedAt fs_sX6_lookedAt rfl (fs_Γ_rm (d := 2) (by decide)) (Nat.le_of_ble_eq_true rfl) rfl ?_
        refine (cK_lookedAt hw.1 gG.1 fl gD.2.1 gD.2.2).ci ?_
        refine fr_iret dX6_walk_154 rfl ?_
        refine ⟨congrArg some ?_, ic2, fr⟩
        rw [an]
        first
        | rfl
        | (rw [if_neg (by omega), if_neg (by omega), if_neg (by omega)])
    · have hq2 : 10 ≤ w ∧ w ≤ 13 := hq.1 (by omega)
      refine fr_aload_n 83 dX6_walk_82 rfl rfl ?_
      refine fr_getr 86 74 dX6_walk_83 rfl fs_kX6_46 fs_l26 rfl ?_
      refine fr_getr 89 75 dX6_walk_86 rfl fs_kX6_223 fs_l74 rfl ?_
      refine fr_iload 91 dX6_walk_89 rfl rfl ?_
      refine fr_bipush 93 dX6_walk_91 rfl (by decide) ?_
      refine fr_isub 94 dX6_walk_93 rfl ?_
      refine fr_iald 95 dX6_walk_94 rfl fs_l75 (by omega) ?_
      refine fr_top (g75 (w - 10) (by omega) (by omega)) ?_
      refine fr_iret dX6_walk_95 rfl ?_
      exact ⟨congrArg some (by rw [an, if_pos (by omega)]), ic2, fr⟩
  have k25 : ∀ (s : Int), (s = 0 ∨ s = 1) → (s = 1 ↔ 10 ≤ w ∧ w ≤ 13) → fs_W (fs_Γ 3 (Q_C σ (aWalk A.1 A.2.2.1.1 A.2.2.1.2 a b c d w) A)) mX6_walk 25 [some (.inr 26), some (.inl a), some (.inl b), some (.inl c), some (.inl d), some (.inl w), some (.inl s), none] [] σ := by
    intro s hs hq
    by_cases ok : (0 ≤ a ∧ a ≤ 63) ∧ (0 ≤ b ∧ b ≤ 63) ∧ (0 ≤ c ∧ c ≤ 63) ∧ 0 ≤ d ∧ d ≤ 3
    · rw [if_pos ok] at cp
      have hq' := hq
      refine fr_iload_n 26 dX6_walk_25 rfl rfl ?_
      refine fr_iload_n 27 dX6_walk_26 rfl rfl ?_
      refine fr_iload_n 28 dX6_walk_27 rfl rfl ?_
      refine fr_iload 30 dX6_walk_28 rfl rfl ?_
      refine fr_callSi 33 (M2 := mX6_isPacket) [_, _, _, _] dX6_walk_30 rfl fs_mX6_115 fs_oX6_isPacket fs_sX6_isPacket rfl (fs_Γ_rm (d := 1) (by decide)) (Nat.le_of_ble_eq_true rfl) rfl ?_
      refine cp.ci ?_
      refine fr_if_eq 52 36 dX6_walk_33 rfl rfl (by omega) (fun h33 => ?_) (fun h33 => ?_)
      · exact absurd h33 (by decide)
      · refine fr_iload 38 dX6_walk_36 rfl rfl ?_
        refine fr_if_ne 55 41 dX6_walk_38 rfl rfl (by omega) (fun h38 => ?_) (fun h38 => ?_)
        · first
          | exact k55 s hs ⟨ok, Or.inl (by omega)⟩ hq
          | exact k55 s hs ⟨ok, Or.inr (hq.1 (by omega))⟩ hq
        · refine fr_iload 43 dX6_walk_41 rfl rfl ?_
          refine fr_if_lt 52 46 dX6_walk_43 rfl rfl (by omega) (fun h43 => ?_) (fun h43 => ?_)
          · refine fr_bipush 54 dX6_walk_52 rfl (by decide) ?_
            refine fr_iret dX6_walk_54 rfl ?_
            exact ⟨congrArg some (by unfold aWalk; rw [if_neg (fun z => by have := hq.2; omega)]), hI, fun _ _ _ => rfl⟩
          · refine fr_iload 48 dX6_walk_46 rfl rfl ?_
            refine fr_iconst 49 dX6_walk_48 rfl ?_
            refine fr_icmp_le 55 52 dX6_walk_49 rfl rfl (by omega) (by omega) (fun h49 => ?_) (fun h49 => ?_)
            · first
              | exact k55 s hs ⟨ok, Or.inl (by omega)⟩ hq
              | exact k55 s hs ⟨ok, Or.inr (hq.1 (by omega))⟩ hq
            · refine fr_bipush 54 dX6_walk_52 rfl (by decide) ?_
              refine fr_iret dX6_walk_54 rfl ?_
              exact ⟨congrArg some (by unfold aWalk; rw [if_neg (fun z => by have := hq.2; omega)]), hI, fun _ _ _ => rfl⟩
    · rw [if_neg ok] at cp
      refine fr_iload_n 26 dX6_walk_25 rfl rfl ?_
      refine fr_iload_n 27 dX6_walk_26 rfl rfl ?_
      refine fr_iload_n 28 dX6_walk_27 rfl rfl ?_
      refine fr_iload 30 dX6_walk_28 rfl rfl ?_
      refine fr_callSi 33 (M2 := mX6_isPacket) [_, _, _, _] dX6_walk_30 rfl fs_mX6_115 fs_oX6_isPacket fs_sX6_isPacket rfl (fs_Γ_rm (d := 1) (by decide)) (Nat.le_of_ble_eq_true rfl) rfl ?_
      refine cp.ci ?_
      refine fr_if_eq 52 36 dX6_walk_33 rfl rfl (by omega) (fun h33 => ?_) (fun h33 => ?_)
      · refine fr_bipush 54 dX6_walk_52 rfl (by decide) ?_
        refine fr_iret dX6_walk_54 rfl ?_
        exact ⟨congrArg some (by unfold aWalk; rw [if_neg (fun z => ok z.1)]), hI, fun _ _ _ => rfl⟩
      · exact absurd rfl h33
  refine fr_iload 2 dX6_walk_0 rfl rfl ?_
  refine fr_bipush 4 dX6_walk_2 rfl (by decide) ?_
  refine fr_icmp_lt 22 7 dX6_walk_4 rfl rfl (by omega) (by omega) (fun h4 => ?_) (fun h4 => ?_)
  · refine fr_iconst 23 dX6_walk_22 rfl ?_
    refine fr_istore 25 [_, _, _, _, _, _, _, _] dX6_walk_23 rfl (Nat.le_of_ble_eq_true rfl) rfl ?_
    first
    | exact k25 0 (Or.inl rfl) ⟨fun z => absurd z (by decide), fun z => by omega⟩
    | exact k25 0 (Or.inl rfl) ⟨fun z => absurd z (by decide), fun z => absurd ⟨by omega, by omega⟩ ((i01 _).1 h15)⟩
    | exact k25 1 (Or.inr rfl) ⟨fun _ => by have := (i01' _).1 h15; omega, fun _ => rfl⟩
  · refine fr_iload 9 dX6_walk_7 rfl rfl ?_
    refine fr_bipush 11 dX6_walk_9 rfl (by decide) ?_
    refine fr_isub 12 dX6_walk_11 rfl ?_
    refine fr_callSi 15 (M2 := mX6_isField) [_] dX6_walk_12 rfl fs_mX6_70 fs_oX6_isField fs_sX6_isField rfl (fs_Γ_rm (d := 0) (by decide)) (Nat.le_of_ble_eq_true rfl) rfl ?_
    refine (cK_isField ⟨by omega, by omega⟩).ci ?_
    refine fr_if_eq 22 18 dX6_walk_15 rfl rfl (by split <;> decide) (fun h15 => ?_) (fun h15 => ?_)
    · refine fr_iconst 23 dX6_walk_22 rfl ?_
      refine fr_istore 25 [_, _, _, _, _, _, _, _] dX6_walk_23 rfl (Nat.le_of_ble_eq_true rfl) rfl ?_
      first
      | exact k25 0 (Or.inl rfl) ⟨fun z => absurd z (by decide), fun z => by omega⟩
      | exact k25 0 (Or.inl rfl) ⟨fun z => absurd z (by decide), fun z => absurd ⟨by omega, by omega⟩ ((i01 _).1 h15)⟩
      | exact k25 1 (Or.inr rfl) ⟨fun _ => by have := (i01' _).1 h15; omega, fun _ => rfl⟩
    · refine fr_iconst 19 dX6_walk_18 rfl ?_
      refine fr_goto 23 dX6_walk_19 rfl ?_
      refine fr_istore 25 [_, _, _, _, _, _, _, _] dX6_walk_23 rfl (Nat.le_of_ble_eq_true rfl) rfl ?_
      first
      | exact k25 0 (Or.inl rfl) ⟨fun z => absurd z (by decide), fun z => by omega⟩
      | exact k25 0 (Or.inl rfl) ⟨fun z => absurd z (by decide), fun z => absurd ⟨by omega, by omega⟩ ((i01 _).1 h15)⟩
      | exact k25 1 (Or.inr rfl) ⟨fun _ => by have := (i01' _).1 h15; omega, fun _ => rfl⟩
