/-! ===== the class: tuple, probe, tree, walk ===== -/
set_option maxRecDepth 100000 in
set_option maxHeartbeats 3000000 in
theorem wK_tuple {σ : fs_S} {A : ab} {i w : Int} (hI : IC σ A) (hw : awf A) (h1 : rg i) (h2 : rg w) : fs_C mX6_tuple 9 [.inr 26, .inl i, .inl w] σ (Q_C σ (aTuple A.1 i w) A) := by
  refine fs_C.intro [some (.inr 26), some (.inl i), some (.inl w)] fs_oX6_tuple (Nat.le_of_ble_eq_true rfl) rfl ?_
  have hn := hw.1.1
  obtain ⟨⟨a1, a2, a3, a4, a5, a6⟩, b2, b3⟩ := id hI
  have hlen : (TL A.1).length ≤ 1029 := lsK_len_le A.1 _
  have k38 : ∀ (τ : fs_S), (0 ≤ w ∧ w ≤ 6) → (0 ≤ i ∧ i < ((TL A.1).length : Int)) → IC τ A → TVc τ A.1 → (∀ k i, k < 26 → τ k i = σ k i) → fs_W (fs_Γ 9 (Q_C σ (aTuple A.1 i w) A)) mX6_tuple 38 [some (.inr 26), some (.inl i), some (.inl w)] [] τ := by
    intro τ ok ok2 ic tv hF
    obtain ⟨t1, t2, t3⟩ := TL_at (t := A.1) hn.1 ok2.1 ok2.2
    obtain ⟨v1, v2⟩ := tv.at hw.1
    obtain ⟨q1, q2, q3, q4⟩ := v2 _ _ t1
    rw [Int.toNat_of_nonneg ok2.1] at q1 q2 q3 q4
    have an : aTuple A.1 i w = (if w < 4 then cl ((TL A.1).getD i.toNat (0, 0)).1 w else if w = 4 then smI (fun r => eo A.1 r ((TL A.1).getD i.toNat (0, 0)).1) (tn A.1) else if w = 5 then tod A.1 ((TL A.1).getD i.toNat (0, 0)).2 else pop (mb A.1 ((TL A.1).getD i.toNat (0, 0)).1)) := by
      unfold aTuple
      rw [if_pos ok, if_pos ok2]
    refine fr_iload_n 39 dX6_tuple_38 rfl rfl ?_
    rcases (by omega : (w = 4 ∨ w = 5 ∨ w = 6) ∨ (w ≠ 4 ∧ w ≠ 5 ∧ w ≠ 6)) with (rfl | rfl | rfl) | hd39
    · refine fr_tblIn 64 dX6_tuple_39 (by decide) (by decide) (by decide) rfl rfl ?_
      refine fr_aload_n 65 dX6_tuple_64 rfl rfl ?_
      refine fr_getr 68 62 dX6_tuple_65 rfl fs_kX6_37 fs_l26 rfl ?_
      refine fr_getr 71 63 dX6_tuple_68 rfl fs_kX6_171 fs_l62 rfl ?_
      refine fr_iload_n 72 dX6_tuple_71 rfl rfl ?_
      refine fr_iald 73 dX6_tuple_72 rfl fs_l63 (by omega) ?_
      refine fr_top q3 ?_
      refine fr_iret dX6_tuple_73 rfl ?_
      refine ⟨congrArg some ?_, ic, hF⟩
      rw [an]
      first
      | rfl
      | (rw [if_pos t3]; rfl)
      | (rw [if_pos (by omega)])
    · refine fr_tblIn 74 dX6_tuple_39 (by decide) (by decide) (by decide) rfl rfl ?_
      refine fr_aload_n 75 dX6_tuple_74 rfl rfl ?_
      refine fr_aload_n 76 dX6_tuple_75 rfl rfl ?_
      refine fr_getr 79 62 dX6_tuple_76 rfl fs_kX6_37 fs_l26 rfl ?_
      refine fr_getr 82 64 dX6_tuple_79 rfl fs_kX6_174 fs_l62 rfl ?_
      refine fr_iload_n 83 dX6_tuple_82 rfl rfl ?_
      refine fr_iald 84 dX6_tuple_83 rfl fs_l64 (by omega) ?_
      refine fr_top q2 ?_
      refine fr_callVi 87 (M2 := mX6_ruleAt) [_] dX6_tuple_84 rfl fs_mX6_131 fs_oX6_ruleAt fs_iX6_ruleAt fs_l26 rfl rfl (fs_Γ_rm (d := 0) (by decide)) (Nat.le_of_ble_eq_true rfl) rfl ?_
      refine (cK_ruleAt hw.1 ic.1.1.1 ic.1.2.1 ⟨by omega, by omega⟩).ci ?_
      refine fr_iret dX6_tuple_87 rfl ?_
      refine ⟨congrArg some ?_, ic, hF⟩
      rw [an]
      first
      | rfl
      | (rw [if_pos t3]; rfl)
      | (rw [if_pos (by omega)])
    · refine fr_tblIn 88 dX6_tuple_39 (by decide) (by decide) (by decide) rfl rfl ?_
      refine fr_aload_n 89 dX6_tuple_88 rfl rfl ?_
      refine fr_getr 92 62 dX6_tuple_89 rfl fs_kX6_37 fs_l26 rfl ?_
      refine fr_getr 95 65 dX6_tuple_92 rfl fs_kX6_177 fs_l62 rfl ?_
      refine fr_iload_n 96 dX6_tuple_95 rfl rfl ?_
      refine fr_iald 97 dX6_tuple_96 rfl fs_l65 (by omega) ?_
      refine fr_top q4 ?_
      refine fr_iret dX6_tuple_97 rfl ?_
      refine ⟨congrArg some ?_, ic, hF⟩
      rw [an]
      first
      | rfl
      | (rw [if_pos t3]; rfl)
      | (rw [if_pos (by omega)])
    · refine fr_tblOut 98 dX6_tuple_39 (by omega) (by omega) rfl ?_
      refine fr_aload_n 99 dX6_tuple_98 rfl rfl ?_
      refine fr_getr 102 62 dX6_tuple_99 rfl fs_kX6_37 fs_l26 rfl ?_
      refine fr_iload_n 103 dX6_tuple_102 rfl rfl ?_
      refine fr_iload_n 104 dX6_tuple_103 rfl rfl ?_
      refine fr_callVi 107 (M2 := mX5_lengthIn) [_, _] dX6_tuple_104 rfl fs_mX6_180 fs_oX5_lengthIn fs_iX5_lengthIn fs_l62 rfl rfl (fs_Γ_rm (d := 0) (by decide)) (Nat.le_of_ble_eq_true rfl) rfl ?_
      refine (cK_lengthIn (f := w) ⟨ok2.1, by omega⟩ t2 ⟨ok.1, by omega⟩ q1).ci ?_
      refine fr_iret dX6_tuple_107 rfl ?_
      refine ⟨congrArg some ?_, ic, hF⟩
      rw [an]
      first
      | rfl
      | (rw [if_pos t3]; rfl)
      | (rw [if_pos (by omega)])
  refine fr_iload_n 1 dX6_tuple_0 rfl rfl ?_
  refine fr_if_lt 10 4 dX6_tuple_1 rfl rfl (by omega) (fun h1 => ?_) (fun h1 => ?_)
  · refine fr_bipush 12 dX6_tuple_10 rfl (by decide) ?_
    refine fr_iret dX6_tuple_12 rfl ?_
    exact ⟨congrArg some (by unfold aTuple; rw [if_neg (by omega)]), hI, fun _ _ _ => rfl⟩
  · refine fr_iload_n 5 dX6_tuple_4 rfl rfl ?_
    refine fr_bipush 7 dX6_tuple_5 rfl (by decide) ?_
    refine fr_icmp_le 13 10 dX6_tuple_7 rfl rfl (by omega) (by omega) (fun h7 => ?_) (fun h7 => ?_)
    · refine fr_aload_n 14 dX6_tuple_13 rfl rfl ?_
      refine fr_getr 17 62 dX6_tuple_14 rfl fs_kX6_37 fs_l26 rfl ?_
      refine fr_callVv 20 (M2 := mX5_refresh) [] dX6_tuple_17 rfl fs_mX6_169 fs_oX5_refresh fs_iX5_refresh fs_l62 rfl rfl (fs_Γ_rm (d := 8) (by decide)) (Nat.le_of_ble_eq_true rfl) rfl ?_
      refine (cK_refreshT hw.1 a1 a2 b3.1 b3.2).mono ?_
      rintro _ τ ⟨rfl, g1, g2, g3⟩
      have ic := hI.tv g1 g2 g3
      have e1 := (g1.at hw.1).1
      refine ⟨rfl, ?_⟩
      refine fr_iload_n 21 dX6_tuple_20 rfl rfl ?_
      refine fr_if_lt 35 24 dX6_tuple_21 rfl rfl (by omega) (fun h21 => ?_) (fun h21 => ?_)
      · refine fr_bipush 37 dX6_tuple_35 rfl (by decide) ?_
        refine fr_iret dX6_tuple_37 rfl ?_
        exact ⟨congrArg some (by unfold aTuple; rw [if_pos (by omega), if_neg (by omega)]), ic, fun k i z => g3 k i (by omega) (by omega) (by omega)⟩
      · refine fr_iload_n 25 dX6_tuple_24 rfl rfl ?_
        refine fr_aload_n 26 dX6_tuple_25 rfl rfl ?_
        refine fr_getr 29 62 dX6_tuple_26 rfl fs_kX6_37 fs_l26 rfl ?_
        refine fr_geti 32 1 dX6_tuple_29 rfl fs_kX6_170 rfl fs_l62 rfl ?_
        refine fr_top e1 ?_
        refine fr_icmp_lt 38 35 dX6_tuple_32 rfl rfl (by omega) (by omega) (fun h32 => ?_) (fun h32 => ?_)
        · exact k38 τ (by omega) (by omega) ic g1 (fun k i z => g3 k i (by omega) (by omega) (by omega))
        · refine fr_bipush 37 dX6_tuple_35 rfl (by decide) ?_
          refine fr_iret dX6_tuple_37 rfl ?_
          exact ⟨congrArg some (by unfold aTuple; rw [if_pos (by omega), if_neg (by omega)]), ic, fun k i z => g3 k i (by omega) (by omega) (by omega)⟩
    · refine fr_bipush 12 dX6_tuple_10 rfl (by decide) ?_
      refine fr_iret dX6_tuple_12 rfl ?_
      exact ⟨congrArg some (by unfold aTuple; rw [if_neg (by omega)]), hI, fun _ _ _ => rfl⟩
theorem pk_r {a b c d : Int} (ok : (0 ≤ a ∧ a ≤ 63) ∧ (0 ≤ b ∧ b ≤ 63) ∧ (0 ≤ c ∧ c ≤ 63) ∧ 0 ≤ d ∧ d ≤ 3) : ∀ f, 0 ≤ f → f < 4 → 0 ≤ pk a b c d f ∧ pk a b c d f ≤ gr f := by
  intro f x y
  rcases (by omega : f = 0 ∨ f = 1 ∨ f = 2 ∨ f = 3) with rfl | rfl | rfl | rfl
  · exact ok.1
  · exact ok.2.1
  · exact ok.2.2.1
  · exact ok.2.2.2
theorem pk_at {τ : fs_S} {a b c d : Int} (p0 : τ 82 0 = a) (p1 : τ 82 1 = b) (p2 : τ 82 2 = c) (p3 : τ 82 3 = d) : ∀ f, 0 ≤ f → f < 4 → τ 82 f = pk a b c d f := by
  intro f x y
  rcases (by omega : f = 0 ∨ f = 1 ∨ f = 2 ∨ f = 3) with rfl | rfl | rfl | rfl <;> assumption
theorem prb_r {P : Int → Int} {n : Int} : ∀ (l : List (Int × Int)) (fd pb : Int), 0 ≤ pb → pb ≤ (prb P n l fd pb).2 ∧ (prb P n l fd pb).2 ≤ pb + (l.length : Int)
  | [], fd, pb, _ => ⟨Int.le_refl _, by show pb ≤ pb + ((0 : Nat) : Int); omega⟩
  | x :: l, fd, pb, h => by
    rw [prb]
    split
    · have := prb_r (P := P) (n := n) l (min fd (lea (fun p => decide (P p = x.1)) n)) (pb + 1) (by omega)
      rw [List.length_cons]
      omega
    · rw [List.length_cons]; dsimp only; omega
set_option maxRecDepth 100000 in
set_option maxHeartbeats 3000000 in
theorem wK_probe {σ : fs_S} {A : ab} {a b c d w : Int} (hI : IC σ A) (hw : awf A) (h1 : rg a) (h2 : rg b) (h3 : rg c) (h4 : rg d) (h5 : rg w) : fs_C mX6_probe 9 [.inr 26, .inl a, .inl b, .inl c, .inl d, .inl w] σ (Q_C σ (aProbe A.1 a b c d w) A) := by
  refine fs_C.intro [some (.inr 26), some (.inl a), some (.inl b), some (.inl c), some (.inl d), some (.inl w)] fs_oX6_probe (Nat.le_of_ble_eq_true rfl) rfl ?_
  have hn := hw.1.1
  have cp := @cK_isPacket σ a b c d h1 h2 h3 h4
  by_cases ok : ((0 ≤ a ∧ a ≤ 63) ∧ (0 ≤ b ∧ b ≤ 63) ∧ (0 ≤ c ∧ c ≤ 63) ∧ 0 ≤ d ∧ d ≤ 3) ∧ 0 ≤ w ∧ w ≤ 2
  · rw [if_pos ok.1] at cp
    obtain ⟨F, pb, eP⟩ : ∃ F pb, prX A.1 (pk a b c d) = (F, pb) := ⟨_, _, rfl⟩
    have pr := prb_r (P := pcd A.1 a b c d) (n := tn A.1) (TL A.1) (tn A.1) 0 (Int.le_refl _)
    have hlen : (TL A.1).length ≤ 1029 := lsK_len_le A.1 _
    have an : aProbe A.1 a b c d w = (if w = 1 then pb else if w = 2 then (if pb = 0 then -6 else pb - 1) else if F = tn A.1 then -6 else tod A.1 F) := by
      unfold aProbe
      rw [if_pos ok]
      have e : prb (pcd A.1 a b c d) (tn A.1) (TL A.1) (tn A.1) 0 = (F, pb) := eP
      rw [e]
    have pr2 : 0 ≤ pb ∧ pb ≤ 1029 := by
      have e : prb (pcd A.1 a b c d) (tn A.1) (TL A.1) (tn A.1) 0 = (F, pb) := eP
      rw [e] at pr
      dsimp only at pr
      omega
    clear pr
    refine fr_iload_n 1 dX6_probe_0 rfl rfl ?_
    refine fr_iload_n 2 dX6_probe_1 rfl rfl ?_
    refine fr_iload_n 3 dX6_probe_2 rfl rfl ?_
    refine fr_iload 5 dX6_probe_3 rfl rfl ?_
    refine fr_callSi 8 (M2 := mX6_isPacket) [_, _, _, _] dX6_probe_5 rfl fs_mX6_115 fs_oX6_isPacket fs_sX6_isPacket rfl (fs_Γ_rm (d := 1) (by decide)) (Nat.le_of_ble_eq_true rfl) rfl ?_
    refine cp.ci ?_
    refine fr_if_eq 22 11 dX6_probe_8 rfl rfl (by omega) (fun h8 => ?_) (fun h8 => ?_)
    · exact absurd h8 (by decide)
    · refine fr_iload 13 dX6_probe_11 rfl rfl ?_
      refine fr_if_lt 22 16 dX6_probe_13 rfl rfl (by omega) (fun h13 => ?_) (fun h13 => ?_)
      · omega
      · refine fr_iload 18 dX6_probe_16 rfl rfl ?_
        refine fr_iconst 19 dX6_probe_18 rfl ?_
        refine fr_icmp_le 25 22 dX6_probe_19 rfl rfl (by omega) (by omega) (fun h19 => ?_) (fun h19 => ?_)
        · refine fr_aload_n 26 dX6_probe_25 rfl rfl ?_
          refine fr_iload_n 27 dX6_probe_26 rfl rfl ?_
          refine fr_iload_n 28 dX6_probe_27 rfl rfl ?_
          refine fr_iload_n 29 dX6_probe_28 rfl rfl ?_
          refine fr_iload 31 dX6_probe_29 rfl rfl ?_
          refine fr_callVv 34 (M2 := mX6_setPacket) [_, _, _, _] dX6_probe_31 rfl fs_mX6_119 fs_oX6_setPacket fs_iX6_setPacket fs_l26 rfl rfl (fs_Γ_rm (d := 0) (by decide)) (Nat.le_of_ble_eq_true rfl) rfl ?_
          refine cK_setPacket.mono ?_
          rintro _ τ ⟨rfl, ⟨p0, p1, p2, p3⟩, hF⟩
          have ic := hI.packet hF
          refine ⟨rfl, ?_⟩
          refine fr_aload_n 35 dX6_probe_34 rfl rfl ?_
          refine fr_getr 38 62 dX6_probe_35 rfl fs_kX6_37 fs_l26 rfl ?_
          refine fr_callVv 41 (M2 := mX5_refresh) [] dX6_probe_38 rfl fs_mX6_169 fs_oX5_refresh fs_iX5_refresh fs_l62 rfl rfl (fs_Γ_rm (d := 8) (by decide)) (Nat.le_of_ble_eq_true rfl) rfl ?_
          refine (cK_refreshT hw.1 ic.1.1 ic.1.2.1 ic.2.2.1 ic.2.2.2).mono ?_
          rintro _ ρ ⟨rfl, g1, g2, g3⟩
          have ic2 := ic.tv g1 g2 g3
          have q := fun i => g3 82 i (by omega) (by omega) (by omega)
          refine ⟨rfl, ?_⟩
          refine fr_aload_n 42 dX6_probe_41 rfl rfl ?_
          refine fr_getr 45 62 dX6_probe_42 rfl fs_kX6_37 fs_l26 rfl ?_
          refine fr_aload_n 46 dX6_probe_45 rfl rfl ?_
          refine fr_getr 49 82 dX6_probe_46 rfl fs_kX6_64 fs_l26 rfl ?_
          refine fr_callVv 52 (M2 := mX5_search) [_] dX6_probe_49 rfl fs_mX6_183 fs_oX5_search fs_iX5_search fs_l62 rfl rfl (fs_Γ_rm (d := 2) (by decide)) (Nat.le_of_ble_eq_true rfl) rfl ?_
          refine (cK_search hw.1 ic2.1.1 ic2.1.2.1 g1 (pk_r ok.1) (pk_at ((q 0).trans p0) ((q 1).trans p1) ((q 2).trans p2) ((q 3).trans p3))).mono ?_
          rintro _ υ ⟨rfl, ⟨s8, s9, s1, s2⟩, sF⟩
          rw [eP] at s8 s9 s1 s2
          dsimp only at s8 s9 s1 s2
          have ic3 : IC υ A := ic2.eq (fun k i _ _ z1 z2 _ _ => sF k i (by omega) (by omega))
          have fr : ∀ k i, k < 26 → υ k i = σ k i := fun k i z => (sF k i (by omega) (by omega)).trans ((g3 k i (by omega) (by omega) (by omega)).trans (hF k i (by omega)))
          refine ⟨rfl, ?_⟩
          refine fr_iload 54 dX6_probe_52 rfl rfl ?_
          rcases (by omega : (w = 0 ∨ w = 1) ∨ (w ≠ 0 ∧ w ≠ 1)) with (rfl | rfl) | hd54
          · refine fr_look 80 dX6_probe_54 (by decide) rfl rfl rfl ?_
            refine fr_aload_n 81 dX6_probe_80 rfl rfl ?_
            refine fr_aload_n 82 dX6_probe_81 rfl rfl ?_
            refine fr_getr 85 62 dX6_probe_82 rfl fs_kX6_37 fs_l26 rfl ?_
            refine fr_geti 88 8 dX6_probe_85 rfl fs_kX6_187 rfl fs_l62 rfl ?_
            refine fr_top s8 ?_
            refine fr_callVi 91 (M2 := mX6_ruleAt) [_] dX6_probe_88 rfl fs_mX6_131 fs_oX6_ruleAt fs_iX6_ruleAt fs_l26 rfl rfl (fs_Γ_rm (d := 0) (by decide)) (Nat.le_of_ble_eq_true rfl) rfl ?_
            refine (cK_ruleAt hw.1 ic3.1.1.1 ic3.1.2.1 (by split <;> exact ⟨by omega, by omega⟩)).ci ?_
            refine fr_iret dX6_probe_91 rfl ?_
            refine ⟨congrArg some ?_, ic3, fr⟩
            rw [an]
            first
            | rfl
            | (rw [if_neg (by decide), if_pos rfl, if_pos (by omega)])
            | (rw [if_neg (by decide), if_pos rfl, if_neg (by omega)])
            | (rw [if_neg (show ¬ (0 : Int) = 1 by decide), if_neg (show ¬ (0 : Int) = 2 by decide)]
               by_cases z : F = tn A.1
               · rw [if_pos z, if_pos z]; rfl
               · rw [if_neg z, if_neg z, if_pos (by omega)])
            | omega
          · refine fr_look 92 dX6_probe_54 (by decide) rfl rfl rfl ?_
            refine fr_aload_n 93 dX6_probe_92 rfl rfl ?_
            refine fr_getr 96 62 dX6_probe_93 rfl fs_kX6_37 fs_l26 rfl ?_
            refine fr_geti 99 9 dX6_probe_96 rfl fs_kX6_190 rfl fs_l62 rfl ?_
            refine fr_top s9 ?_
            refine fr_iret dX6_probe_99 rfl ?_
            refine ⟨congrArg some ?_, ic3, fr⟩
            rw [an]
            first
            | rfl
            | (rw [if_neg (by decide), if_pos rfl, if_pos (by omega)])
            | (rw [if_neg (by decide), if_pos rfl, if_neg (by omega)])
            | (rw [if_neg (show ¬ (0 : Int) = 1 by decide), if_neg (show ¬ (0 : Int) = 2 by decide)]
               by_cases z : F = tn A.1
               · rw [if_pos z, if_pos z]; rfl
               · rw [if_neg z, if_neg z, if_pos (by omega)])
            | omega
          · refine fr_look 100 (off := 46) dX6_probe_54 (by omega) rfl (by simp [Op.lookupswitch.offset]; omega) rfl ?_
            refine fr_aload_n 101 dX6_probe_100 rfl rfl ?_
            refine fr_getr 104 62 dX6_probe_101 rfl fs_kX6_37 fs_l26 rfl ?_
            refine fr_geti 107 9 dX6_probe_104 rfl fs_kX6_190 rfl fs_l62 rfl ?_
            refine fr_top s9 ?_
            refine fr_if_le 122 110 dX6_probe_107 rfl rfl (by omega) (fun h107 => ?_) (fun h107 => ?_)
            · refine fr_bipush 124 dX6_probe_122 rfl (by decide) ?_
              refine fr_iret dX6_probe_124 rfl ?_
              refine ⟨congrArg some ?_, ic3, fr⟩
              rw [an]
              first
              | rfl
              | (rw [if_neg (by decide), if_pos rfl, if_pos (by omega)])
              | (rw [if_neg (by decide), if_pos rfl, if_neg (by omega)])
              | (rw [if_neg (show ¬ (0 : Int) = 1 by decide), if_neg (show ¬ (0 : Int) = 2 by decide)]
                 by_cases z : F = tn A.1
                 · rw [if_pos z, if_pos z]; rfl
                 · rw [if_neg z, if_neg z, if_pos (by omega)])
              | omega
            · refine fr_aload_n 111 dX6_probe_110 rfl rfl ?_
              refine fr_getr 114 62 dX6_probe_111 rfl fs_kX6_37 fs_l26 rfl ?_
              refine fr_geti 117 9 dX6_probe_114 rfl fs_kX6_190 rfl fs_l62 rfl ?_
              refine fr_top s9 ?_
              refine fr_iconst 118 dX6_probe_117 rfl ?_
              refine fr_isub 119 dX6_probe_118 rfl ?_
              refine fr_goto 124 dX6_probe_119 rfl ?_
              refine fr_iret dX6_probe_124 rfl ?_
              refine ⟨congrArg some ?_, ic3, fr⟩
              rw [an]
              first
              | rfl
              | (rw [if_neg (by decide), if_pos rfl, if_pos (by omega)])
              | (rw [if_neg (by decide), if_pos rfl, if_neg (by omega)])
              | (rw [if_neg (show ¬ (0 : Int) = 1 by decide), if_neg (show ¬ (0 : Int) = 2 by decide)]
                 by_cases z : F = tn A.1
                 · rw [if_pos z, if_pos z]; rfl
                 · rw [if_neg z, if_neg z, if_pos (by omega)])
              | omega
        · omega
  · have out : Q_C σ (aProbe A.1 a b c d w) A (some (-2)) σ := ⟨congrArg some (by unfold aProbe; rw [if_neg ok]), hI, fun _ _ _ => rfl⟩
    refine fr_iload_n 1 dX6_probe_0 rfl rfl ?_
    refine fr_iload_n 2 dX6_probe_1 rfl rfl ?_
    refine fr_iload_n 3 dX6_probe_2 rfl rfl ?_
    refine fr_iload 5 dX6_probe_3 rfl rfl ?_
    refine fr_callSi 8 (M2 := mX6_isPacket) [_, _, _, _] dX6_probe_5 rfl fs_mX6_115 fs_oX6_isPacket fs_sX6_isPacket rfl (fs_Γ_rm (d := 1) (by decide)) (Nat.le_of_ble_eq_true rfl) rfl ?_
    refine cp.ci ?_
    refine fr_if_eq 22 11 dX6_probe_8 rfl rfl (by split <;> decide) (fun h8 => ?_) (fun h8 => ?_)
    · refine fr_bipush 24 dX6_probe_22 rfl (by decide) ?_
      refine fr_iret dX6_probe_24 rfl ?_
      exact out
    · refine fr_iload 13 dX6_probe_11 rfl rfl ?_
      refine fr_if_lt 22 16 dX6_probe_13 rfl rfl (by omega) (fun h13 => ?_) (fun h13 => ?_)
      · refine fr_bipush 24 dX6_probe_22 rfl (by decide) ?_
        refine fr_iret dX6_probe_24 rfl ?_
        exact out
      · refine fr_iload 18 dX6_probe_16 rfl rfl ?_
        refine fr_iconst 19 dX6_probe_18 rfl ?_
        refine fr_icmp_le 25 22 dX6_probe_19 rfl rfl (by omega) (by omega) (fun h19 => ?_) (fun h19 => ?_)
        · exact absurd ⟨(i01' _).1 h8, by omega, by omega⟩ ok
        · refine fr_bipush 24 dX6_probe_22 rfl (by decide) ?_
          refine fr_iret dX6_probe_24 rfl ?_
          exact out
set_option maxRecDepth 100000 in
set_option maxHeartbeats 3000000 in
theorem wK_tree {σ : fs_S} {A : ab} {w : Int} (hI : IC σ A) (hw : awf A) (h1 : rg w) : fs_C mX6_tree 14 [.inr 26, .inl w] σ (Q_C σ (aTree A.1 A.2.2.1.1 A.2.2.1.2 w) A) := by
  refine fs_C.intro [some (.inr 26), some (.inl w)] fs_oX6_tree (Nat.le_of_ble_eq_true rfl) rfl ?_
  obtain ⟨⟨a1, a2, a3, a4, a5, a6⟩, b2, b3⟩ := id hI
  refine fr_iload_n 1 dX6_tree_0 rfl rfl ?_
  refine fr_if_lt 9 4 dX6_tree_1 rfl rfl (by omega) (fun h1 => ?_) (fun h1 => ?_)
  · refine fr_bipush 11 dX6_tree_9 rfl (by decide) ?_
    refine fr_iret dX6_tree_11 rfl ?_
    exact ⟨congrArg some (by unfold aTree; rw [if_neg (by omega)]), hI, fun _ _ _ => rfl⟩
  · refine fr_iload_n 5 dX6_tree_4 rfl rfl ?_
    refine fr_iconst 6 dX6_tree_5 rfl ?_
    refine fr_icmp_le 12 9 dX6_tree_6 rfl rfl (by omega) (by omega) (fun h6 => ?_) (fun h6 => ?_)
    · have ok : 0 ≤ w ∧ w ≤ 5 := by omega
      refine fr_aload_n 13 dX6_tree_12 rfl rfl ?_
      refine fr_getr 16 74 dX6_tree_13 rfl fs_kX6_46 fs_l26 rfl ?_
      refine fr_callVv 19 (M2 := mX0_measure) [] dX6_tree_16 rfl fs_mX6_199 fs_oX0_measure fs_iX0_measure fs_l74 rfl rfl (fs_Γ_rm (d := 13) (by decide)) (Nat.le_of_ble_eq_true rfl) rfl ?_
      refine (cK_measure hw.1 a1.1 a3 a5.1 a5.2 hw.2.2.1.1 hw.2.2.1.2).mono ?_
      rintro _ τ ⟨rfl, ⟨m2, m3, m4, m5, m6, m7⟩, mF⟩
      have ic : IC τ A := hI.eq (fun k i _ _ _ _ z1 z2 => mF k i (by omega) (by omega))
      have fr : ∀ k i, k < 26 → τ k i = σ k i := fun k i z => mF k i (by omega) (by omega)
      refine ⟨rfl, ?_⟩
      refine fr_iload_n 20 dX6_tree_19 rfl rfl ?_
      rcases (by omega : (w = 0 ∨ w = 1 ∨ w = 2 ∨ w = 3 ∨ w = 4) ∨ (w ≠ 0 ∧ w ≠ 1 ∧ w ≠ 2 ∧ w ≠ 3 ∧ w ≠ 4)) with (rfl | rfl | rfl | rfl | rfl) | hd20
      · refine fr_tblIn 56 dX6_tree_20 (by decide) (by decide) (by decide) rfl rfl ?_
        refine fr_aload_n 57 dX6_tree_56 rfl rfl ?_
        refine fr_getr 60 74 dX6_tree_57 rfl fs_kX6_46 fs_l26 rfl ?_
        refine fr_geti 63 2 dX6_tree_60 rfl fs_kX6_202 rfl fs_l74 rfl ?_
        refine fr_top m2 ?_
        refine fr_iret dX6_tree_63 rfl ?_
        refine ⟨congrArg some ?_, ic, fr⟩
        unfold aTree
        rw [if_pos ok]
        first
        | rfl
        | (rw [if_neg (by omega), if_neg (by omega), if_neg (by omega), if_neg (by omega), if_neg (by omega)])
      · refine fr_tblIn 64 dX6_tree_20 (by decide) (by decide) (by decide) rfl rfl ?_
        refine fr_aload_n 65 dX6_tree_64 rfl rfl ?_
        refine fr_getr 68 74 dX6_tree_65 rfl fs_kX6_46 fs_l26 rfl ?_
        refine fr_geti 71 3 dX6_tree_68 rfl fs_kX6_205 rfl fs_l74 rfl ?_
        refine fr_top m3 ?_
        refine fr_iret dX6_tree_71 rfl ?_
        refine ⟨congrArg some ?_, ic, fr⟩
        unfold aTree
        rw [if_pos ok]
        first
        | rfl
        | (rw [if_neg (by omega), if_neg (by omega), if_neg (by omega), if_neg (by omega), if_neg (by omega)])
      · refine fr_tblIn 72 dX6_tree_20 (by decide) (by decide) (by decide) rfl rfl ?_
        refine fr_aload_n 73 dX6_tree_72 rfl rfl ?_
        refine fr_getr 76 74 dX6_tree_73 rfl fs_kX6_46 fs_l26 rfl ?_
        refine fr_geti 79 4 dX6_tree_76 rfl fs_kX6_208 rfl fs_l74 rfl ?_
        refine fr_top m4 ?_
        refine fr_iret dX6_tree_79 rfl ?_
        refine ⟨congrArg some ?_, ic, fr⟩
        unfold aTree
        rw [if_pos ok]
        first
        | rfl
        | (rw [if_neg (by omega), if_neg (by omega), if_neg (by omega), if_neg (by omega), if_neg (by omega)])
      · refine fr_tblIn 80 dX6_tree_20 (by decide) (by decide) (by decide) rfl rfl ?_
        refine fr_aload_n 81 dX6_tree_80 rfl rfl ?_
        refine fr_getr 84 74 dX6_tree_81 rfl fs_kX6_46 fs_l26 rfl ?_
        refine fr_geti 87 5 dX6_tree_84 rfl fs_kX6_211 rfl fs_l74 rfl ?_
        refine fr_top m5 ?_
        refine fr_iret dX6_tree_87 rfl ?_
        refine ⟨congrArg some ?_, ic, fr⟩
        unfold aTree
        rw [if_pos ok]
        first
        | rfl
        | (rw [if_neg (by omega), if_neg (by omega), if_neg (by omega), if_neg (by omega), if_neg (by omega)])
      · refine fr_tblIn 88 dX6_tree_20 (by decide) (by decide) (by decide) rfl rfl ?_
        refine fr_aload_n 89 dX6_tree_88 rfl rfl ?_
        refine fr_getr 92 74 dX6_tree_89 rfl fs_kX6_46 fs_l26 rfl ?_
        refine fr_geti 95 6 dX6_tree_92 rfl fs_kX6_214 rfl fs_l74 rfl ?_
        refine fr_top m6 ?_
        refine fr_iret dX6_tree_95 rfl ?_
        refine ⟨congrArg some ?_, ic, fr⟩
        unfold aTree
        rw [if_pos ok]
        first
        | rfl
        | (rw [if_neg (by omega), if_neg (by omega), if_neg (by omega), if_neg (by omega), if_neg (by omega)])
      · refine fr_tblOut 96 dX6_tree_20 (by omega) (by omega) rfl ?_
        refine fr_aload_n 97 dX6_tree_96 rfl rfl ?_
        refine fr_getr 100 74 dX6_tree_97 rfl fs_kX6_46 fs_l26 rfl ?_
        refine fr_geti 103 7 dX6_tree_100 rfl fs_kX6_217 rfl fs_l74 rfl ?_
        refine fr_top m7 ?_
        refine fr_iret dX6_tree_103 rfl ?_
        refine ⟨congrArg some ?_, ic, fr⟩
        unfold aTree
        rw [if_pos ok]
        first
        | rfl
        | (rw [if_neg (by omega), if_neg (by omega), if_neg (by omega), if_neg (by omega), if_neg (by omega)])
    · refine fr_bipush 11 dX6_tree_9 rfl (by decide) ?_
      refine fr_iret dX6_tree_11 rfl ?_
      exact ⟨congrArg some (by unfold aTree; rw [if_neg (by omega)]), hI, fun _ _ _ => rfl⟩
