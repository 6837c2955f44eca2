/-! ===== the class: Cutter, the cut ===== -/
def cn1 (x : Int) : Int := if x < 0 then -1 else x
theorem ck_t {t : rt} {N : nd} {k : Nat} (h1 : N.2.1 (k : Int) < 2 ^ wN (k : Int)) (h2 : max (pop (hlf t N k 0)) (pop (hlf t N k 1)) < (ck t N k).2.1 ∨ 0 ≤ (ck t N k).1 ∧ max (pop (hlf t N k 0)) (pop (hlf t N k 1)) = (ck t N k).2.1 ∧ pop (hlf t N k 0) + pop (hlf t N k 1) < (ck t N k).2.2) : ck t N (k + 1) = ((k : Int), max (pop (hlf t N k 0)) (pop (hlf t N k 1)), pop (hlf t N k 0) + pop (hlf t N k 1)) := if_pos ⟨h1, h2⟩
theorem ck_f {t : rt} {N : nd} {k : Nat} (h : ¬ (N.2.1 (k : Int) < 2 ^ wN (k : Int) ∧ (max (pop (hlf t N k 0)) (pop (hlf t N k 1)) < (ck t N k).2.1 ∨ 0 ≤ (ck t N k).1 ∧ max (pop (hlf t N k 0)) (pop (hlf t N k 1)) = (ck t N k).2.1 ∧ pop (hlf t N k 0) + pop (hlf t N k 1) < (ck t N k).2.2))) : ck t N (k + 1) = ck t N k := if_neg h
set_option maxRecDepth 100000 in
set_option maxHeartbeats 3000000 in
theorem cK_cutField {σ : fs_S} {t : rt} {b e : Int} {N : nd} (hw : twf t) (hP : PV σ t) (hB : σ 74 0 = b) (hE : σ 74 1 = e) (hb : 1 ≤ b ∧ b ≤ 4) (he : 1 ≤ e ∧ e ≤ 8) (hN : ∀ f, 0 ≤ f → f < 4 → σ 76 f = ((N.2.1 f : Nat) : Int)) (hg : gdN N) : fs_C mX0_cutField 1 [.inr 74, .inl ((N.1 : Nat) : Int), .inl N.2.2] σ (fun x τ => x = some (cn1 (pick t b e N)) ∧ τ = σ) := by
  refine fs_C.intro [some (.inr 74), some (.inl ((N.1 : Nat) : Int)), some (.inl N.2.2), none, none, none, none, none, none, none, none, none] fs_oX0_cutField (Nat.le_of_ble_eq_true rfl) rfl ?_
  obtain ⟨g1, g2, g3⟩ := id hg
  have hp := pop_r N.1
  have key : ∀ (m k : Nat) (y1 y2 y3 y4 : Option fs_V), ¬ (pop N.1 ≤ b ∨ e ≤ N.2.2) → k ≤ 4 → 4 - k < m → fs_W (fs_Γ 1 (fun x τ => x = some (cn1 (pick t b e N)) ∧ τ = σ)) mX0_cutField 35 [some (.inr 74), some (.inl ((N.1 : Nat) : Int)), some (.inl N.2.2), some (.inl (pop N.1)), some (.inl (cn1 (ck t N k).1)), some (.inl (ck t N k).2.1), some (.inl (ck t N k).2.2), some (.inl (k : Int)), y1, y2, y3, y4] [] σ := by
    intro m
    induction m with
    | zero => intro k y1 y2 y3 y4 hn h1 h2; omega
    | succ m ih =>
      intro k y1 y2 y3 y4 hn h1 h2
      have r := ck_r t N k
      have cr : cn1 (ck t N k).1 = -1 ∧ (ck t N k).1 = -6 ∨ cn1 (ck t N k).1 = (ck t N k).1 ∧ 0 ≤ (ck t N k).1 ∧ (ck t N k).1 < 4 := by
        unfold cn1
        rcases r.1 with z | z
        · left; rw [if_pos (by omega)]; exact ⟨rfl, z⟩
        · right; rw [if_neg (by omega)]; exact ⟨rfl, z.1, by omega⟩
      have p0 := pop_r (hlf t N k 0)
      have p1 := pop_r (hlf t N k 1)
      have l0 : hlf t N k 0 < 65536 := hlf_lt g1
      have l1 : hlf t N k 1 < 65536 := hlf_lt g1
      have gw := gr_wN (k : Int)
      have gk := gr_r (k : Int)
      have no : ¬ (N.2.1 (k : Int) < 2 ^ wN (k : Int) ∧ (max (pop (hlf t N k 0)) (pop (hlf t N k 1)) < (ck t N k).2.1 ∨ 0 ≤ (ck t N k).1 ∧ max (pop (hlf t N k 0)) (pop (hlf t N k 1)) = (ck t N k).2.1 ∧ pop (hlf t N k 0) + pop (hlf t N k 1) < (ck t N k).2.2)) → ck t N (k + 1) = ck t N k := ck_f
      have cnk : cn1 (k : Int) = (k : Int) := if_neg (by omega)
      have pw : 2 ^ (wN (k : Int) + 1) = 2 * 2 ^ wN (k : Int) := by rw [Nat.pow_succ]; omega
      obtain ⟨n, en⟩ : ∃ n : Nat, n = N.2.1 (k : Int) := ⟨_, rfl⟩
      refine fr_iload 37 dX0_cutField_35 rfl rfl ?_
      refine fr_iconst 38 dX0_cutField_37 rfl ?_
      refine fr_icmp_ge 176 41 dX0_cutField_38 rfl rfl (by omega) (by omega) (fun h38 => ?_) (fun h38 => ?_)
      · refine fr_iload 178 dX0_cutField_176 rfl rfl ?_
        refine fr_iret dX0_cutField_178 rfl ?_
        refine ⟨congrArg some ?_, rfl⟩
        unfold pick
        rw [if_neg hn, show k = 4 by omega]
      · have hk4 : (0 : Int) ≤ (k : Int) ∧ (k : Int) < 4 := by omega
        have q := g2 (k : Int) hk4.1 hk4.2
        have eN : σ 76 (k : Int) = (n : Int) := by rw [en]; exact hN (k : Int) hk4.1 hk4.2
        rw [← en] at q
        refine fr_aload_n 42 dX0_cutField_41 rfl rfl ?_
        refine fr_getr 45 76 dX0_cutField_42 rfl fs_kX0_43 fs_l74 rfl ?_
        refine fr_iload 47 dX0_cutField_45 rfl rfl ?_
        refine fr_iald 48 dX0_cutField_47 rfl fs_l76 (by omega) ?_
        refine fr_top eN ?_
        refine fr_getsN 51 0 dX0_cutField_48 rfl rfl rfl fs_nX0_89 ?_
        refine fr_iload 53 dX0_cutField_51 rfl rfl ?_
        refine fr_ialdS 54 0 dX0_cutField_53 rfl rfl rfl (by decide) hk4 (st_gr hk4) ?_
        refine fr_icmp_le 60 57 dX0_cutField_54 rfl rfl (by omega) (by omega) (fun h54 => ?_) (fun h54 => ?_)
        · refine fr_iload_n 61 dX0_cutField_60 rfl rfl ?_
          refine fr_aload_n 62 dX0_cutField_61 rfl rfl ?_
          refine fr_getr 65 42 dX0_cutField_62 rfl fs_kX0_46 fs_l74 rfl ?_
          refine fr_getr 68 43 dX0_cutField_65 rfl fs_kX0_85 fs_l42 rfl ?_
          refine fr_iload 70 dX0_cutField_68 rfl rfl ?_
          refine fr_aald 71 dX0_cutField_70 rfl fs_l43 (by omega) ?_
          refine fr_iconst 72 dX0_cutField_71 rfl ?_
          refine fr_aload_n 73 dX0_cutField_72 rfl rfl ?_
          refine fr_getr 76 76 dX0_cutField_73 rfl fs_kX0_43 fs_l74 rfl ?_
          refine fr_iload 78 dX0_cutField_76 rfl rfl ?_
          refine fr_iald 79 dX0_cutField_78 rfl fs_l76 (by omega) ?_
          refine fr_top eN ?_
          refine fr_imul 80 dX0_cutField_79 rfl ?_
          refine fr_top (show 2 * (n : Int) = ((2 * n : Nat) : Int) by omega) ?_
          refine fr_iald 81 dX0_cutField_80 rfl (fs_f44 _ (by omega)) (by omega) ?_
          refine fr_top (hP (k : Int) (2 * n) hk4.1 hk4.2 (by omega) (by omega)) ?_
          refine fr_iand 82 dX0_cutField_81 rfl ?_
          refine fr_top (y := ((hlf t N k 0 : Nat) : Int)) (by rw [fm_and (by omega) (by have := tkm_lt hw (k : Int) ((ploN (wN (k : Int)) (2 * n) : Nat) : Int) ((phiN (wN (k : Int)) (2 * n) : Nat) : Int); omega), en]; rfl) ?_
          refine fr_callSi 85 (M2 := mJ6_bitCount_0f7a4) [_] dX0_cutField_82 rfl fs_mX0_75 fs_oJ6_bitCount_0f7a4 fs_sJ6_bitCount_0f7a4 rfl (fs_Γ_rm (d := 0) (by decide)) (Nat.le_of_ble_eq_true rfl) rfl ?_
          refine (cK_bitCount l0).ci ?_
          refine fr_istore 87 [_, _, _, _, _, _, _, _, _, _, _, _] dX0_cutField_85 rfl (Nat.le_of_ble_eq_true rfl) rfl ?_
          refine fr_iload_n 88 dX0_cutField_87 rfl rfl ?_
          refine fr_aload_n 89 dX0_cutField_88 rfl rfl ?_
          refine fr_getr 92 42 dX0_cutField_89 rfl fs_kX0_46 fs_l74 rfl ?_
          refine fr_getr 95 43 dX0_cutField_92 rfl fs_kX0_85 fs_l42 rfl ?_
          refine fr_iload 97 dX0_cutField_95 rfl rfl ?_
          refine fr_aald 98 dX0_cutField_97 rfl fs_l43 (by omega) ?_
          refine fr_iconst 99 dX0_cutField_98 rfl ?_
          refine fr_aload_n 100 dX0_cutField_99 rfl rfl ?_
          refine fr_getr 103 76 dX0_cutField_100 rfl fs_kX0_43 fs_l74 rfl ?_
          refine fr_iload 105 dX0_cutField_103 rfl rfl ?_
          refine fr_iald 106 dX0_cutField_105 rfl fs_l76 (by omega) ?_
          refine fr_top eN ?_
          refine fr_imul 107 dX0_cutField_106 rfl ?_
          refine fr_top (show 2 * (n : Int) = ((2 * n : Nat) : Int) by omega) ?_
          refine fr_iconst 108 dX0_cutField_107 rfl ?_
          refine fr_iadd 109 dX0_cutField_108 rfl ?_
          refine fr_top (show ((2 * n : Nat) : Int) + 1 = ((2 * n + 1 : Nat) : Int) by omega) ?_
          refine fr_iald 110 dX0_cutField_109 rfl (fs_f44 _ (by omega)) (by omega) ?_
          refine fr_top (hP (k : Int) (2 * n + 1) hk4.1 hk4.2 (by omega) (by omega)) ?_
          refine fr_iand 111 dX0_cutField_110 rfl ?_
          refine fr_top (y := ((hlf t N k 1 : Nat) : Int)) (by rw [fm_and (by omega) (by have := tkm_lt hw (k : Int) ((ploN (wN (k : Int)) (2 * n + 1) : Nat) : Int) ((phiN (wN (k : Int)) (2 * n + 1) : Nat) : Int); omega), en]; rfl) ?_
          refine fr_callSi 114 (M2 := mJ6_bitCount_0f7a4) [_] dX0_cutField_111 rfl fs_mX0_75 fs_oJ6_bitCount_0f7a4 fs_sJ6_bitCount_0f7a4 rfl (fs_Γ_rm (d := 0) (by decide)) (Nat.le_of_ble_eq_true rfl) rfl ?_
          refine (cK_bitCount l1).ci ?_
          refine fr_istore 116 [_, _, _, _, _, _, _, _, _, _, _, _] dX0_cutField_114 rfl (Nat.le_of_ble_eq_true rfl) rfl ?_
          refine fr_iload 118 dX0_cutField_116 rfl rfl ?_
          refine fr_iload 120 dX0_cutField_118 rfl rfl ?_
          refine fr_mmax 123 dX0_cutField_120 rfl fs_mX0_66 fs_sJ9_max_7cf53 fs_iniMath fs_cdmax (fs_Γ_rm (d := 0) (by decide)) (Nat.le_of_ble_eq_true rfl) (by omega) (by omega) ?_
          refine fr_istore 125 [_, _, _, _, _, _, _, _, _, _, _, _] dX0_cutField_123 rfl (Nat.le_of_ble_eq_true rfl) rfl ?_
          refine fr_iload 127 dX0_cutField_125 rfl rfl ?_
          refine fr_iload 129 dX0_cutField_127 rfl rfl ?_
          refine fr_iadd 130 dX0_cutField_129 rfl ?_
          refine fr_istore 132 [_, _, _, _, _, _, _, _, _, _, _, _] dX0_cutField_130 rfl (Nat.le_of_ble_eq_true rfl) rfl ?_
          refine fr_iload 134 dX0_cutField_132 rfl rfl ?_
          refine fr_iload 136 dX0_cutField_134 rfl rfl ?_
          refine fr_icmp_lt 158 139 dX0_cutField_136 rfl rfl (by omega) (by omega) (fun h136 => ?_) (fun h136 => ?_)
          · have nf := ck_t (t := t) (by omega) (Or.inl h136)
            refine fr_iload 160 dX0_cutField_158 rfl rfl ?_
            refine fr_istore 162 [_, _, _, _, _, _, _, _, _, _, _, _] dX0_cutField_160 rfl (Nat.le_of_ble_eq_true rfl) rfl ?_
            refine fr_iload 164 dX0_cutField_162 rfl rfl ?_
            refine fr_istore 166 [_, _, _, _, _, _, _, _, _, _, _, _] dX0_cutField_164 rfl (Nat.le_of_ble_eq_true rfl) rfl ?_
            refine fr_iload 168 dX0_cutField_166 rfl rfl ?_
            refine fr_istore 170 [_, _, _, _, _, _, _, _, _, _, _, _] dX0_cutField_168 rfl (Nat.le_of_ble_eq_true rfl) rfl ?_
            refine fr_iinc 173 [_, _, _, _, _, _, _, _, _, _, _, _] dX0_cutField_170 rfl rfl rfl ?_
            refine fr_goto 35 dX0_cutField_173 rfl ?_
            have z := fun a1 a2 a3 a4 => ih (k + 1) a1 a2 a3 a4 hn (by omega) (by omega)
            rw [nf] at z
            dsimp only at z
            rw [cnk] at z
            exact z _ _ _ _
          · refine fr_iload 141 dX0_cutField_139 rfl rfl ?_
            refine fr_if_lt 170 144 dX0_cutField_141 rfl rfl (by omega) (fun h141 => ?_) (fun h141 => ?_)
            · have nf := no (fun z => by have z1 := z.2; omega)
              refine fr_iinc 173 [_, _, _, _, _, _, _, _, _, _, _, _] dX0_cutField_170 rfl rfl rfl ?_
              refine fr_goto 35 dX0_cutField_173 rfl ?_
              have z := fun a1 a2 a3 a4 => ih (k + 1) a1 a2 a3 a4 hn (by omega) (by omega)
              rw [nf] at z
              exact z _ _ _ _
            · refine fr_iload 146 dX0_cutField_144 rfl rfl ?_
              refine fr_iload 148 dX0_cutField_146 rfl rfl ?_
              refine fr_icmp_ne 170 151 dX0_cutField_148 rfl rfl (by omega) (by omega) (fun h148 => ?_) (fun h148 => ?_)
              · have nf := no (fun z => by have z1 := z.2; omega)
                refine fr_iinc 173 [_, _, _, _, _, _, _, _, _, _, _, _] dX0_cutField_170 rfl rfl rfl ?_
                refine fr_goto 35 dX0_cutField_173 rfl ?_
                have z := fun a1 a2 a3 a4 => ih (k + 1) a1 a2 a3 a4 hn (by omega) (by omega)
                rw [nf] at z
                exact z _ _ _ _
              · refine fr_iload 153 dX0_cutField_151 rfl rfl ?_
                refine fr_iload 155 dX0_cutField_153 rfl rfl ?_
                refine fr_icmp_ge 170 158 dX0_cutField_155 rfl rfl (by omega) (by omega) (fun h155 => ?_) (fun h155 => ?_)
                · have nf := no (fun z => by have z1 := z.2; omega)
                  refine fr_iinc 173 [_, _, _, _, _, _, _, _, _, _, _, _] dX0_cutField_170 rfl rfl rfl ?_
                  refine fr_goto 35 dX0_cutField_173 rfl ?_
                  have z := fun a1 a2 a3 a4 => ih (k + 1) a1 a2 a3 a4 hn (by omega) (by omega)
                  rw [nf] at z
                  exact z _ _ _ _
                · have nf := ck_t (t := t) (N := N) (k := k) (by omega) (Or.inr ⟨by omega, by omega, by omega⟩)
                  refine fr_iload 160 dX0_cutField_158 rfl rfl ?_
                  refine fr_istore 162 [_, _, _, _, _, _, _, _, _, _, _, _] dX0_cutField_160 rfl (Nat.le_of_ble_eq_true rfl) rfl ?_
                  refine fr_iload 164 dX0_cutField_162 rfl rfl ?_
                  refine fr_istore 166 [_, _, _, _, _, _, _, _, _, _, _, _] dX0_cutField_164 rfl (Nat.le_of_ble_eq_true rfl) rfl ?_
                  refine fr_iload 168 dX0_cutField_166 rfl rfl ?_
                  refine fr_istore 170 [_, _, _, _, _, _, _, _, _, _, _, _] dX0_cutField_168 rfl (Nat.le_of_ble_eq_true rfl) rfl ?_
                  refine fr_iinc 173 [_, _, _, _, _, _, _, _, _, _, _, _] dX0_cutField_170 rfl rfl rfl ?_
                  refine fr_goto 35 dX0_cutField_173 rfl ?_
                  have z := fun a1 a2 a3 a4 => ih (k + 1) a1 a2 a3 a4 hn (by omega) (by omega)
                  rw [nf] at z
                  dsimp only at z
                  rw [cnk] at z
                  exact z _ _ _ _
        · have nf := no (fun z => by have z1 := z.1; omega)
          refine fr_goto 170 dX0_cutField_57 rfl ?_
          refine fr_iinc 173 [_, _, _, _, _, _, _, _, _, _, _, _] dX0_cutField_170 rfl rfl rfl ?_
          refine fr_goto 35 dX0_cutField_173 rfl ?_
          have z := fun a1 a2 a3 a4 => ih (k + 1) a1 a2 a3 a4 hn (by omega) (by omega)
          rw [nf] at z
          exact z _ _ _ _
  refine fr_iload_n 1 dX0_cutField_0 rfl rfl ?_
  refine fr_callSi 4 (M2 := mJ6_bitCount_0f7a4) [_] dX0_cutField_1 rfl fs_mX0_75 fs_oJ6_bitCount_0f7a4 fs_sJ6_bitCount_0f7a4 rfl (fs_Γ_rm (d := 0) (by decide)) (Nat.le_of_ble_eq_true rfl) rfl ?_
  refine (cK_bitCount g1).ci ?_
  refine fr_istore_n 5 [_, _, _, _, _, _, _, _, _, _, _, _] dX0_cutField_4 rfl (Nat.le_of_ble_eq_true rfl) rfl ?_
  refine fr_iload_n 6 dX0_cutField_5 rfl rfl ?_
  refine fr_aload_n 7 dX0_cutField_6 rfl rfl ?_
  refine fr_geti 10 0 dX0_cutField_7 rfl fs_kX0_9 rfl fs_l74 rfl ?_
  refine fr_icmp_le 21 13 dX0_cutField_10 rfl rfl (by omega) (by omega) (fun h10 => ?_) (fun h10 => ?_)
  · refine fr_iconst 22 dX0_cutField_21 rfl ?_
    refine fr_iret dX0_cutField_22 rfl ?_
    exact ⟨congrArg some (by unfold pick; rw [if_pos (by omega)]; rfl), rfl⟩
  · refine fr_iload_n 14 dX0_cutField_13 rfl rfl ?_
    refine fr_aload_n 15 dX0_cutField_14 rfl rfl ?_
    refine fr_geti 18 1 dX0_cutField_15 rfl fs_kX0_15 rfl fs_l74 rfl ?_
    refine fr_icmp_lt 23 21 dX0_cutField_18 rfl rfl (by omega) (by omega) (fun h18 => ?_) (fun h18 => ?_)
    · refine fr_iconst 24 dX0_cutField_23 rfl ?_
      refine fr_istore 26 [_, _, _, _, _, _, _, _, _, _, _, _] dX0_cutField_24 rfl (Nat.le_of_ble_eq_true rfl) rfl ?_
      refine fr_iload_n 27 dX0_cutField_26 rfl rfl ?_
      refine fr_istore 29 [_, _, _, _, _, _, _, _, _, _, _, _] dX0_cutField_27 rfl (Nat.le_of_ble_eq_true rfl) rfl ?_
      refine fr_iconst 30 dX0_cutField_29 rfl ?_
      refine fr_istore 32 [_, _, _, _, _, _, _, _, _, _, _, _] dX0_cutField_30 rfl (Nat.le_of_ble_eq_true rfl) rfl ?_
      refine fr_iconst 33 dX0_cutField_32 rfl ?_
      refine fr_istore 35 [_, _, _, _, _, _, _, _, _, _, _, _] dX0_cutField_33 rfl (Nat.le_of_ble_eq_true rfl) rfl ?_
      exact key 5 0 _ _ _ _ (by omega) (by omega) (by omega)
    · refine fr_iconst 22 dX0_cutField_21 rfl ?_
      refine fr_iret dX0_cutField_22 rfl ?_
      exact ⟨congrArg some (by unfold pick; rw [if_pos (by omega)]; rfl), rfl⟩
