/-! ===== the model: the tree ===== -/
set_option maxRecDepth 100000 in
set_option maxHeartbeats 1500000 in
theorem cM_halved {σ : fs_S} {t : rt} {N : nd} {i f : Int} {h : Nat} (hw : twf t) (hR : RM σ t) (hO : ∀ p, 0 ≤ p → p < tn t → σ 5 p = tod t p) (hN : NM σ i N) (hg : gdN N) (hi : 0 ≤ i ∧ i < 511) (hf : 0 ≤ f ∧ f < 4) (hh : h = 0 ∨ h = 1) (hp : N.2.1 f < 2 ^ wN f) : fs_C mX7_halved 1 [.inr 0, .inl i, .inl f, .inl (h : Int)] σ (fun x τ => x = some ((hlf t N f h : Nat) : Int) ∧ τ = σ) := by
  refine fs_C.intro [some (.inr 0), some (.inl i), some (.inl f), some (.inl (h : Int)), none, none, none] fs_oX7_halved (Nat.le_of_ble_eq_true rfl) rfl ?_
  have q := hN.2.2 f hf.1 hf.2
  have g1 := (hg.2.1 f hf.1 hf.2).1
  obtain ⟨⟨c1, c2⟩, ⟨c3, c4⟩, c5⟩ := part_cut (wN f) (wN_r f) (N.2.1 f) g1 hp
  have c6 := part_all (wN f) (wN_r f) (N.2.1 f) g1 (hg.2.1 f hf.1 hf.2).2
  have c7 : 2 ^ wN f ≤ 64 := by rcases wN_r f with e | e <;> rw [e] <;> decide
  obtain ⟨lo, elo⟩ : ∃ lo, ploN (wN f) (N.2.1 f) = lo := ⟨_, rfl⟩
  obtain ⟨hi', ehi⟩ : ∃ hi, phiN (wN f) (N.2.1 f) = hi := ⟨_, rfl⟩
  rw [elo] at c1
  rw [ehi] at c4
  rw [elo, ehi] at q c2 c3 c5 c6
  have l1 := hg.1
  have l2 := tkm_lt hw f
  rcases hh with rfl | rfl
  · refine fr_aload_n 1 dX7_halved_0 rfl rfl ?_
    refine fr_getr 4 18 dX7_halved_1 rfl fs_kX7_69 fs_l0 rfl ?_
    refine fr_iconst 5 dX7_halved_4 rfl ?_
    refine fr_iload_n 6 dX7_halved_5 rfl rfl ?_
    refine fr_imul 7 dX7_halved_6 rfl ?_
    refine fr_iload_n 8 dX7_halved_7 rfl rfl ?_
    refine fr_iadd 9 dX7_halved_8 rfl ?_
    refine fr_iald 10 dX7_halved_9 rfl fs_l18 (by omega) ?_
    refine fr_top q.1 ?_
    refine fr_istore 12 [_, _, _, _, _, _, _] dX7_halved_10 rfl (Nat.le_of_ble_eq_true rfl) rfl ?_
    refine fr_aload_n 13 dX7_halved_12 rfl rfl ?_
    refine fr_getr 16 19 dX7_halved_13 rfl fs_kX7_72 fs_l0 rfl ?_
    refine fr_iconst 17 dX7_halved_16 rfl ?_
    refine fr_iload_n 18 dX7_halved_17 rfl rfl ?_
    refine fr_imul 19 dX7_halved_18 rfl ?_
    refine fr_iload_n 20 dX7_halved_19 rfl rfl ?_
    refine fr_iadd 21 dX7_halved_20 rfl ?_
    refine fr_iald 22 dX7_halved_21 rfl fs_l19 (by omega) ?_
    refine fr_top q.2 ?_
    refine fr_istore 24 [_, _, _, _, _, _, _] dX7_halved_22 rfl (Nat.le_of_ble_eq_true rfl) rfl ?_
    refine fr_iload 26 dX7_halved_24 rfl rfl ?_
    refine fr_iload 28 dX7_halved_26 rfl rfl ?_
    refine fr_iadd 29 dX7_halved_28 rfl ?_
    refine fr_iconst 30 dX7_halved_29 rfl ?_
    refine fr_idiv 31 dX7_halved_30 rfl (by omega) (by omega) ?_
    refine fr_istore 33 [_, _, _, _, _, _, _] dX7_halved_31 rfl (Nat.le_of_ble_eq_true rfl) rfl ?_
    refine fr_aload_n 34 dX7_halved_33 rfl rfl ?_
    refine fr_getr 37 20 dX7_halved_34 rfl fs_kX7_75 fs_l0 rfl ?_
    refine fr_iload_n 38 dX7_halved_37 rfl rfl ?_
    refine fr_iald 39 dX7_halved_38 rfl fs_l20 (by omega) ?_
    refine fr_top hN.1 ?_
    refine fr_iload_n 40 dX7_halved_39 rfl rfl ?_
    refine fr_if_ne 55 43 dX7_halved_40 rfl rfl (by omega) (fun h40 => ?_) (fun h40 => ?_)
    · exact absurd rfl h40
    · refine fr_aload_n 44 dX7_halved_43 rfl rfl ?_
      refine fr_iload_n 45 dX7_halved_44 rfl rfl ?_
      refine fr_iload 47 dX7_halved_45 rfl rfl ?_
      refine fr_iload 49 dX7_halved_47 rfl rfl ?_
      refine fr_callVi 52 (M2 := mX7_takersOf) [_, _, _] dX7_halved_49 rfl fs_mX7_143 fs_oX7_takersOf fs_iX7_takersOf fs_l0 rfl rfl (fs_Γ_rm (d := 0) (by decide)) (Nat.le_of_ble_eq_true rfl) rfl ?_
      refine (cM_takersOf hw hR hO hf (by omega) (by omega)).ci ?_
      refine fr_goto 66 dX7_halved_52 rfl ?_
      refine fr_iand 67 dX7_halved_66 rfl ?_
      refine fr_top (fm_and (by omega) (by have := l2 (lo : Int) (((lo : Int) + (hi' : Int)) / 2); omega)) ?_
      refine fr_iret dX7_halved_67 rfl ?_
      refine ⟨congrArg some ?_, rfl⟩
      unfold hlf
      rw [show 2 * N.2.1 f + 0 = 2 * N.2.1 f by omega, c1, c2, show (((lo + hi') / 2 : Nat) : Int) = ((lo : Int) + (hi' : Int)) / 2 by omega]
  · refine fr_aload_n 1 dX7_halved_0 rfl rfl ?_
    refine fr_getr 4 18 dX7_halved_1 rfl fs_kX7_69 fs_l0 rfl ?_
    refine fr_iconst 5 dX7_halved_4 rfl ?_
    refine fr_iload_n 6 dX7_halved_5 rfl rfl ?_
    refine fr_imul 7 dX7_halved_6 rfl ?_
    refine fr_iload_n 8 dX7_halved_7 rfl rfl ?_
    refine fr_iadd 9 dX7_halved_8 rfl ?_
    refine fr_iald 10 dX7_halved_9 rfl fs_l18 (by omega) ?_
    refine fr_top q.1 ?_
    refine fr_istore 12 [_, _, _, _, _, _, _] dX7_halved_10 rfl (Nat.le_of_ble_eq_true rfl) rfl ?_
    refine fr_aload_n 13 dX7_halved_12 rfl rfl ?_
    refine fr_getr 16 19 dX7_halved_13 rfl fs_kX7_72 fs_l0 rfl ?_
    refine fr_iconst 17 dX7_halved_16 rfl ?_
    refine fr_iload_n 18 dX7_halved_17 rfl rfl ?_
    refine fr_imul 19 dX7_halved_18 rfl ?_
    refine fr_iload_n 20 dX7_halved_19 rfl rfl ?_
    refine fr_iadd 21 dX7_halved_20 rfl ?_
    refine fr_iald 22 dX7_halved_21 rfl fs_l19 (by omega) ?_
    refine fr_top q.2 ?_
    refine fr_istore 24 [_, _, _, _, _, _, _] dX7_halved_22 rfl (Nat.le_of_ble_eq_true rfl) rfl ?_
    refine fr_iload 26 dX7_halved_24 rfl rfl ?_
    refine fr_iload 28 dX7_halved_26 rfl rfl ?_
    refine fr_iadd 29 dX7_halved_28 rfl ?_
    refine fr_iconst 30 dX7_halved_29 rfl ?_
    refine fr_idiv 31 dX7_halved_30 rfl (by omega) (by omega) ?_
    refine fr_istore 33 [_, _, _, _, _, _, _] dX7_halved_31 rfl (Nat.le_of_ble_eq_true rfl) rfl ?_
    refine fr_aload_n 34 dX7_halved_33 rfl rfl ?_
    refine fr_getr 37 20 dX7_halved_34 rfl fs_kX7_75 fs_l0 rfl ?_
    refine fr_iload_n 38 dX7_halved_37 rfl rfl ?_
    refine fr_iald 39 dX7_halved_38 rfl fs_l20 (by omega) ?_
    refine fr_top hN.1 ?_
    refine fr_iload_n 40 dX7_halved_39 rfl rfl ?_
    refine fr_if_ne 55 43 dX7_halved_40 rfl rfl (by omega) (fun h40 => ?_) (fun h40 => ?_)
    · refine fr_aload_n 56 dX7_halved_55 rfl rfl ?_
      refine fr_iload_n 57 dX7_halved_56 rfl rfl ?_
      refine fr_iload 59 dX7_halved_57 rfl rfl ?_
      refine fr_iconst 60 dX7_halved_59 rfl ?_
      refine fr_iadd 61 dX7_halved_60 rfl ?_
      refine fr_iload 63 dX7_halved_61 rfl rfl ?_
      refine fr_callVi 66 (M2 := mX7_takersOf) [_, _, _] dX7_halved_63 rfl fs_mX7_143 fs_oX7_takersOf fs_iX7_takersOf fs_l0 rfl rfl (fs_Γ_rm (d := 0) (by decide)) (Nat.le_of_ble_eq_true rfl) rfl ?_
      refine (cM_takersOf hw hR hO hf (by omega) (by omega)).ci ?_
      refine fr_iand 67 dX7_halved_66 rfl ?_
      refine fr_top (fm_and (by omega) (by have := l2 (((lo : Int) + (hi' : Int)) / 2 + 1) (hi' : Int); omega)) ?_
      refine fr_iret dX7_halved_67 rfl ?_
      refine ⟨congrArg some ?_, rfl⟩
      unfold hlf
      rw [c3, c4, show (((lo + hi') / 2 + 1 : Nat) : Int) = ((lo : Int) + (hi' : Int)) / 2 + 1 by omega]
    · exact absurd h40 (by decide)
set_option maxRecDepth 100000 in
set_option maxHeartbeats 3000000 in
theorem cM_cutOf {σ : fs_S} {t : rt} {b e : Int} {N : nd} {i : Int} (hw : twf t) (hR : RM σ t) (hO : ∀ p, 0 ≤ p → p < tn t → σ 5 p = tod t p) (hB : σ 0 5 = b) (hE : σ 0 6 = e) (hb : 1 ≤ b ∧ b ≤ 4) (he : 1 ≤ e ∧ e ≤ 8) (hN : NM σ i N) (hg : gdN N) (hi : 0 ≤ i ∧ i < 511) : fs_C mX7_cutOf 2 [.inr 0, .inl i] σ (fun x τ => x = some (pick t b e N) ∧ τ = σ) := by
  refine fs_C.intro [some (.inr 0), some (.inl i), none, none, none, none, none, none, none, none] fs_oX7_cutOf (Nat.le_of_ble_eq_true rfl) rfl ?_
  have pm := pop_r N.1
  have dp := hg.2.2
  have c7 : ∀ f, 2 ^ wN f ≤ 64 := fun f => by rcases wN_r f with e | e <;> rw [e] <;> decide
  have key : ∀ (m k : Nat) (y7 y8 y9 : Option fs_V), k + m = 4 → (1 ≤ k → ¬ (pop N.1 ≤ b ∨ e ≤ N.2.2)) → fs_W (fs_Γ 2 (fun x τ => x = some (pick t b e N) ∧ τ = σ)) mX7_cutOf 22 [some (.inr 0), some (.inl i), some (.inl (pop N.1)), some (.inl (ck t N k).1), some (.inl (ck t N k).2.1), some (.inl (ck t N k).2.2), some (.inl (k : Int)), y7, y8, y9] [] σ := by
    intro m
    induction m with
    | zero =>
      intro k y7 y8 y9 hk hst
      have ek : k = 4 := by omega
      subst ek
      refine fr_iload 24 dX7_cutOf_22 rfl rfl ?_
      refine fr_iconst 25 dX7_cutOf_24 rfl ?_
      refine fr_icmp_ge 164 28 dX7_cutOf_25 rfl rfl (by omega) (by omega) (fun h25 => ?_) (fun h25 => ?_)
      · refine fr_iload_n 165 dX7_cutOf_164 rfl rfl ?_
        refine fr_iret dX7_cutOf_165 rfl ?_
        refine ⟨congrArg some ?_, rfl⟩
        unfold pick
        rw [if_neg (hst (by omega))]
      · exact absurd h25 (by omega)
    | succ m ih =>
      intro k y7 y8 y9 hk hst
      have cr := ck_r t N k
      have p0 := pop_r (hlf t N k 0)
      have p1 := pop_r (hlf t N k 1)
      have q := hN.2.2 (k : Int) (by omega) (by omega)
      have gk := hg.2.1 (k : Int) (by omega) (by omega)
      have ca := part_all (wN (k : Int)) (wN_r _) (N.2.1 (k : Int)) gk.1 gk.2
      have cc := part_cut (wN (k : Int)) (wN_r _) (N.2.1 (k : Int)) gk.1
      have c7k := c7 (k : Int)
      have dN := hN.2.1
      have leaf : (pop N.1 ≤ b ∨ e ≤ N.2.2) → pick t b e N = (ck t N k).1 := fun h => by
        have k0 : k = 0 := by
          by_cases hk0 : k = 0
          · exact hk0
          · exact absurd h (hst (by omega))
        subst k0
        unfold pick
        rw [if_pos h]; rfl
      have nxt : ∀ y7 y8 y9, ¬ (pop N.1 ≤ b ∨ e ≤ N.2.2) → fs_W (fs_Γ 2 (fun x τ => x = some (pick t b e N) ∧ τ = σ)) mX7_cutOf 22 [some (.inr 0), some (.inl i), some (.inl (pop N.1)), some (.inl (ck t N (k + 1)).1), some (.inl (ck t N (k + 1)).2.1), some (.inl (ck t N (k + 1)).2.2), some (.inl ((k + 1 : Nat) : Int)), y7, y8, y9] [] σ := fun y7 y8 y9 h => ih (k + 1) y7 y8 y9 (by omega) (fun _ => h)
      rw [show ((k + 1 : Nat) : Int) = (k : Int) + 1 by omega] at nxt
      clear ih hst
      refine fr_iload 24 dX7_cutOf_22 rfl rfl ?_
      refine fr_iconst 25 dX7_cutOf_24 rfl ?_
      refine fr_icmp_ge 164 28 dX7_cutOf_25 rfl rfl (by omega) (by omega) (fun h25 => ?_) (fun h25 => ?_)
      · exact absurd h25 (by omega)
      · refine fr_iload_n 29 dX7_cutOf_28 rfl rfl ?_
        refine fr_aload_n 30 dX7_cutOf_29 rfl rfl ?_
        refine fr_geti 33 5 dX7_cutOf_30 rfl fs_kX7_22 rfl fs_l0 rfl ?_
        refine fr_icmp_le 164 36 dX7_cutOf_33 rfl rfl (by omega) (by omega) (fun h33 => ?_) (fun h33 => ?_)
        · refine fr_iload_n 165 dX7_cutOf_164 rfl rfl ?_
          refine fr_iret dX7_cutOf_165 rfl ?_
          exact ⟨congrArg some (leaf (by omega)).symm, rfl⟩
        · refine fr_aload_n 37 dX7_cutOf_36 rfl rfl ?_
          refine fr_getr 40 21 dX7_cutOf_37 rfl fs_kX7_78 fs_l0 rfl ?_
          refine fr_iload_n 41 dX7_cutOf_40 rfl rfl ?_
          refine fr_iald 42 dX7_cutOf_41 rfl fs_l21 (by omega) ?_
          refine fr_top dN ?_
          refine fr_aload_n 43 dX7_cutOf_42 rfl rfl ?_
          refine fr_geti 46 6 dX7_cutOf_43 rfl fs_kX7_26 rfl fs_l0 rfl ?_
          refine fr_icmp_ge 164 49 dX7_cutOf_46 rfl rfl (by omega) (by omega) (fun h46 => ?_) (fun h46 => ?_)
          · refine fr_iload_n 165 dX7_cutOf_164 rfl rfl ?_
            refine fr_iret dX7_cutOf_165 rfl ?_
            exact ⟨congrArg some (leaf (by omega)).symm, rfl⟩
          · refine fr_aload_n 50 dX7_cutOf_49 rfl rfl ?_
            refine fr_getr 53 19 dX7_cutOf_50 rfl fs_kX7_72 fs_l0 rfl ?_
            refine fr_iconst 54 dX7_cutOf_53 rfl ?_
            refine fr_iload_n 55 dX7_cutOf_54 rfl rfl ?_
            refine fr_imul 56 dX7_cutOf_55 rfl ?_
            refine fr_iload 58 dX7_cutOf_56 rfl rfl ?_
            refine fr_iadd 59 dX7_cutOf_58 rfl ?_
            refine fr_iald 60 dX7_cutOf_59 rfl fs_l19 (by omega) ?_
            refine fr_top q.2 ?_
            refine fr_aload_n 61 dX7_cutOf_60 rfl rfl ?_
            refine fr_getr 64 18 dX7_cutOf_61 rfl fs_kX7_69 fs_l0 rfl ?_
            refine fr_iconst 65 dX7_cutOf_64 rfl ?_
            refine fr_iload_n 66 dX7_cutOf_65 rfl rfl ?_
            refine fr_imul 67 dX7_cutOf_66 rfl ?_
            refine fr_iload 69 dX7_cutOf_67 rfl rfl ?_
            refine fr_iadd 70 dX7_cutOf_69 rfl ?_
            refine fr_iald 71 dX7_cutOf_70 rfl fs_l18 (by omega) ?_
            refine fr_top q.1 ?_
            refine fr_icmp_le 158 74 dX7_cutOf_71 rfl rfl (by omega) (by omega) (fun h71 => ?_) (fun h71 => ?_)
            · have hno : ¬ (pop N.1 ≤ b ∨ e ≤ N.2.2) := by omega
              first
              | (have e9 : ck t N (k + 1) = ck t N k := by
                   rw [ck, if_neg]
                   intro z
                   first
                   | (have := cc z.1; omega)
                   | omega
                 rw [e9] at nxt)
              | (have e9 : ck t N (k + 1) = ((k : Int), max (pop (hlf t N k 0)) (pop (hlf t N k 1)), pop (hlf t N k 0) + pop (hlf t N k 1)) := by
                   rw [ck, if_pos ⟨hcut, by omega⟩]
                 rw [e9] at nxt
                 first
                 | rw [show max (pop (hlf t N k 0)) (pop (hlf t N k 1)) = pop (hlf t N k 0) by omega] at nxt
                 | rw [show max (pop (hlf t N k 0)) (pop (hlf t N k 1)) = pop (hlf t N k 1) by omega] at nxt)
              refine fr_iinc 161 [_, _, _, _, _, _, _, _, _, _] dX7_cutOf_158 rfl rfl rfl ?_
              refine fr_goto 22 dX7_cutOf_161 rfl ?_
              exact nxt _ _ _ hno
            · have hcut : N.2.1 (k : Int) < 2 ^ wN (k : Int) := by
                apply Nat.lt_of_not_le
                intro z
                have := ca.2.2 z
                omega
              refine fr_aload_n 75 dX7_cutOf_74 rfl rfl ?_
              refine fr_iload_n 76 dX7_cutOf_75 rfl rfl ?_
              refine fr_iload 78 dX7_cutOf_76 rfl rfl ?_
              refine fr_iconst 79 dX7_cutOf_78 rfl ?_
              refine fr_callVi 82 (M2 := mX7_halved) [_, _, _] dX7_cutOf_79 rfl fs_mX7_218 fs_oX7_halved fs_iX7_halved fs_l0 rfl rfl (fs_Γ_rm (d := 1) (by decide)) (Nat.le_of_ble_eq_true rfl) rfl ?_
              refine (cM_halved (h := 0) hw hR hO hN hg hi (by omega) (Or.inl rfl) hcut).ci ?_
              refine fr_callSi 85 (M2 := mX7_bits) [_] dX7_cutOf_82 rfl fs_mX7_208 fs_oX7_bits fs_sX7_bits rfl (fs_Γ_rm (d := 0) (by decide)) (Nat.le_of_ble_eq_true rfl) rfl ?_
              first
              | refine (cM_bits (hlf_lt (h := 0) (f := (k : Int)) (t := t) hg.1)).ci ?_
              | refine (cM_bits (hlf_lt (h := 1) (f := (k : Int)) (t := t) hg.1)).ci ?_
              refine fr_istore 87 [_, _, _, _, _, _, _, _, _, _] dX7_cutOf_85 rfl (Nat.le_of_ble_eq_true rfl) rfl ?_
              refine fr_aload_n 88 dX7_cutOf_87 rfl rfl ?_
              refine fr_iload_n 89 dX7_cutOf_88 rfl rfl ?_
              refine fr_iload 91 dX7_cutOf_89 rfl rfl ?_
              refine fr_iconst 92 dX7_cutOf_91 rfl ?_
              refine fr_callVi 95 (M2 := mX7_halved) [_, _, _] dX7_cutOf_92 rfl fs_mX7_218 fs_oX7_halved fs_iX7_halved fs_l0 rfl rfl (fs_Γ_rm (d := 1) (by decide)) (Nat.le_of_ble_eq_true rfl) rfl ?_
              refine (cM_halved (h := 1) hw hR hO hN hg hi (by omega) (Or.inr rfl) hcut).ci ?_
              refine fr_callSi 98 (M2 := mX7_bits) [_] dX7_cutOf_95 rfl fs_mX7_208 fs_oX7_bits fs_sX7_bits rfl (fs_Γ_rm (d := 0) (by decide)) (Nat.le_of_ble_eq_true rfl) rfl ?_
              first
              | refine (cM_bits (hlf_lt (h := 0) (f := (k : Int)) (t := t) hg.1)).ci ?_
              | refine (cM_bits (hlf_lt (h := 1) (f := (k : Int)) (t := t) hg.1)).ci ?_
              refine fr_istore 100 [_, _, _, _, _, _, _, _, _, _] dX7_cutOf_98 rfl (Nat.le_of_ble_eq_true rfl) rfl ?_
              refine fr_iload 102 dX7_cutOf_100 rfl rfl ?_
              refine fr_iload 104 dX7_cutOf_102 rfl rfl ?_
              refine fr_icmp_le 112 107 dX7_cutOf_104 rfl rfl (by omega) (by omega) (fun h104 => ?_) (fun h104 => ?_)
              · refine fr_iload 114 dX7_cutOf_112 rfl rfl ?_
                refine fr_istore 116 [_, _, _, _, _, _, _, _, _, _] dX7_cutOf_114 rfl (Nat.le_of_ble_eq_true rfl) rfl ?_
                refine fr_iload 118 dX7_cutOf_116 rfl rfl ?_
                refine fr_iload 120 dX7_cutOf_118 rfl rfl ?_
                refine fr_icmp_lt 144 123 dX7_cutOf_120 rfl rfl (by omega) (by omega) (fun h120 => ?_) (fun h120 => ?_)
                · refine fr_iload 146 dX7_cutOf_144 rfl rfl ?_
                  refine fr_istore_n 147 [_, _, _, _, _, _, _, _, _, _] dX7_cutOf_146 rfl (Nat.le_of_ble_eq_true rfl) rfl ?_
                  refine fr_iload 149 dX7_cutOf_147 rfl rfl ?_
                  refine fr_istore 151 [_, _, _, _, _, _, _, _, _, _] dX7_cutOf_149 rfl (Nat.le_of_ble_eq_true rfl) rfl ?_
                  refine fr_iload 153 dX7_cutOf_151 rfl rfl ?_
                  refine fr_iload 155 dX7_cutOf_153 rfl rfl ?_
                  refine fr_iadd 156 dX7_cutOf_155 rfl ?_
                  refine fr_istore 158 [_, _, _, _, _, _, _, _, _, _] dX7_cutOf_156 rfl (Nat.le_of_ble_eq_true rfl) rfl ?_
                  have hno : ¬ (pop N.1 ≤ b ∨ e ≤ N.2.2) := by omega
                  first
                  | (have e9 : ck t N (k + 1) = ck t N k := by
                       rw [ck, if_neg]
                       intro z
                       first
                       | (have := cc z.1; omega)
                       | omega
                     rw [e9] at nxt)
                  | (have e9 : ck t N (k + 1) = ((k : Int), max (pop (hlf t N k 0)) (pop (hlf t N k 1)), pop (hlf t N k 0) + pop (hlf t N k 1)) := by
                       rw [ck, if_pos ⟨hcut, by omega⟩]
                     rw [e9] at nxt
                     first
                     | rw [show max (pop (hlf t N k 0)) (pop (hlf t N k 1)) = pop (hlf t N k 0) by omega] at nxt
                     | rw [show max (pop (hlf t N k 0)) (pop (hlf t N k 1)) = pop (hlf t N k 1) by omega] at nxt)
                  refine fr_iinc 161 [_, _, _, _, _, _, _, _, _, _] dX7_cutOf_158 rfl rfl rfl ?_
                  refine fr_goto 22 dX7_cutOf_161 rfl ?_
                  exact nxt _ _ _ hno
                · refine fr_iload_n 124 dX7_cutOf_123 rfl rfl ?_
                  refine fr_if_lt 158 127 dX7_cutOf_124 rfl rfl (by omega) (fun h124 => ?_) (fun h124 => ?_)
                  · have hno : ¬ (pop N.1 ≤ b ∨ e ≤ N.2.2) := by omega
                    first
                    | (have e9 : ck t N (k + 1) = ck t N k := by
                         rw [ck, if_neg]
                         intro z
                         first
                         | (have := cc z.1; omega)
                         | omega
                       rw [e9] at nxt)
                    | (have e9 : ck t N (k + 1) = ((k : Int), max (pop (hlf t N k 0)) (pop (hlf t N k 1)), pop (hlf t N k 0) + pop (hlf t N k 1)) := by
                         rw [ck, if_pos ⟨hcut, by omega⟩]
                       rw [e9] at nxt
                       first
                       | rw [show max (pop (hlf t N k 0)) (pop (hlf t N k 1)) = pop (hlf t N k 0) by omega] at nxt
                       | rw [show max (pop (hlf t N k 0)) (pop (hlf t N k 1)) = pop (hlf t N k 1) by omega] at nxt)
                    refine fr_iinc 161 [_, _, _, _, _, _, _, _, _, _] dX7_cutOf_158 rfl rfl rfl ?_
                    refine fr_goto 22 dX7_cutOf_161 rfl ?_
                    exact nxt _ _ _ hno
                  · refine fr_iload 129 dX7_cutOf_127 rfl rfl ?_
                    refine fr_iload 131 dX7_cutOf_129 rfl rfl ?_
                    refine fr_icmp_ne 158 134 dX7_cutOf_131 rfl rfl (by omega) (by omega) (fun h131 => ?_) (fun h131 => ?_)
                    · have hno : ¬ (pop N.1 ≤ b ∨ e ≤ N.2.2) := by omega
                      first
                      | (have e9 : ck t N (k + 1) = ck t N k := by
                           rw [ck, if_neg]
                           intro z
                           first
                           | (have := cc z.1; omega)
                           | omega
                         rw [e9] at nxt)
                      | (have e9 : ck t N (k + 1) = ((k : Int), max (pop (hlf t N k 0)) (pop (hlf t N k 1)), pop (hlf t N k 0) + pop (hlf t N k 1)) := by
                           rw [ck, if_pos ⟨hcut, by omega⟩]
                         rw [e9] at nxt
                         first
                         | rw [show max (pop (hlf t N k 0)) (pop (hlf t N k 1)) = pop (hlf t N k 0) by omega] at nxt
                         | rw [show max (pop (hlf t N k 0)) (pop (hlf t N k 1)) = pop (hlf t N k 1) by omega] at nxt)
                      refine fr_iinc 161 [_, _, _, _, _, _, _, _, _, _] dX7_cutOf_158 rfl rfl rfl ?_
                      refine fr_goto 22 dX7_cutOf_161 rfl ?_
                      exact nxt _ _ _ hno
                    · refine fr_iload 136 dX7_cutOf_134 rfl rfl ?_
                      refine fr_iload 138 dX7_cutOf_136 rfl rfl ?_
                      refine fr_iadd 139 dX7_cutOf_138 rfl ?_
                      refine fr_iload 141 dX7_cutOf_139 rfl rfl ?_
                      refine fr_icmp_ge 158 144 dX7_cutOf_141 rfl rfl (by omega) (by omega) (fun h141 => ?_) (fun h141 => ?_)
                      · have hno : ¬ (pop N.1 ≤ b ∨ e ≤ N.2.2) := by omega
                        first
                        | (have e9 : ck t N (k + 1) = ck t N k := by
                             rw [ck, if_neg]
                             intro z
                             first
                             | (have := cc z.1; omega)
                             | omega
                           rw [e9] at nxt)
                        | (have e9 : ck t N (k + 1) = ((k : Int), max (pop (hlf t N k 0)) (pop (hlf t N k 1)), pop (hlf t N k 0) + pop (hlf t N k 1)) := by
                             rw [ck, if_pos ⟨hcut, by omega⟩]
                           rw [e9] at nxt
                           first
                           | rw [show max (pop (hlf t N k 0)) (pop (hlf t N k 1)) = pop (hlf t N k 0) by omega] at nxt
                           | rw [show max (pop (hlf t N k 0)) (pop (hlf t N k 1)) = pop (hlf t N k 1) by omega] at nxt)
                        refine fr_iinc 161 [_, _, _, _, _, _, _, _, _, _] dX7_cutOf_158 rfl rfl rfl ?_
                        refine fr_goto 22 dX7_cutOf_161 rfl ?_
                        exact nxt _ _ _ hno
                      · refine fr_iload 146 dX7_cutOf_144 rfl rfl ?_
                        refine fr_istore_n 147 [_, _, _, _, _, _, _, _, _, _] dX7_cutOf_146 rfl (Nat.le_of_ble_eq_true rfl) rfl ?_
                        refine fr_iload 149 dX7_cutOf_147 rfl rfl ?_
                        refine fr_istore 151 [_, _, _, _, _, _, _, _, _, _] dX7_cutOf_149 rfl (Nat.le_of_ble_eq_true rfl) rfl ?_
                        refine fr_iload 153 dX7_cutOf_151 rfl rfl ?_
                        refine fr_iload 155 dX7_cutOf_153 rfl rfl ?_
                        refine fr_iadd 156 dX7_cutOf_155 rfl ?_
                        refine fr_istore 158 [_, _, _, _, _, _, _, _, _, _] dX7_cutOf_156 rfl (Nat.le_of_ble_eq_true rfl) rfl ?_
                        have hno : ¬ (pop N.1 ≤ b ∨ e ≤ N.2.2) := by omega
                        first
                        | (have e9 : ck t N (k + 1) = ck t N k := by
                             rw [ck, if_neg]
                             intro z
                             first
                             | (have := cc z.1; omega)
                             | omega
                           rw [e9] at nxt)
                        | (have e9 : ck t N (k + 1) = ((k : Int), max (pop (hlf t N k 0)) (pop (hlf t N k 1)), pop (hlf t N k 0) + pop (hlf t N k 1)) := by
                             rw [ck, if_pos ⟨hcut, by omega⟩]
                           rw [e9] at nxt
                           first
                           | rw [show max (pop (hlf t N k 0)) (pop (hlf t N k 1)) = pop (hlf t N k 0) by omega] at nxt
                           | rw [show max (pop (hlf t N k 0)) (pop (hlf t N k 1)) = pop (hlf t N k 1) by omega] at nxt)
                        refine fr_iinc 161 [_, _, _, _, _, _, _, _, _, _] dX7_cutOf_158 rfl rfl rfl ?_
                        refine fr_goto 22 dX7_cutOf_161 rfl ?_
                        exact nxt _ _ _ hno
              · refine fr_iload 109 dX7_cutOf_107 rfl rfl ?_
                refine fr_goto 114 dX7_cutOf_109 rfl ?_
                refine fr_istore 116 [_, _, _, _, _, _, _, _, _, _] dX7_cutOf_114 rfl (Nat.le_of_ble_eq_true rfl) rfl ?_
                refine fr_iload 118 dX7_cutOf_116 rfl rfl ?_
                refine fr_iload 120 dX7_cutOf_118 rfl rfl ?_
                refine fr_icmp_lt 144 123 dX7_cutOf_120 rfl rfl (by omega) (by omega) (fun h120 => ?_) (fun h120 => ?_)
                · refine fr_iload 146 dX7_cutOf_144 rfl rfl ?_
                  refine fr_istore_n 147 [_, _, _, _, _, _, _, _, _, _] dX7_cutOf_146 rfl (Nat.le_of_ble_eq_true rfl) rfl ?_
                  refine fr_iload 149 dX7_cutOf_147 rfl rfl ?_
                  refine fr_istore 151 [_, _, _, _, _, _, _, _, _, _] dX7_cutOf_149 rfl (Nat.le_of_ble_eq_true rfl) rfl ?_
                  refine fr_iload 153 dX7_cutOf_151 rfl rfl ?_
                  refine fr_iload 155 dX7_cutOf_153 rfl rfl ?_
                  refine fr_iadd 156 dX7_cutOf_155 rfl ?_
                  refine fr_istore 158 [_, _, _, _, _, _, _, _, _, _] dX7_cutOf_156 rfl (Nat.le_of_ble_eq_true rfl) rfl ?_
                  have hno : ¬ (pop N.1 ≤ b ∨ e ≤ N.2.2) := by omega
                  first
                  | (have e9 : ck t N (k + 1) = ck t N k := by
                       rw [ck, if_neg]
                       intro z
                       first
                       | (have := cc z.1; omega)
                       | omega
                     rw [e9] at nxt)
                  | (have e9 : ck t N (k + 1) = ((k : Int), max (pop (hlf t N k 0)) (pop (hlf t N k 1)), pop (hlf t N k 0) + pop (hlf t N k 1)) := by
                       rw [ck, if_pos ⟨hcut, by omega⟩]
                     rw [e9] at nxt
                     first
                     | rw [show max (pop (hlf t N k 0)) (pop (hlf t N k 1)) = pop (hlf t N k 0) by omega] at nxt
                     | rw [show max (pop (hlf t N k 0)) (pop (hlf t N k 1)) = pop (hlf t N k 1) by omega] at nxt)
                  refine fr_iinc 161 [_, _, _, _, _, _, _, _, _, _] dX7_cutOf_158 rfl rfl rfl ?_
                  refine fr_goto 22 dX7_cutOf_161 rfl ?_
                  exact nxt _ _ _ hno
                · refine fr_iload_n 124 dX7_cutOf_123 rfl rfl ?_
                  refine fr_if_lt 158 127 dX7_cutOf_124 rfl rfl (by omega) (fun h124 => ?_) (fun h124 => ?_)
                  · have hno : ¬ (pop N.1 ≤ b ∨ e ≤ N.2.2) := by omega
                    first
                    | (have e9 : ck t N (k + 1) = ck t N k := by
                         rw [ck, if_neg]
                         intro z
                         first
                         | (have := cc z.1; omega)
                         | omega
                       rw [e9] at nxt)
                    | (have e9 : ck t N (k + 1) = ((k : Int), max (pop (hlf t N k 0)) (pop (hlf t N k 1)), pop (hlf t N k 0) + pop (hlf t N k 1)) := by
                         rw [ck, if_pos ⟨hcut, by omega⟩]
                       rw [e9] at nxt
                       first
                       | rw [show max (pop (hlf t N k 0)) (pop (hlf t N k 1)) = pop (hlf t N k 0) by omega] at nxt
                       | rw [show max (pop (hlf t N k 0)) (pop (hlf t N k 1)) = pop (hlf t N k 1) by omega] at nxt)
                    refine fr_iinc 161 [_, _, _, _, _, _, _, _, _, _] dX7_cutOf_158 rfl rfl rfl ?_
                    refine fr_goto 22 dX7_cutOf_161 rfl ?_
                    exact nxt _ _ _ hno
                  · refine fr_iload 129 dX7_cutOf_127 rfl rfl ?_
                    refine fr_iload 131 dX7_cutOf_129 rfl rfl ?_
                    refine fr_icmp_ne 158 134 dX7_cutOf_131 rfl rfl (by omega) (by omega) (fun h131 => ?_) (fun h131 => ?_)
                    · have hno : ¬ (pop N.1 ≤ b ∨ e ≤ N.2.2) := by omega
                      first
                      | (have e9 : ck t N (k + 1) = ck t N k := by
                           rw [ck, if_neg]
                           intro z
                           first
                           | (have := cc z.1; omega)
                           | omega
                         rw [e9] at nxt)
                      | (have e9 : ck t N (k + 1) = ((k : Int), max (pop (hlf t N k 0)) (pop (hlf t N k 1)), pop (hlf t N k 0) + pop (hlf t N k 1)) := by
                           rw [ck, if_pos ⟨hcut, by omega⟩]
                         rw [e9] at nxt
                         first
                         | rw [show max (pop (hlf t N k 0)) (pop (hlf t N k 1)) = pop (hlf t N k 0) by omega] at nxt
                         | rw [show max (pop (hlf t N k 0)) (pop (hlf t N k 1)) = pop (hlf t N k 1) by omega] at nxt)
                      refine fr_iinc 161 [_, _, _, _, _, _, _, _, _, _] dX7_cutOf_158 rfl rfl rfl ?_
                      refine fr_goto 22 dX7_cutOf_161 rfl ?_
                      exact nxt _ _ _ hno
                    · refine fr_iload 136 dX7_cutOf_134 rfl rfl ?_
                      refine fr_iload 138 dX7_cutOf_136 rfl rfl ?_
                      refine fr_iadd 139 dX7_cutOf_138 rfl ?_
                      refine fr_iload 141 dX7_cutOf_139 rfl rfl ?_
                      refine fr_icmp_ge 158 144 dX7_cutOf_141 rfl rfl (by omega) (by omega) (fun h141 => ?_) (fun h141 => ?_)
                      · have hno : ¬ (pop N.1 ≤ b ∨ e ≤ N.2.2) := by omega
                        first
                        | (have e9 : ck t N (k + 1) = ck t N k := by
                             rw [ck, if_neg]
                             intro z
                             first
                             | (have := cc z.1; omega)
                             | omega
                           rw [e9] at nxt)
                        | (have e9 : ck t N (k + 1) = ((k : Int), max (pop (hlf t N k 0)) (pop (hlf t N k 1)), pop (hlf t N k 0) + pop (hlf t N k 1)) := by
                             rw [ck, if_pos ⟨hcut, by omega⟩]
                           rw [e9] at nxt
                           first
                           | rw [show max (pop (hlf t N k 0)) (pop (hlf t N k 1)) = pop (hlf t N k 0) by omega] at nxt
                           | rw [show max (pop (hlf t N k 0)) (pop (hlf t N k 1)) = pop (hlf t N k 1) by omega] at nxt)
                        refine fr_iinc 161 [_, _, _, _, _, _, _, _, _, _] dX7_cutOf_158 rfl rfl rfl ?_
                        refine fr_goto 22 dX7_cutOf_161 rfl ?_
                        exact nxt _ _ _ hno
                      · refine fr_iload 146 dX7_cutOf_144 rfl rfl ?_
                        refine fr_istore_n 147 [_, _, _, _, _, _, _, _, _, _] dX7_cutOf_146 rfl (Nat.le_of_ble_eq_true rfl) rfl ?_
                        refine fr_iload 149 dX7_cutOf_147 rfl rfl ?_
                        refine fr_istore 151 [_, _, _, _, _, _, _, _, _, _] dX7_cutOf_149 rfl (Nat.le_of_ble_eq_true rfl) rfl ?_
                        refine fr_iload 153 dX7_cutOf_151 rfl rfl ?_
                        refine fr_iload 155 dX7_cutOf_153 rfl rfl ?_
                        refine fr_iadd 156 dX7_cutOf_155 rfl ?_
                        refine fr_istore 158 [_, _, _, _, _, _, _, _, _, _] dX7_cutOf_156 rfl (Nat.le_of_ble_eq_true rfl) rfl ?_
                        have hno : ¬ (pop N.1 ≤ b ∨ e ≤ N.2.2) := by omega
                        first
                        | (have e9 : ck t N (k + 1) = ck t N k := by
                             rw [ck, if_neg]
                             intro z
                             first
                             | (have := cc z.1; omega)
                             | omega
                           rw [e9] at nxt)
                        | (have e9 : ck t N (k + 1) = ((k : Int), max (pop (hlf t N k 0)) (pop (hlf t N k 1)), pop (hlf t N k 0) + pop (hlf t N k 1)) := by
                             rw [ck, if_pos ⟨hcut, by omega⟩]
                           rw [e9] at nxt
                           first
                           | rw [show max (pop (hlf t N k 0)) (pop (hlf t N k 1)) = pop (hlf t N k 0) by omega] at nxt
                           | rw [show max (pop (hlf t N k 0)) (pop (hlf t N k 1)) = pop (hlf t N k 1) by omega] at nxt)
                        refine fr_iinc 161 [_, _, _, _, _, _, _, _, _, _] dX7_cutOf_158 rfl rfl rfl ?_
                        refine fr_goto 22 dX7_cutOf_161 rfl ?_
                        exact nxt _ _ _ hno
  refine fr_aload_n 1 dX7_cutOf_0 rfl rfl ?_
  refine fr_getr 4 20 dX7_cutOf_1 rfl fs_kX7_75 fs_l0 rfl ?_
  refine fr_iload_n 5 dX7_cutOf_4 rfl rfl ?_
  refine fr_iald 6 dX7_cutOf_5 rfl fs_l20 (by omega) ?_
  refine fr_top hN.1 ?_
  refine fr_callSi 9 (M2 := mX7_bits) [_] dX7_cutOf_6 rfl fs_mX7_208 fs_oX7_bits fs_sX7_bits rfl (fs_Γ_rm (d := 0) (by decide)) (Nat.le_of_ble_eq_true rfl) rfl ?_
  refine (cM_bits hg.1).ci ?_
  refine fr_istore_n 10 [_, _, _, _, _, _, _, _, _, _] dX7_cutOf_9 rfl (Nat.le_of_ble_eq_true rfl) rfl ?_
  refine fr_bipush 12 dX7_cutOf_10 rfl (by decide) ?_
  refine fr_istore_n 13 [_, _, _, _, _, _, _, _, _, _] dX7_cutOf_12 rfl (Nat.le_of_ble_eq_true rfl) rfl ?_
  refine fr_iload_n 14 dX7_cutOf_13 rfl rfl ?_
  refine fr_istore 16 [_, _, _, _, _, _, _, _, _, _] dX7_cutOf_14 rfl (Nat.le_of_ble_eq_true rfl) rfl ?_
  refine fr_iconst 17 dX7_cutOf_16 rfl ?_
  refine fr_istore 19 [_, _, _, _, _, _, _, _, _, _] dX7_cutOf_17 rfl (Nat.le_of_ble_eq_true rfl) rfl ?_
  refine fr_iconst 20 dX7_cutOf_19 rfl ?_
  refine fr_istore 22 [_, _, _, _, _, _, _, _, _, _] dX7_cutOf_20 rfl (Nat.le_of_ble_eq_true rfl) rfl ?_
  exact key 4 0 _ _ _ rfl (fun h => by omega)
