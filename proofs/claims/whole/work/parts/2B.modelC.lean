/-! ===== the model: growTree, grow, tree ===== -/
abbrev frG (σ τ : fs_S) : Prop := ∀ k j, ¬ (5 ≤ k ∧ k ≤ 6) → ¬ (18 ≤ k ∧ k ≤ 23) → ¬ (k = 0 ∧ (j = 7 ∨ j = 10 ∨ j = 25)) → τ k j = σ k j
def Q_gt (t : rt) (b e : Int) (σ : fs_S) : fs_Q := fun x τ => x = none ∧ TV τ t b e ∧ OV τ t ∧ τ 0 7 = 1 ∧ τ 0 10 = 1 ∧ frG σ τ
theorem shl_n {n : Int} (h : 0 ≤ n ∧ n ≤ 16) : fi_shl 1 n - 1 = ((bm (fun _ => true) n.toNat : Nat) : Int) := by
  obtain ⟨k, rfl⟩ := Int.eq_ofNat_of_zero_le h.1
  rw [fm_shl1 k (by omega), show (k : Int).toNat = k by omega]
  have := bm_true k
  omega
set_option maxRecDepth 100000 in
set_option maxHeartbeats 3000000 in
theorem cM_growTree {σ : fs_S} {t : rt} {b e : Int} (hw : twf t) (hR : RM σ t) (hB : σ 0 5 = b) (hE : σ 0 6 = e) (hb' : 1 ≤ b ∧ b ≤ 4) (he : 1 ≤ e ∧ e ≤ 8) (hb : σ 0 7 = 0 ∨ σ 0 7 = 1) (hv : σ 0 7 = 1 → OV σ t) (hb9 : σ 0 10 = 0 ∨ σ 0 10 = 1) (hv9 : σ 0 10 = 1 → TV σ t b e) : fs_C mX7_growTree 3 [.inr 0] σ (Q_gt t b e σ) := by
  refine fs_C.intro [some (.inr 0), none] fs_oX7_growTree (Nat.le_of_ble_eq_true rfl) rfl ?_
  have hn := hw.1
  have hm := hR.1
  have hRt : ∀ τ, frG σ τ → RM τ t := fun τ h => hR.eq hw (h _ _ (by decide) (by decide) (by decide)) (fun k i a b _ _ => h k i (by omega) (by omega) (by omega))
  have key : ∀ (m k : Nat) (L : List nd) (τ : fs_S), 511 - k < m → GV t b e L k → NV τ t b e L k → τ 0 25 = (L.length : Int) → OV τ t → τ 0 7 = 1 → τ 0 10 = 1 → frG σ τ →
      fs_W (fs_Γ 3 (Q_gt t b e σ)) mX7_growTree 75 [some (.inr 0), some (.inl (k : Int))] [] τ := by
    intro m
    induction m with
    | zero => intro k L τ h1; omega
    | succ m ih =>
      intro k L τ h1 hG hN hnd hO h7 h10 hF
      have hlen := hG.len (fun N hM => by obtain ⟨j, hj⟩ := List.getElem?_of_mem hM; exact (hN.1 j N hj).2)
      have hkl := hG.1
      by_cases hk : k < L.length
      · obtain ⟨N, hkN⟩ : ∃ N, L[k]? = some N := ⟨_, List.getElem?_eq_getElem hk⟩
        obtain ⟨nm, gd⟩ := hN.1 k N hkN
        have pr := pick_r t b e N
        have bB : τ 0 5 = b := (hF _ _ (by decide) (by decide) (by decide)).trans hB
        have bE : τ 0 6 = e := (hF _ _ (by decide) (by decide) (by decide)).trans hE
        obtain ⟨ln, eln⟩ : ∃ ln : Int, (L.length : Int) = ln := ⟨_, rfl⟩
        rw [eln] at hnd
        obtain ⟨S, eS⟩ : ∃ S, S = fs_u (fs_u τ 22 (k : Int) (pick t b e N)) 23 (k : Int) ln := ⟨_, rfl⟩
        have sF : ∀ k' j, ¬ ((k' = 22 ∨ k' = 23) ∧ j = (k : Int)) → S k' j = τ k' j := fun k' j z => by rw [eS, fs_u_ne _ (by omega), fs_u_ne _ (by omega)]
        have s22 : S 22 (k : Int) = pick t b e N := by rw [eS, fs_u_k _ _ (by decide), fs_u_eq]
        have s23 : S 23 (k : Int) = ln := by rw [eS, fs_u_eq]
        have sN : ∀ (i : Nat) (M : nd), L[i]? = some M → NM S (i : Int) M ∧ gdN M := fun i M hi => ⟨(hN.1 i M hi).1.eq (fun k' j z => sF k' j (by omega)), (hN.1 i M hi).2⟩
        have sC : ∀ (i : Nat) (M : nd), i < k → L[i]? = some M → S 22 (i : Int) = pick t b e M ∧ (0 ≤ pick t b e M → ∃ j : Nat, i < j ∧ S 23 (i : Int) = (j : Int) ∧ L[j]? = some (kid t M (pick t b e M) 0) ∧ L[j + 1]? = some (kid t M (pick t b e M) 1)) := fun i M hi hM => by
          rw [sF _ _ (by omega), sF _ _ (by omega)]
          exact hN.2 i M hi hM
        have s7 : S 0 7 = 1 := by rw [sF _ _ (by omega)]; exact h7
        have s10 : S 0 10 = 1 := by rw [sF _ _ (by omega)]; exact h10
        have s25 : S 0 25 = ln := by rw [sF _ _ (by omega)]; exact hnd
        have sO : OV S t := hO.eq (fun k' j z => sF k' j (by omega))
        have sG : frG σ S := fun k' j z1 z2 z3 => by rw [sF k' j (by omega)]; exact hF k' j z1 z2 z3
        by_cases hp : pick t b e N < 0
        · refine fr_iload_n 76 dX7_growTree_75 rfl rfl ?_
          refine fr_aload_n 77 dX7_growTree_76 rfl rfl ?_
          refine fr_geti 80 25 dX7_growTree_77 rfl fs_kX7_221 rfl fs_l0 rfl ?_
          refine fr_icmp_ge 143 83 dX7_growTree_80 rfl rfl (by omega) (by omega) (fun h80 => ?_) (fun h80 => ?_)
          · exact absurd h80 (by omega)
          · refine fr_aload_n 84 dX7_growTree_83 rfl rfl ?_
            refine fr_getr 87 22 dX7_growTree_84 rfl fs_kX7_81 fs_l0 rfl ?_
            refine fr_iload_n 88 dX7_growTree_87 rfl rfl ?_
            refine fr_aload_n 89 dX7_growTree_88 rfl rfl ?_
            refine fr_iload_n 90 dX7_growTree_89 rfl rfl ?_
            refine fr_callVi 93 (M2 := mX7_cutOf) [_] dX7_growTree_90 rfl fs_mX7_224 fs_oX7_cutOf fs_iX7_cutOf fs_l0 rfl rfl (fs_Γ_rm (d := 2) (by decide)) (Nat.le_of_ble_eq_true rfl) rfl ?_
            refine (cM_cutOf hw (hRt _ hF) hO.1 bB bE hb' he nm gd (by omega)).ci ?_
            refine fr_iast 94 dX7_growTree_93 rfl fs_l22 (by omega) ?_
            refine fr_aload_n 95 dX7_growTree_94 rfl rfl ?_
            refine fr_getr 98 23 dX7_growTree_95 rfl fs_kX7_84 fs_l0 rfl ?_
            refine fr_iload_n 99 dX7_growTree_98 rfl rfl ?_
            refine fr_aload_n 100 dX7_growTree_99 rfl rfl ?_
            refine fr_geti 103 25 dX7_growTree_100 rfl fs_kX7_221 rfl fs_l0 rfl ?_
            refine fr_top (y := ln) (by rw [fs_u_k _ _ (by decide)]; exact hnd) ?_
            refine fr_iast 104 dX7_growTree_103 rfl fs_l23 (by omega) ?_
            rw [← eS]
            refine fr_aload_n 105 dX7_growTree_104 rfl rfl ?_
            refine fr_getr 108 22 dX7_growTree_105 rfl fs_kX7_81 fs_l0 rfl ?_
            refine fr_iload_n 109 dX7_growTree_108 rfl rfl ?_
            refine fr_iald 110 dX7_growTree_109 rfl fs_l22 (by omega) ?_
            refine fr_top s22 ?_
            refine fr_if_lt 137 113 dX7_growTree_110 rfl rfl (by omega) (fun h110 => ?_) (fun h110 => ?_)
            · first | skip
              refine fr_iinc 140 [_, _] dX7_growTree_137 rfl rfl rfl ?_
              refine fr_goto 75 dX7_growTree_140 rfl ?_
              rw [show (k : Int) + 1 = ((k + 1 : Nat) : Int) by omega]
              refine ih (k + 1) L S (by omega) (hG.leaf hkN hp gd) ⟨sN, fun i M hi hM => ?_⟩ (by rw [s25, eln]) sO s7 s10 sG
              by_cases ei : i = k
              · subst ei
                rw [hkN] at hM
                cases hM
                exact ⟨s22, fun z => by omega⟩
              · exact sC i M (by omega) hM
            · exact absurd h110 (by omega)
        · obtain ⟨⟨p1, p2, p3⟩, p4⟩ : (0 ≤ pick t b e N ∧ pick t b e N < 4 ∧ N.2.1 (pick t b e N) < 2 ^ wN (pick t b e N)) ∧ N.2.2 < e := by
            rcases pr with z | z
            · omega
            · exact z
          have hG2 := hG.cut hkN p1 gd (by omega)
          have gk0 := kid_g (t := t) (h := 0) gd (by omega) ⟨p1, p2⟩ p3 (by omega)
          have gk1 := kid_g (t := t) (h := 1) gd (by omega) ⟨p1, p2⟩ p3 (by omega)
          have hlen2 := hG2.len (fun M hM => by
            rcases List.mem_append.mp hM with z | z
            · obtain ⟨j, hj⟩ := List.getElem?_of_mem z; exact (hN.1 j M hj).2
            · rcases List.mem_cons.mp z with z | z
              · rw [z]; exact gk0
              · rw [List.mem_singleton.mp z]; exact gk1)
          rw [List.length_append] at hlen2
          have hlen3 : ln + 2 ≤ 511 := by change L.length + 2 ≤ 511 at hlen2; omega
          refine fr_iload_n 76 dX7_growTree_75 rfl rfl ?_
          refine fr_aload_n 77 dX7_growTree_76 rfl rfl ?_
          refine fr_geti 80 25 dX7_growTree_77 rfl fs_kX7_221 rfl fs_l0 rfl ?_
          refine fr_icmp_ge 143 83 dX7_growTree_80 rfl rfl (by omega) (by omega) (fun h80 => ?_) (fun h80 => ?_)
          · exact absurd h80 (by omega)
          · refine fr_aload_n 84 dX7_growTree_83 rfl rfl ?_
            refine fr_getr 87 22 dX7_growTree_84 rfl fs_kX7_81 fs_l0 rfl ?_
            refine fr_iload_n 88 dX7_growTree_87 rfl rfl ?_
            refine fr_aload_n 89 dX7_growTree_88 rfl rfl ?_
            refine fr_iload_n 90 dX7_growTree_89 rfl rfl ?_
            refine fr_callVi 93 (M2 := mX7_cutOf) [_] dX7_growTree_90 rfl fs_mX7_224 fs_oX7_cutOf fs_iX7_cutOf fs_l0 rfl rfl (fs_Γ_rm (d := 2) (by decide)) (Nat.le_of_ble_eq_true rfl) rfl ?_
            refine (cM_cutOf hw (hRt _ hF) hO.1 bB bE hb' he nm gd (by omega)).ci ?_
            refine fr_iast 94 dX7_growTree_93 rfl fs_l22 (by omega) ?_
            refine fr_aload_n 95 dX7_growTree_94 rfl rfl ?_
            refine fr_getr 98 23 dX7_growTree_95 rfl fs_kX7_84 fs_l0 rfl ?_
            refine fr_iload_n 99 dX7_growTree_98 rfl rfl ?_
            refine fr_aload_n 100 dX7_growTree_99 rfl rfl ?_
            refine fr_geti 103 25 dX7_growTree_100 rfl fs_kX7_221 rfl fs_l0 rfl ?_
            refine fr_top (y := ln) (by rw [fs_u_k _ _ (by decide)]; exact hnd) ?_
            refine fr_iast 104 dX7_growTree_103 rfl fs_l23 (by omega) ?_
            rw [← eS]
            refine fr_aload_n 105 dX7_growTree_104 rfl rfl ?_
            refine fr_getr 108 22 dX7_growTree_105 rfl fs_kX7_81 fs_l0 rfl ?_
            refine fr_iload_n 109 dX7_growTree_108 rfl rfl ?_
            refine fr_iald 110 dX7_growTree_109 rfl fs_l22 (by omega) ?_
            refine fr_top s22 ?_
            refine fr_if_lt 137 113 dX7_growTree_110 rfl rfl (by omega) (fun h110 => ?_) (fun h110 => ?_)
            · exact absurd h110 (by omega)
            · refine fr_aload_n 114 dX7_growTree_113 rfl rfl ?_
              refine fr_iload_n 115 dX7_growTree_114 rfl rfl ?_
              refine fr_aload_n 116 dX7_growTree_115 rfl rfl ?_
              refine fr_getr 119 22 dX7_growTree_116 rfl fs_kX7_81 fs_l0 rfl ?_
              refine fr_iload_n 120 dX7_growTree_119 rfl rfl ?_
              refine fr_iald 121 dX7_growTree_120 rfl fs_l22 (by omega) ?_
              refine fr_top s22 ?_
              refine fr_iconst 122 dX7_growTree_121 rfl ?_
              refine fr_callVv 125 (M2 := mX7_addBelow) [_, _, _] dX7_growTree_122 rfl fs_mX7_227 fs_oX7_addBelow fs_iX7_addBelow fs_l0 rfl rfl (fs_Γ_rm (d := 2) (by decide)) (Nat.le_of_ble_eq_true rfl) rfl ?_
              refine (cM_addBelow (h := 0) hw (hRt _ sG) sO.1 (sN k N hkN).1 gd (by omega) (by omega) s25 ⟨p1, p2⟩ (Or.inl rfl) p3).mono ?_
              rintro _ τ1 ⟨rfl, n1, l1, f1⟩
              refine ⟨rfl, ?_⟩
              have g1 : frG σ τ1 := fun k' j z1 z2 z3 => by rw [f1 k' j (by omega) (by omega) (by omega)]; exact sG k' j z1 z2 z3
              have o1 : OV τ1 t := sO.eq (fun k' j z => f1 k' j (by omega) (by omega) (by omega))
              have nk1 : NM τ1 (k : Int) N := (sN k N hkN).1.eq (fun k' j z => f1 k' j (by omega) (by omega) (by omega))
              have c1 : τ1 22 (k : Int) = pick t b e N := by rw [f1 _ _ (by omega) (by omega) (by omega)]; exact s22
              refine fr_aload_n 126 dX7_growTree_125 rfl rfl ?_
              refine fr_iload_n 127 dX7_growTree_126 rfl rfl ?_
              refine fr_aload_n 128 dX7_growTree_127 rfl rfl ?_
              refine fr_getr 131 22 dX7_growTree_128 rfl fs_kX7_81 fs_l0 rfl ?_
              refine fr_iload_n 132 dX7_growTree_131 rfl rfl ?_
              refine fr_iald 133 dX7_growTree_132 rfl fs_l22 (by omega) ?_
              refine fr_top c1 ?_
              refine fr_iconst 134 dX7_growTree_133 rfl ?_
              refine fr_callVv 137 (M2 := mX7_addBelow) [_, _, _] dX7_growTree_134 rfl fs_mX7_227 fs_oX7_addBelow fs_iX7_addBelow fs_l0 rfl rfl (fs_Γ_rm (d := 2) (by decide)) (Nat.le_of_ble_eq_true rfl) rfl ?_
              refine (cM_addBelow (h := 1) (ln := ln + 1) hw (hRt _ g1) o1.1 nk1 gd (by omega) (by omega) l1 ⟨p1, p2⟩ (Or.inr rfl) p3).mono ?_
              rintro _ τ2 ⟨rfl, n2, l2, f2⟩
              refine ⟨rfl, ?_⟩
              have ff : ∀ k' j, ¬ ((k' = 20 ∨ k' = 21) ∧ ln ≤ j) → ¬ ((k' = 18 ∨ k' = 19) ∧ 4 * ln ≤ j) → ¬ (k' = 0 ∧ j = 25) → τ2 k' j = S k' j := fun k' j z1 z2 z3 => by rw [f2 k' j (by omega) (by omega) (by omega), f1 k' j (by omega) (by omega) (by omega)]
              have nn1 : NM τ2 ln (kid t N (pick t b e N) 0) := n1.eq (fun k' j z => f2 k' j (by omega) (by omega) (by omega))
              first | skip
              refine fr_iinc 140 [_, _] dX7_growTree_137 rfl rfl rfl ?_
              refine fr_goto 75 dX7_growTree_140 rfl ?_
              rw [show (k : Int) + 1 = ((k + 1 : Nat) : Int) by omega]
              refine ih (k + 1) _ τ2 (by omega) hG2 ⟨fun i M hi => ?_, fun i M hi hM => ?_⟩ (by rw [l2, List.length_append]; show ln + 1 + 1 = ((L.length + 2 : Nat) : Int); omega) (sO.eq (fun k' j z => ff k' j (by omega) (by omega) (by omega))) (by rw [ff _ _ (by omega) (by omega) (by omega)]; exact s7) (by rw [ff _ _ (by omega) (by omega) (by omega)]; exact s10) (fun k' j z1 z2 z3 => by rw [ff k' j (by omega) (by omega) (by omega)]; exact sG k' j z1 z2 z3)
              · by_cases ei : i < L.length
                · rw [List.getElem?_append_left ei] at hi
                  exact ⟨(sN i M hi).1.eq (fun k' j z => ff k' j (by omega) (by omega) (by omega)), (sN i M hi).2⟩
                · rw [List.getElem?_append_right (by omega)] at hi
                  have hi2 := (List.getElem?_eq_some_iff.mp hi).1
                  change i - L.length < 2 at hi2
                  rcases (by omega : i - L.length = 0 ∨ i - L.length = 1) with z | z
                  · rw [z] at hi
                    cases hi
                    rw [show (i : Int) = ln by omega]
                    exact ⟨nn1, gk0⟩
                  · rw [z] at hi
                    cases hi
                    rw [show (i : Int) = ln + 1 by omega]
                    exact ⟨n2, gk1⟩
              · rw [List.getElem?_append_left (by omega)] at hM
                rw [ff _ _ (by omega) (by omega) (by omega), ff _ _ (by omega) (by omega) (by omega)]
                by_cases ei : i = k
                · subst ei
                  rw [hkN] at hM
                  cases hM
                  exact ⟨s22, fun _ => ⟨L.length, hk, by rw [s23, eln], by rw [List.getElem?_append_right (Nat.le_refl _), Nat.sub_self]; rfl, by rw [List.getElem?_append_right (by omega), show L.length + 1 - L.length = 1 by omega]; rfl⟩⟩
                · obtain ⟨q1, q2⟩ := sC i M (by omega) hM
                  refine ⟨q1, fun z => ?_⟩
                  obtain ⟨j, j1, j2, j3, j4⟩ := q2 z
                  have jl := (List.getElem?_eq_some_iff.mp j4).1
                  exact ⟨j, j1, j2, by rw [List.getElem?_append_left (by omega)]; exact j3, by rw [List.getElem?_append_left (by omega)]; exact j4⟩
      · have ek : k = L.length := by omega
        subst ek
        refine fr_iload_n 76 dX7_growTree_75 rfl rfl ?_
        refine fr_aload_n 77 dX7_growTree_76 rfl rfl ?_
        refine fr_geti 80 25 dX7_growTree_77 rfl fs_kX7_221 rfl fs_l0 rfl ?_
        refine fr_icmp_ge 143 83 dX7_growTree_80 rfl rfl (by omega) (by omega) (fun h80 => ?_) (fun h80 => ?_)
        · refine fr_vret dX7_growTree_143 rfl ?_
          refine ⟨rfl, ⟨L, hnd, ⟨?_, hlen⟩, hG.2.1, hN, fun φ => ?_, fun φ => ?_⟩, hO, h7, h10, hF⟩
          · have := (List.getElem?_eq_some_iff.mp hG.2.1).1; omega
          · have := hG.2.2.2.1 φ
            rw [List.take_length, List.drop_length] at this
            change lS φ L + 0 = _ at this
            omega
          · have := hG.2.2.2.2 φ
            rw [List.take_length, List.drop_length] at this
            have h0 : 0 ≤ lX φ L := by cases L with | nil => exact Int.le_refl _ | cons a l => rw [lX]; omega
            change max (lX φ L) 0 = _ at this
            omega
        · exact absurd h80 (by omega)
  have k0 : ∀ (m : Nat) (f : Int) (τ : fs_S), 0 ≤ f → f ≤ 4 → 4 - f < m → τ 0 25 = 1 → τ 20 0 = (((root t).1 : Nat) : Int) → τ 21 0 = 0 → OV τ t → τ 0 7 = 1 → τ 0 10 = 1 → frG σ τ → (∀ g, 0 ≤ g → g < f → τ 18 g = 0 ∧ τ 19 g = gr g) →
      fs_W (fs_Γ 3 (Q_gt t b e σ)) mX7_growTree 45 [some (.inr 0), some (.inl f)] [] τ := by
    intro m
    induction m with
    | zero => intro f τ h0 h1 h2; omega
    | succ m ih =>
      intro f τ h0 h1 h2 hnd hr hd hO h7 h10 hF hA
      refine fr_iload_n 46 dX7_growTree_45 rfl rfl ?_
      refine fr_iconst 47 dX7_growTree_46 rfl ?_
      refine fr_icmp_ge 73 50 dX7_growTree_47 rfl rfl (by omega) (by omega) (fun h47 => ?_) (fun h47 => ?_)
      · refine fr_iconst 74 dX7_growTree_73 rfl ?_
        refine fr_istore_n 75 [_, _] dX7_growTree_74 rfl (Nat.le_of_ble_eq_true rfl) rfl ?_
        refine key 512 0 [root t] τ (by omega) (GV.init t b e) ⟨fun i M hi => ?_, fun i M hi => by omega⟩ hnd hO h7 h10 hF
        have hi2 := (List.getElem?_eq_some_iff.mp hi).1
        have i0 : i = 0 := by simpa using hi2
        subst i0
        cases hi
        refine ⟨⟨hr, hd, fun g a c => ?_⟩, root_g hw⟩
        have := hA g a (by omega)
        have p1 := part_one g
        show τ 18 (4 * ((0 : Nat) : Int) + g) = ((ploN (wN g) 1 : Nat) : Int) ∧ τ 19 (4 * ((0 : Nat) : Int) + g) = ((phiN (wN g) 1 : Nat) : Int)
        rw [show 4 * ((0 : Nat) : Int) + g = g by omega, p1.1, p1.2]
        exact this
      · refine fr_aload_n 51 dX7_growTree_50 rfl rfl ?_
        refine fr_getr 54 18 dX7_growTree_51 rfl fs_kX7_69 fs_l0 rfl ?_
        refine fr_iload_n 55 dX7_growTree_54 rfl rfl ?_
        refine fr_iconst 56 dX7_growTree_55 rfl ?_
        refine fr_iast 57 dX7_growTree_56 rfl fs_l18 (by omega) ?_
        refine fr_aload_n 58 dX7_growTree_57 rfl rfl ?_
        refine fr_getr 61 19 dX7_growTree_58 rfl fs_kX7_72 fs_l0 rfl ?_
        refine fr_iload_n 62 dX7_growTree_61 rfl rfl ?_
        refine fr_iload_n 63 dX7_growTree_62 rfl rfl ?_
        refine fr_callSi 66 (M2 := mX7_most) [_] dX7_growTree_63 rfl fs_mX7_124 fs_oX7_most fs_sX7_most rfl (fs_Γ_rm (d := 1) (by decide)) (Nat.le_of_ble_eq_true rfl) rfl ?_
        refine (cM_most (by omega)).ci ?_
        refine fr_iast 67 dX7_growTree_66 rfl fs_l19 (by omega) ?_
        refine fr_iinc 70 [_, _] dX7_growTree_67 rfl rfl rfl ?_
        refine fr_goto 45 dX7_growTree_70 rfl ?_
        refine ih (f + 1) _ (by omega) (by omega) (by omega) ?_ ?_ ?_ (hO.eq (fun k' j z => by rw [fs_u_k _ _ (by omega), fs_u_k _ _ (by omega)])) ?_ ?_ (fun k' j z1 z2 z3 => ?_) (fun g a c => ?_)
        · rw [fs_u_k _ _ (by decide), fs_u_k _ _ (by decide)]; exact hnd
        · rw [fs_u_k _ _ (by decide), fs_u_k _ _ (by decide)]; exact hr
        · rw [fs_u_k _ _ (by decide), fs_u_k _ _ (by decide)]; exact hd
        · rw [fs_u_k _ _ (by decide), fs_u_k _ _ (by decide)]; exact h7
        · rw [fs_u_k _ _ (by decide), fs_u_k _ _ (by decide)]; exact h10
        · rw [fs_u_k _ _ (by omega), fs_u_k _ _ (by omega)]; exact hF k' j z1 z2 z3
        · by_cases eg : g = f
          · subst eg
            exact ⟨by rw [fs_u_k _ _ (by decide), fs_u_eq], fs_u_eq _ _ _ _⟩
          · rw [fs_u_k _ _ (by decide), fs_u_i _ eg, fs_u_i _ eg, fs_u_k _ _ (by decide)]; exact hA g a (by omega)
  refine fr_aload_n 1 dX7_growTree_0 rfl rfl ?_
  refine fr_callVv 4 (M2 := mX7_order) [] dX7_growTree_1 rfl fs_mX7_147 fs_oX7_order fs_iX7_order fs_l0 rfl rfl (fs_Γ_rm (d := 2) (by decide)) (Nat.le_of_ble_eq_true rfl) rfl ?_
  refine (cM_order hw hR hb hv).mono ?_
  rintro _ τ ⟨rfl, hO, h7, hF⟩
  refine ⟨rfl, ?_⟩
  have e10 : τ 0 10 = σ 0 10 := hF _ _ (by decide) (by decide) (by decide)
  have e0 : τ 0 0 = tn t := (hF _ _ (by decide) (by decide) (by decide)).trans hm
  refine fr_aload_n 5 dX7_growTree_4 rfl rfl ?_
  refine fr_geti 8 10 dX7_growTree_5 rfl fs_kX7_121 rfl fs_l0 rfl ?_
  refine fr_if_eq 12 11 dX7_growTree_8 rfl rfl (by omega) (fun h8 => ?_) (fun h8 => ?_)
  · refine fr_aload_n 13 dX7_growTree_12 rfl rfl ?_
    refine fr_iconst 14 dX7_growTree_13 rfl ?_
    refine fr_putz 17 10 dX7_growTree_14 rfl fs_kX7_121 fs_pX7_10 rfl fs_l0 rfl (by omega) ?_
    refine fr_aload_n 18 dX7_growTree_17 rfl rfl ?_
    refine fr_iconst 19 dX7_growTree_18 rfl ?_
    refine fr_puti 22 25 dX7_growTree_19 rfl fs_kX7_221 fs_pX7_25 rfl fs_l0 rfl ?_
    refine fr_aload_n 23 dX7_growTree_22 rfl rfl ?_
    refine fr_getr 26 20 dX7_growTree_23 rfl fs_kX7_75 fs_l0 rfl ?_
    refine fr_iconst 27 dX7_growTree_26 rfl ?_
    refine fr_iconst 28 dX7_growTree_27 rfl ?_
    refine fr_aload_n 29 dX7_growTree_28 rfl rfl ?_
    refine fr_geti 32 0 dX7_growTree_29 rfl fs_kX7_104 rfl fs_l0 rfl ?_
    refine fr_top (y := tn t) (by rw [fs_u_ne _ (by decide), fs_u_ne _ (by decide)]; exact e0) ?_
    refine fr_ishl 33 dX7_growTree_32 rfl ?_
    refine fr_iconst 34 dX7_growTree_33 rfl ?_
    refine fr_isub 35 dX7_growTree_34 rfl ?_
    refine fr_top (shl_n hn) ?_
    refine fr_iast 36 dX7_growTree_35 rfl fs_l20 (by omega) ?_
    refine fr_aload_n 37 dX7_growTree_36 rfl rfl ?_
    refine fr_getr 40 21 dX7_growTree_37 rfl fs_kX7_78 fs_l0 rfl ?_
    refine fr_iconst 41 dX7_growTree_40 rfl ?_
    refine fr_iconst 42 dX7_growTree_41 rfl ?_
    refine fr_iast 43 dX7_growTree_42 rfl fs_l21 (by omega) ?_
    refine fr_iconst 44 dX7_growTree_43 rfl ?_
    refine fr_istore_n 45 [_, _] dX7_growTree_44 rfl (Nat.le_of_ble_eq_true rfl) rfl ?_
    refine k0 5 0 _ (by omega) (by omega) (by omega) ?_ ?_ (fs_u_eq _ _ _ _) (hO.eq (fun k' j z => ?_)) ?_ ?_ (fun k' j z1 z2 z3 => ?_) (fun g a c => by omega)
    · rw [fs_u_k _ _ (by decide), fs_u_k _ _ (by decide), fs_u_eq]
    · rw [fs_u_k _ _ (by decide), fs_u_eq]; rfl
    · rw [fs_u_k _ _ (by omega), fs_u_k _ _ (by omega), fs_u_k _ _ (by omega), fs_u_k _ _ (by omega)]
    · rw [fs_u_k _ _ (by decide), fs_u_k _ _ (by decide), fs_u_ne _ (by decide), fs_u_ne _ (by decide)]; exact h7
    · rw [fs_u_k _ _ (by decide), fs_u_k _ _ (by decide), fs_u_ne _ (by decide), fs_u_eq]
    · rw [fs_u_k _ _ (by omega), fs_u_k _ _ (by omega), fs_u_ne _ (by omega), fs_u_ne _ (by omega)]; exact hF k' j (by omega) (by omega) (by omega)
  · refine fr_vret dX7_growTree_11 rfl ?_
    exact ⟨rfl, (hv9 (by omega)).eq (hF _ _ (by decide) (by decide) (by decide)) (fun k i h1 h2 => hF k i (by omega) (by omega) (by omega)), hO, h7, by omega, fun k i a b c => hF k i (by omega) (by omega) (by omega)⟩
