/-! ===== the class: Tuples, search ===== -/
theorem lea_cg {P Q : Int → Bool} {n : Int} (hn : 0 ≤ n) (h : ∀ p, 0 ≤ p → p < n → P p = Q p) : lea P n = lea Q n := by
  obtain ⟨a, b, c, d⟩ := lea_spec Q hn
  by_cases z : lea Q n < n
  · exact lea_at a z (by rw [h _ a z]; exact d z) (fun j j0 j1 => by rw [h j j0 (by omega)]; exact c j j0 j1)
  · rw [lea_no hn (fun j j0 j1 => by rw [h j j0 j1]; exact c j j0 (by omega))]; omega
theorem fit_bit {t : rt} {x : Int → Int} {p : Nat} (hp : (p : Int) < tn t) : (tfit t (x 0) (x 1) (x 2) (x 3)).testBit p = true ↔ fitX t (tod t (p : Int)) x := by
  constructor
  · intro h
    obtain ⟨-, q0, q1, q2, q3⟩ := tfit_fit h
    intro f a b
    rcases (by omega : f = 0 ∨ f = 1 ∨ f = 2 ∨ f = 3) with rfl | rfl | rfl | rfl <;> assumption
  · intro h
    have b : ∀ f, 0 ≤ f → f < 4 → (tkm t f (x f) (x f)).testBit p = true := fun f a b => by
      unfold tkm
      rw [bm_bit, decide_eq_true (by omega), Bool.true_and]
      unfold tkP
      exact decide_eq_true (h f a b)
    unfold tfit
    rw [Nat.testBit_and, Nat.testBit_and, Nat.testBit_and, b 0 (by decide) (by decide), b 1 (by decide) (by decide), b 2 (by decide) (by decide), b 3 (by decide) (by decide)]
    rfl
def pcX (t : rt) (x : Int → Int) : Int → Int := pcd t (x 0) (x 1) (x 2) (x 3)
def prX (t : rt) (x : Int → Int) : Int × Int := prb (pcX t x) (tn t) (TL t) (tn t) 0
def Q_se (t : rt) (x : Int → Int) (σ : fs_S) : fs_Q := fun y τ => y = none ∧ (τ 62 8 = (if (prX t x).1 = tn t then -1 else (prX t x).1) ∧ τ 62 9 = (prX t x).2 ∧ 0 ≤ (prX t x).1 ∧ (prX t x).1 ≤ tn t) ∧ ∀ k i, ¬ (k = 62 ∧ (i = 8 ∨ i = 9)) → ¬ k = 69 → τ k i = σ k i
set_option maxRecDepth 100000 in
set_option maxHeartbeats 3000000 in
theorem cK_search {σ : fs_S} {t : rt} {x : Int → Int} (hw : twf t) (hR : RC 27 σ t) (hO : OC σ t) (hV : TVc σ t) (hx : ∀ f, 0 ≤ f → f < 4 → 0 ≤ x f ∧ x f ≤ gr f) (hX : ∀ f, 0 ≤ f → f < 4 → σ 82 f = x f) : fs_C mX5_search 2 [.inr 62, .inr 82] σ (Q_se t x σ) := by
  refine fs_C.intro [some (.inr 62), some (.inr 82), none, none] fs_oX5_search (Nat.le_of_ble_eq_true rfl) rfl ?_
  have hn := hw.1
  have hm := hR.1
  obtain ⟨v1, v2⟩ := hV.at hw
  have hlen : (TL t).length ≤ 1029 := lsK_len_le t _
  have loop : ∀ (m i : Nat) (fd pb : Int) (τ : fs_S) (y : Option fs_V), i + m = (TL t).length → prb (pcX t x) (tn t) ((TL t).drop i) fd pb = prX t x → (0 ≤ fd ∧ fd ≤ tn t) → τ 62 8 = (if fd = tn t then -1 else fd) → τ 62 9 = pb → (∀ p : Int, 0 ≤ p → p < tn t → (fitX t (tod t p) x → τ 69 p = ky (cdX t (tod t p) x)) ∧ (¬ fitX t (tod t p) x → τ 69 p = -1)) → (∀ k i, ¬ (k = 62 ∧ (i = 8 ∨ i = 9)) → ¬ k = 69 → τ k i = σ k i) → fs_W (fs_Γ 2 (Q_se t x σ)) mX5_search 51 [some (.inr 62), some (.inr 82), some (.inl (i : Int)), y] [] τ := by
    intro m
    induction m with
    | zero =>
      intro i fd pb τ y h1 h2 h3 h4 h5 h6 h7
      have e1 : τ 62 1 = ((TL t).length : Int) := (h7 _ _ (by decide) (by decide)).trans v1
      rw [List.drop_eq_nil_of_le (by omega), prb] at h2
      refine fr_iload_n 52 dX5_search_51 rfl rfl ?_
      refine fr_aload_n 53 dX5_search_52 rfl rfl ?_
      refine fr_geti 56 1 dX5_search_53 rfl fs_kX5_15 rfl fs_l62 rfl ?_
      refine fr_top e1 ?_
      refine fr_icmp_ge 131 59 dX5_search_56 rfl rfl (by omega) (by omega) (fun h56 => ?_) (fun h56 => ?_)
      · refine fr_vret dX5_search_131 rfl ?_
        exact ⟨rfl, by rw [← h2]; exact ⟨h4, h5, h3⟩, h7⟩
      · omega
    | succ m ih =>
      intro i fd pb τ y h1 h2 h3 h4 h5 h6 h7
      have e1 : τ 62 1 = ((TL t).length : Int) := (h7 _ _ (by decide) (by decide)).trans v1
      obtain ⟨z, hz⟩ : ∃ z, (TL t)[i]? = some z := ⟨_, List.getElem?_eq_getElem (by omega)⟩
      have hdr : (TL t).drop i = z :: (TL t).drop (i + 1) := by
        rw [List.drop_eq_getElem_cons (by omega), (List.getElem?_eq_some_iff.mp hz).2]
      obtain ⟨q1, q2, -, -⟩ := v2 i z hz
      have zm := lsK_mem (List.mem_of_getElem? hz)
      have zn : z.2 < tn t := by omega
      have k66 : τ 66 (i : Int) = ky z.1 := (h7 _ _ (by omega) (by omega)).trans q1
      have k64 : τ 64 (i : Int) = z.2 := (h7 _ _ (by omega) (by omega)).trans q2
      have kr := ky_r zm.1.1 zm.1.2
      have rgp : ∀ p, 0 ≤ p → p < tn t → -1 ≤ τ 69 p ∧ τ 69 p < 2048 := fun p a b => by
        by_cases f : fitX t (tod t p) x
        · rw [(h6 p a b).1 f]
          have c := (cdX_cl t (tod t p) x).1
          have := ky_r c.1 c.2
          omega
        · rw [(h6 p a b).2 f]; omega
      have le : lea (fun p => decide (τ 69 p = ky z.1)) (tn t) = lea (fun p => decide (pcX t x p = z.1)) (tn t) := by
        refine lea_cg hn.1 (fun p a b => ?_)
        obtain ⟨pn, rfl⟩ := Int.eq_ofNat_of_zero_le a
        have c := (cdX_cl t (tod t (pn : Int)) x).1
        refine decide_eq_decide.mpr ?_
        by_cases f : fitX t (tod t (pn : Int)) x
        · have e : pcX t x (pn : Int) = cdX t (tod t (pn : Int)) x := if_pos ((fit_bit b).mpr f)
          rw [(h6 _ a b).1 f, e]
          exact ⟨fun y => ky_inj c.1 c.2 zm.1.1 zm.1.2 y, fun y => by rw [y]⟩
        · have e : pcX t x (pn : Int) = -6 := if_neg (fun y => f ((fit_bit b).mp y))
          rw [(h6 _ a b).2 f, e]
          omega
      obtain ⟨L, eL⟩ : ∃ L, L = lea (fun p => decide (pcX t x p = z.1)) (tn t) := ⟨_, rfl⟩
      have lr := lea_spec (fun p => decide (pcX t x p = z.1)) hn.1
      rw [← eL] at lr
      rw [hdr, prb, ← eL] at h2
      have p80 : z.2 < fd → fs_W (fs_Γ 2 (Q_se t x σ)) mX5_search 80 [some (.inr 62), some (.inr 82), some (.inl (i : Int)), y] [] τ := by
        intro hlt
        rw [if_pos hlt] at h2
        have cf := fun (τ' : fs_S) (e : ∀ p, τ' 69 p = τ 69 p) (e2 : τ' 27 0 = tn t) => @cK_firstWithKey τ' t (ky z.1) hn e2 ⟨by omega, by omega⟩ (fun p a b => by rw [e]; have := rgp p a b; exact ⟨by omega, by omega⟩)
        have lh : ∀ (τ' : fs_S), (∀ p, τ' 69 p = τ 69 p) → lea (fun p => decide (τ' 69 p = ky z.1)) (tn t) = L := fun τ' e => by rw [eL, ← le]; simp only [e]
        obtain ⟨F, eF⟩ : ∃ F, F = (if fd = tn t then -1 else fd) := ⟨_, rfl⟩
        obtain ⟨H, eH⟩ : ∃ H, H = (if L = tn t then -1 else L) := ⟨_, rfl⟩
        have hF : fd = tn t ∧ F = -1 ∨ fd ≠ tn t ∧ F = fd := by rw [eF]; split <;> omega
        have hH : L = tn t ∧ H = -1 ∨ L ≠ tn t ∧ H = L := by rw [eH]; split <;> omega
        rw [← eF] at h4
        have eM : ∀ v, (min fd L = tn t ∧ v = -1 ∨ min fd L ≠ tn t ∧ v = min fd L) → v = (if min fd L = tn t then -1 else min fd L) := fun v e => by split <;> omega
        refine fr_aload_n 81 dX5_search_80 rfl rfl ?_
        refine fr_dup 82 dX5_search_81 rfl ?_
        refine fr_geti 85 9 dX5_search_82 rfl fs_kX5_43 rfl fs_l62 rfl ?_
        refine fr_top h5 ?_
        refine fr_iconst 86 dX5_search_85 rfl ?_
        refine fr_iadd 87 dX5_search_86 rfl ?_
        refine fr_puti 90 9 dX5_search_87 rfl fs_kX5_43 fs_pX5_9 rfl fs_l62 rfl ?_
        refine fr_aload_n 91 dX5_search_90 rfl rfl ?_
        refine fr_aload_n 92 dX5_search_91 rfl rfl ?_
        refine fr_getr 95 66 dX5_search_92 rfl fs_kX5_29 fs_l62 rfl ?_
        refine fr_iload_n 96 dX5_search_95 rfl rfl ?_
        refine fr_iald 97 dX5_search_96 rfl fs_l66 (by omega) ?_
        refine fr_top ((fs_u_k _ _ (by decide)).trans k66) ?_
        refine fr_callVi 100 (M2 := mX5_firstWithKey) [_] dX5_search_97 rfl fs_mX5_94 fs_oX5_firstWithKey fs_iX5_firstWithKey fs_l62 rfl rfl (fs_Γ_rm (d := 0) (by decide)) (Nat.le_of_ble_eq_true rfl) rfl ?_
        refine (cf _ (fun p => fs_u_k _ _ (by decide)) ((fs_u_k _ _ (by decide)).trans ((h7 _ _ (by decide) (by decide)).trans hm))).ci ?_
        rw [lh _ (fun p => fs_u_k _ _ (by decide)), ← eH]
        refine fr_istore_n 101 [_, _, _, _] dX5_search_100 rfl (Nat.le_of_ble_eq_true rfl) rfl ?_
        refine fr_iload_n 102 dX5_search_101 rfl rfl ?_
        refine fr_if_lt 125 105 dX5_search_102 rfl rfl (by omega) (fun h102 => ?_) (fun h102 => ?_)
        · refine fr_iinc 128 [_, _, _, _] dX5_search_125 rfl rfl rfl ?_
          refine fr_goto 51 dX5_search_128 rfl ?_
          exact ih (i + 1) _ _ _ _ (by omega) h2 (by omega) (eM _ (by rw [fs_u_i _ (by decide), h4]; omega)) (fs_u_eq _ _ _ _) (fun p a b => by rw [fs_u_k _ _ (by decide)]; exact h6 p a b) (fun k j a b => (fs_u_ne _ (by omega)).trans (h7 k j a b))
        · refine fr_aload_n 106 dX5_search_105 rfl rfl ?_
          refine fr_geti 109 8 dX5_search_106 rfl fs_kX5_40 rfl fs_l62 rfl ?_
          refine fr_top ((fs_u_i _ (by decide)).trans h4) ?_
          refine fr_if_lt 120 112 dX5_search_109 rfl rfl (by omega) (fun h109 => ?_) (fun h109 => ?_)
          · refine fr_aload_n 121 dX5_search_120 rfl rfl ?_
            refine fr_iload_n 122 dX5_search_121 rfl rfl ?_
            refine fr_puti 125 8 dX5_search_122 rfl fs_kX5_40 fs_pX5_8 rfl fs_l62 rfl ?_
            refine fr_iinc 128 [_, _, _, _] dX5_search_125 rfl rfl rfl ?_
            refine fr_goto 51 dX5_search_128 rfl ?_
            exact ih (i + 1) _ _ _ _ (by omega) h2 (by omega) (eM _ (by rw [fs_u_eq]; omega)) (by rw [fs_u_i _ (by decide), fs_u_eq]) (fun p a b => by rw [fs_u_k _ _ (by decide), fs_u_k _ _ (by decide)]; exact h6 p a b) (fun k j a b => (fs_u_ne _ (by omega)).trans ((fs_u_ne _ (by omega)).trans (h7 k j a b)))
          · refine fr_iload_n 113 dX5_search_112 rfl rfl ?_
            refine fr_aload_n 114 dX5_search_113 rfl rfl ?_
            refine fr_geti 117 8 dX5_search_114 rfl fs_kX5_40 rfl fs_l62 rfl ?_
            refine fr_top ((fs_u_i _ (by decide)).trans h4) ?_
            refine fr_icmp_ge 125 120 dX5_search_117 rfl rfl (by omega) (by omega) (fun h117 => ?_) (fun h117 => ?_)
            · refine fr_iinc 128 [_, _, _, _] dX5_search_125 rfl rfl rfl ?_
              refine fr_goto 51 dX5_search_128 rfl ?_
              exact ih (i + 1) _ _ _ _ (by omega) h2 (by omega) (eM _ (by rw [fs_u_i _ (by decide), h4]; omega)) (fs_u_eq _ _ _ _) (fun p a b => by rw [fs_u_k _ _ (by decide)]; exact h6 p a b) (fun k j a b => (fs_u_ne _ (by omega)).trans (h7 k j a b))
            · refine fr_aload_n 121 dX5_search_120 rfl rfl ?_
              refine fr_iload_n 122 dX5_search_121 rfl rfl ?_
              refine fr_puti 125 8 dX5_search_122 rfl fs_kX5_40 fs_pX5_8 rfl fs_l62 rfl ?_
              refine fr_iinc 128 [_, _, _, _] dX5_search_125 rfl rfl rfl ?_
              refine fr_goto 51 dX5_search_128 rfl ?_
              exact ih (i + 1) _ _ _ _ (by omega) h2 (by omega) (eM _ (by rw [fs_u_eq]; omega)) (by rw [fs_u_i _ (by decide), fs_u_eq]) (fun p a b => by rw [fs_u_k _ _ (by decide), fs_u_k _ _ (by decide)]; exact h6 p a b) (fun k j a b => (fs_u_ne _ (by omega)).trans ((fs_u_ne _ (by omega)).trans (h7 k j a b)))
      obtain ⟨F, eF⟩ : ∃ F, F = (if fd = tn t then -1 else fd) := ⟨_, rfl⟩
      have hF : fd = tn t ∧ F = -1 ∨ fd ≠ tn t ∧ F = fd := by rw [eF]; split <;> omega
      have h4' := h4
      rw [← eF] at h4'
      refine fr_iload_n 52 dX5_search_51 rfl rfl ?_
      refine fr_aload_n 53 dX5_search_52 rfl rfl ?_
      refine fr_geti 56 1 dX5_search_53 rfl fs_kX5_15 rfl fs_l62 rfl ?_
      refine fr_top e1 ?_
      refine fr_icmp_ge 131 59 dX5_search_56 rfl rfl (by omega) (by omega) (fun h56 => ?_) (fun h56 => ?_)
      · omega
      · refine fr_aload_n 60 dX5_search_59 rfl rfl ?_
        refine fr_geti 63 8 dX5_search_60 rfl fs_kX5_40 rfl fs_l62 rfl ?_
        refine fr_top h4' ?_
        refine fr_if_lt 80 66 dX5_search_63 rfl rfl (by omega) (fun h63 => ?_) (fun h63 => ?_)
        · exact p80 (by omega)
        · refine fr_aload_n 67 dX5_search_66 rfl rfl ?_
          refine fr_getr 70 64 dX5_search_67 rfl fs_kX5_23 fs_l62 rfl ?_
          refine fr_iload_n 71 dX5_search_70 rfl rfl ?_
          refine fr_iald 72 dX5_search_71 rfl fs_l64 (by omega) ?_
          refine fr_top k64 ?_
          refine fr_aload_n 73 dX5_search_72 rfl rfl ?_
          refine fr_geti 76 8 dX5_search_73 rfl fs_kX5_40 rfl fs_l62 rfl ?_
          refine fr_top h4' ?_
          refine fr_icmp_lt 80 79 dX5_search_76 rfl rfl (by omega) (by omega) (fun h76 => ?_) (fun h76 => ?_)
          · exact p80 (by omega)
          · refine fr_vret dX5_search_79 rfl ?_
            rw [if_neg (by omega)] at h2
            exact ⟨rfl, by rw [← h2]; exact ⟨h4, h5, h3⟩, h7⟩
  have key : ∀ (m : Nat) (p : Int) (τ : fs_S) (y : Option fs_V), 0 ≤ p → p + (m : Int) = tn t → (∀ q : Int, 0 ≤ q → q < p → (fitX t (tod t q) x → τ 69 q = ky (cdX t (tod t q) x)) ∧ (¬ fitX t (tod t q) x → τ 69 q = -1)) → (∀ k i, ¬ k = 69 → τ k i = σ k i) → fs_W (fs_Γ 2 (Q_se t x σ)) mX5_search 2 [some (.inr 62), some (.inr 82), some (.inl p), y] [] τ := by
    intro m
    induction m with
    | zero =>
      intro p τ y h0 h1 h2 h3
      have e27 : τ 27 0 = tn t := (h3 _ _ (by decide)).trans hm
      refine fr_iload_n 3 dX5_search_2 rfl rfl ?_
      refine fr_aload_n 4 dX5_search_3 rfl rfl ?_
      refine fr_getr 7 27 dX5_search_4 rfl fs_kX5_49 fs_l62 rfl ?_
      refine fr_geti 10 0 dX5_search_7 rfl fs_kX5_65 rfl fs_l27 rfl ?_
      refine fr_top e27 ?_
      refine fr_icmp_ge 39 13 dX5_search_10 rfl rfl (by omega) (by omega) (fun h10 => ?_) (fun h10 => ?_)
      · refine fr_aload_n 40 dX5_search_39 rfl rfl ?_
        refine fr_iconst 41 dX5_search_40 rfl ?_
        refine fr_puti 44 8 dX5_search_41 rfl fs_kX5_40 fs_pX5_8 rfl fs_l62 rfl ?_
        refine fr_aload_n 45 dX5_search_44 rfl rfl ?_
        refine fr_iconst 46 dX5_search_45 rfl ?_
        refine fr_puti 49 9 dX5_search_46 rfl fs_kX5_43 fs_pX5_9 rfl fs_l62 rfl ?_
        refine fr_iconst 50 dX5_search_49 rfl ?_
        refine fr_istore_n 51 [_, _, _, _] dX5_search_50 rfl (Nat.le_of_ble_eq_true rfl) rfl ?_
        exact loop (TL t).length 0 (tn t) 0 _ _ (by omega) rfl (by omega) (by rw [if_pos rfl, fs_u_i _ (by decide), fs_u_eq]) (fs_u_eq _ _ _ _) (fun q a b => by rw [fs_u_k _ _ (by decide), fs_u_k _ _ (by decide)]; exact h2 q a (by omega)) (fun k j a b => (fs_u_ne _ (by omega)).trans ((fs_u_ne _ (by omega)).trans (h3 k j b)))
      · omega
    | succ m ih =>
      intro p τ y h0 h1 h2 h3
      have e27 : τ 27 0 = tn t := (h3 _ _ (by decide)).trans hm
      have rc : RC 27 τ t := hR.eq (h3 _ _ (by decide)) (fun k i z => h3 k i (by omega))
      have eo : τ 32 p = tod t p := (h3 _ _ (by decide)).trans (hO.1 p h0 (by omega))
      have tr := tod_r (t := t) (p := p) h0 (by omega)
      refine fr_iload_n 3 dX5_search_2 rfl rfl ?_
      refine fr_aload_n 4 dX5_search_3 rfl rfl ?_
      refine fr_getr 7 27 dX5_search_4 rfl fs_kX5_49 fs_l62 rfl ?_
      refine fr_geti 10 0 dX5_search_7 rfl fs_kX5_65 rfl fs_l27 rfl ?_
      refine fr_top e27 ?_
      refine fr_icmp_ge 39 13 dX5_search_10 rfl rfl (by omega) (by omega) (fun h10 => ?_) (fun h10 => ?_)
      · omega
      · refine fr_aload_n 14 dX5_search_13 rfl rfl ?_
        refine fr_getr 17 69 dX5_search_14 rfl fs_kX5_46 fs_l62 rfl ?_
        refine fr_iload_n 18 dX5_search_17 rfl rfl ?_
        refine fr_aload_n 19 dX5_search_18 rfl rfl ?_
        refine fr_aload_n 20 dX5_search_19 rfl rfl ?_
        refine fr_getr 23 27 dX5_search_20 rfl fs_kX5_49 fs_l62 rfl ?_
        refine fr_getr 26 32 dX5_search_23 rfl fs_kX5_68 fs_l27 rfl ?_
        refine fr_iload_n 27 dX5_search_26 rfl rfl ?_
        refine fr_iald 28 dX5_search_27 rfl fs_l32 (by omega) ?_
        refine fr_top eo ?_
        refine fr_aload_n 29 dX5_search_28 rfl rfl ?_
        refine fr_callVi 32 (M2 := mX5_packetKey) [_, _] dX5_search_29 rfl fs_mX5_90 fs_oX5_packetKey fs_iX5_packetKey fs_l62 rfl rfl (fs_Γ_rm (d := 1) (by decide)) (Nat.le_of_ble_eq_true rfl) rfl ?_
        refine (cK_packetKey hw rc ⟨tr.1, tr.2.1⟩ hx (fun f a b => (h3 _ _ (by decide)).trans (hX f a b))).mono ?_
        rintro _ τ' ⟨⟨v, rfl, g1, g2⟩, rfl⟩
        refine ⟨_, rfl, ?_⟩
        refine fr_iast 33 dX5_search_32 rfl fs_l69 (by omega) ?_
        refine fr_iinc 36 [_, _, _, _] dX5_search_33 rfl rfl rfl ?_
        refine fr_goto 2 dX5_search_36 rfl ?_
        refine ih (p + 1) _ _ (by omega) (by omega) (fun q a b => ?_) (fun k i z => (fs_u_k _ _ z).trans (h3 k i z))
        by_cases e : q = p
        · rw [e, fs_u_eq]; exact ⟨g1, g2⟩
        · rw [fs_u_i _ e]; exact h2 q a (by omega)
  refine fr_iconst 1 dX5_search_0 rfl ?_
  refine fr_istore_n 2 [_, _, _, _] dX5_search_1 rfl (Nat.le_of_ble_eq_true rfl) rfl ?_
  exact key (tn t).toNat 0 σ _ (by omega) (by omega) (fun q a b => by omega) (fun _ _ _ => rfl)
