/-! ===== the class: Tuples, countPieces, refresh, lengthIn ===== -/
set_option maxRecDepth 100000 in
set_option maxHeartbeats 3000000 in
theorem cK_countPieces {σ : fs_S} {t : rt} {r : Int} (hw : twf t) (hR : RC 27 σ t) (hr : 0 ≤ r ∧ r < tn t) : fs_C mX5_countPieces 3 [.inr 62, .inl r] σ (fun x τ => x = none ∧ PCs τ t r ∧ ∀ k i, ¬ (70 ≤ k ∧ k < 74) → τ k i = σ k i) := by
  refine fs_C.intro [some (.inr 62), some (.inl r), none, none] fs_oX5_countPieces (Nat.le_of_ble_eq_true rfl) rfl ?_
  have key : ∀ (m : Nat) (f : Int) (τ : fs_S) (y : Option fs_V), 0 ≤ f → f + (m : Int) = 4 → (∀ g l, 0 ≤ g → g < f → 0 ≤ l → l ≤ ((wN g : Nat) : Int) → τ (70 + g) l = ol t r g l) → (∀ k i, ¬ (70 ≤ k ∧ k < 74) → τ k i = σ k i) → fs_W (fs_Γ 3 (fun x τ => x = none ∧ PCs τ t r ∧ ∀ k i, ¬ (70 ≤ k ∧ k < 74) → τ k i = σ k i)) mX5_countPieces 2 [some (.inr 62), some (.inl r), some (.inl f), y] [] τ := by
    intro m
    induction m with
    | zero =>
      intro f τ y h0 h1 h2 h3
      refine fr_iload_n 3 dX5_countPieces_2 rfl rfl ?_
      refine fr_iconst 4 dX5_countPieces_3 rfl ?_
      refine fr_icmp_ge 48 7 dX5_countPieces_4 rfl rfl (by omega) (by omega) (fun h4 => ?_) (fun h4 => ?_)
      · refine fr_vret dX5_countPieces_48 rfl ?_
        exact ⟨rfl, fun g l a b => h2 g l a (by omega), h3⟩
      · omega
    | succ m ih =>
      intro f τ y h0 h1 h2 h3
      have hf : 0 ≤ f ∧ f < 4 := by omega
      have w6 := wN_r f
      have wdw := wN_wd f
      have inn : ∀ (q l : Nat) (ρ : fs_S), l + q = wN f + 1 → (∀ g l, 0 ≤ g → g < f → 0 ≤ l → l ≤ ((wN g : Nat) : Int) → ρ (70 + g) l = ol t r g l) → (∀ j : Int, 0 ≤ j → j < (l : Int) → ρ (70 + f) j = ol t r f j) → (∀ k i, ¬ (70 ≤ k ∧ k < 74) → ρ k i = σ k i) → fs_W (fs_Γ 3 (fun x τ => x = none ∧ PCs τ t r ∧ ∀ k i, ¬ (70 ≤ k ∧ k < 74) → τ k i = σ k i)) mX5_countPieces 9 [some (.inr 62), some (.inl r), some (.inl f), some (.inl (l : Int))] [] ρ := by
        intro q
        induction q with
        | zero =>
          intro l ρ e1 e2 e3 e4
          refine fr_iload_n 10 dX5_countPieces_9 rfl rfl ?_
          refine fr_getsN 13 1 dX5_countPieces_10 rfl rfl rfl fs_nX5_79 ?_
          refine fr_iload_n 14 dX5_countPieces_13 rfl rfl ?_
          refine fr_ialdS 15 1 dX5_countPieces_14 rfl rfl rfl (by decide) (by omega) (st_wd hf) ?_
          refine fr_icmp_gt 42 18 dX5_countPieces_15 rfl rfl (by omega) (by omega) (fun h15 => ?_) (fun h15 => ?_)
          · refine fr_iinc 45 [_, _, _, _] dX5_countPieces_42 rfl rfl rfl ?_
            refine fr_goto 2 dX5_countPieces_45 rfl ?_
            exact ih (f + 1) ρ _ (by omega) (by omega) (fun g j a b c d => by
            by_cases z : g = f
            · subst z; exact e3 j c (by omega)
            · exact e2 g j a (by omega) c d) e4
          · omega
        | succ q ihq =>
          intro l ρ e1 e2 e3 e4
          have rc : RC 27 ρ t := hR.eq (e4 _ _ (by decide)) (fun k i z => e4 k i (by omega))
          refine fr_iload_n 10 dX5_countPieces_9 rfl rfl ?_
          refine fr_getsN 13 1 dX5_countPieces_10 rfl rfl rfl fs_nX5_79 ?_
          refine fr_iload_n 14 dX5_countPieces_13 rfl rfl ?_
          refine fr_ialdS 15 1 dX5_countPieces_14 rfl rfl rfl (by decide) (by omega) (st_wd hf) ?_
          refine fr_icmp_gt 42 18 dX5_countPieces_15 rfl rfl (by omega) (by omega) (fun h15 => ?_) (fun h15 => ?_)
          · omega
          · refine fr_aload_n 19 dX5_countPieces_18 rfl rfl ?_
            refine fr_getr 22 68 dX5_countPieces_19 rfl fs_kX5_37 fs_l62 rfl ?_
            refine fr_iload_n 23 dX5_countPieces_22 rfl rfl ?_
            refine fr_aald 24 dX5_countPieces_23 rfl fs_l68 (by omega) ?_
            refine fr_iload_n 25 dX5_countPieces_24 rfl rfl ?_
            refine fr_aload_n 26 dX5_countPieces_25 rfl rfl ?_
            refine fr_getr 29 27 dX5_countPieces_26 rfl fs_kX5_49 fs_l62 rfl ?_
            refine fr_iload_n 30 dX5_countPieces_29 rfl rfl ?_
            refine fr_iload_n 31 dX5_countPieces_30 rfl rfl ?_
            refine fr_iload_n 32 dX5_countPieces_31 rfl rfl ?_
            refine fr_callVi 35 (M2 := mX3_prefixesOf) [_, _, _] dX5_countPieces_32 rfl fs_mX5_82 fs_oX3_prefixesOf fs_iX3_prefixesOf fs_l27 rfl rfl (fs_Γ_rm (d := 2) (by decide)) (Nat.le_of_ble_eq_true rfl) rfl ?_
            refine (cK_prefixesOf hw rc hr hf (len := l) (by omega)).ci ?_
            refine fr_iast 36 dX5_countPieces_35 rfl (fs_f70 _ (by omega)) (by omega) ?_
            refine fr_iinc 39 [_, _, _, _] dX5_countPieces_36 rfl rfl rfl ?_
            refine fr_goto 9 dX5_countPieces_39 rfl ?_
            refine ihq (l + 1) _ (by omega) (fun g j a b c d => ?_) (fun j a b => ?_) (fun k i z => ?_)
            · rw [fs_u_k _ _ (by omega)]; exact e2 g j a b c d
            · by_cases z : j = (l : Int)
              · rw [z, fs_u_eq]
              · rw [fs_u_i _ z]; exact e3 j a (by omega)
            · rw [fs_u_k _ _ (by omega)]; exact e4 k i z
      refine fr_iload_n 3 dX5_countPieces_2 rfl rfl ?_
      refine fr_iconst 4 dX5_countPieces_3 rfl ?_
      refine fr_icmp_ge 48 7 dX5_countPieces_4 rfl rfl (by omega) (by omega) (fun h4 => ?_) (fun h4 => ?_)
      · omega
      · refine fr_iconst 8 dX5_countPieces_7 rfl ?_
        refine fr_istore_n 9 [_, _, _, _] dX5_countPieces_8 rfl (Nat.le_of_ble_eq_true rfl) rfl ?_
        exact inn (wN f + 1) 0 τ (by omega) h2 (fun j a b => by omega) h3
  refine fr_iconst 1 dX5_countPieces_0 rfl ?_
  refine fr_istore_n 2 [_, _, _, _] dX5_countPieces_1 rfl (Nat.le_of_ble_eq_true rfl) rfl ?_
  exact key 4 0 σ _ (by omega) (by omega) (fun g l a b => by omega) (fun _ _ _ => rfl)
def frW (σ τ : fs_S) : Prop := ∀ k i, ¬ (k = 62 ∧ (i = 0 ∨ i = 1)) → ¬ (63 ≤ k ∧ k ≤ 67) → ¬ (70 ≤ k ∧ k < 74) → τ k i = σ k i
def TVc (σ : fs_S) (t : rt) : Prop := TS σ t (tn t).toNat 0
set_option maxRecDepth 100000 in
set_option maxHeartbeats 3000000 in
theorem cK_refreshT {σ : fs_S} {t : rt} (hw : twf t) (hR : RC 27 σ t) (hO : OC σ t) (hb : σ 62 0 = 0 ∨ σ 62 0 = 1) (hv : σ 62 0 = 0 → TVc σ t) : fs_C mX5_refresh 8 [.inr 62] σ (fun x τ => x = none ∧ TVc τ t ∧ τ 62 0 = 0 ∧ frW σ τ) := by
  refine fs_C.intro [some (.inr 62), none] fs_oX5_refresh (Nat.le_of_ble_eq_true rfl) rfl ?_
  have hn := hw.1
  have hm := hR.1
  have key : ∀ (m P : Nat) (τ : fs_S), (P : Int) + (m : Int) = tn t → TS τ t P 0 → frW σ τ → fs_W (fs_Γ 8 (fun x τ => x = none ∧ TVc τ t ∧ τ 62 0 = 0 ∧ frW σ τ)) mX5_refresh 23 [some (.inr 62), some (.inl (P : Int))] [] τ := by
    intro m
    induction m with
    | zero =>
      intro P τ h1 h2 h3
      have e27 : τ 27 0 = tn t := (h3 _ _ (by decide) (by decide) (by decide)).trans hm
      refine fr_iload_n 24 dX5_refresh_23 rfl rfl ?_
      refine fr_aload_n 25 dX5_refresh_24 rfl rfl ?_
      refine fr_getr 28 27 dX5_refresh_25 rfl fs_kX5_49 fs_l62 rfl ?_
      refine fr_geti 31 0 dX5_refresh_28 rfl fs_kX5_65 rfl fs_l27 rfl ?_
      refine fr_top e27 ?_
      refine fr_icmp_ge 61 34 dX5_refresh_31 rfl rfl (by omega) (by omega) (fun h31 => ?_) (fun h31 => ?_)
      · refine fr_aload_n 62 dX5_refresh_61 rfl rfl ?_
        refine fr_iconst 63 dX5_refresh_62 rfl ?_
        refine fr_putz 66 0 dX5_refresh_63 rfl fs_kX5_9 fs_pX5_0 rfl fs_l62 rfl (by decide) ?_
        refine fr_vret dX5_refresh_66 rfl ?_
        exact ⟨rfl, by unfold TVc; rw [show (tn t).toNat = P by omega]; exact h2.eq (fs_u_i _ (by decide)) (fun k i a b => fs_u_k _ _ (by omega)), fs_u_eq _ _ _ _, fun k i a b c => (fs_u_ne _ (by omega)).trans (h3 k i a b c)⟩
      · omega
    | succ m ih =>
      intro P τ h1 h2 h3
      have e27 : τ 27 0 = tn t := (h3 _ _ (by decide) (by decide) (by decide)).trans hm
      have rc : RC 27 τ t := hR.eq (h3 _ _ (by decide) (by decide) (by decide)) (fun k i z => h3 k i (by omega) (by omega) (by omega))
      have eo : τ 32 (P : Int) = tod t (P : Int) := by rw [h3 _ _ (by omega) (by omega) (by omega)]; exact hO.1 _ (by omega) (by omega)
      have tr := tod_r (t := t) (p := (P : Int)) (by omega) (by omega)
      refine fr_iload_n 24 dX5_refresh_23 rfl rfl ?_
      refine fr_aload_n 25 dX5_refresh_24 rfl rfl ?_
      refine fr_getr 28 27 dX5_refresh_25 rfl fs_kX5_49 fs_l62 rfl ?_
      refine fr_geti 31 0 dX5_refresh_28 rfl fs_kX5_65 rfl fs_l27 rfl ?_
      refine fr_top e27 ?_
      refine fr_icmp_ge 61 34 dX5_refresh_31 rfl rfl (by omega) (by omega) (fun h31 => ?_) (fun h31 => ?_)
      · omega
      · refine fr_aload_n 35 dX5_refresh_34 rfl rfl ?_
        refine fr_aload_n 36 dX5_refresh_35 rfl rfl ?_
        refine fr_getr 39 27 dX5_refresh_36 rfl fs_kX5_49 fs_l62 rfl ?_
        refine fr_getr 42 32 dX5_refresh_39 rfl fs_kX5_68 fs_l27 rfl ?_
        refine fr_iload_n 43 dX5_refresh_42 rfl rfl ?_
        refine fr_iald 44 dX5_refresh_43 rfl fs_l32 (by omega) ?_
        refine fr_top eo ?_
        refine fr_callVv 47 (M2 := mX5_countPieces) [_] dX5_refresh_44 rfl fs_mX5_71 fs_oX5_countPieces fs_iX5_countPieces fs_l62 rfl rfl (fs_Γ_rm (d := 3) (by decide)) (Nat.le_of_ble_eq_true rfl) rfl ?_
        refine (cK_countPieces hw rc ⟨tr.1, tr.2.1⟩).mono ?_
        rintro _ ρ ⟨rfl, g1, g2⟩
        refine ⟨rfl, ?_⟩
        have ce := cK_enter hw (P := P) (by omega) 4 (by decide) 0 0 ρ rfl (by decide) (by decide) (h2.eq (g2 _ _ (by decide)) (fun k i a b => g2 k i (by omega))) g1 (by rw [prI_0]; decide)
        rw [show kp ((0 : Nat) : Int) 0 = 0 from rfl, prI_0] at ce
        refine fr_aload_n 48 dX5_refresh_47 rfl rfl ?_
        refine fr_iconst 49 dX5_refresh_48 rfl ?_
        refine fr_iconst 50 dX5_refresh_49 rfl ?_
        refine fr_iconst 51 dX5_refresh_50 rfl ?_
        refine fr_iload_n 52 dX5_refresh_51 rfl rfl ?_
        refine fr_callVv 55 (M2 := mX5_enter) [_, _, _, _] dX5_refresh_52 rfl fs_mX5_75 fs_oX5_enter fs_iX5_enter fs_l62 rfl rfl (fs_Γ_rm (d := 7) (by decide)) (Nat.le_of_ble_eq_true rfl) rfl ?_
        refine ce.mono ?_
        rintro _ ρ2 ⟨rfl, g3, g4⟩
        refine ⟨rfl, ?_⟩
        refine fr_iinc 58 [_, _] dX5_refresh_55 rfl rfl rfl ?_
        refine fr_goto 23 dX5_refresh_58 rfl ?_
        exact ih (P + 1) ρ2 (by omega) (TS.next g3 hw (by omega)) (fun k i a b c => (g4 k i (by omega) b).trans ((g2 k i c).trans (h3 k i a b c)))
  refine fr_aload_n 1 dX5_refresh_0 rfl rfl ?_
  refine fr_geti 4 0 dX5_refresh_1 rfl fs_kX5_9 rfl fs_l62 rfl ?_
  refine fr_if_ne 8 7 dX5_refresh_4 rfl rfl (by omega) (fun h4 => ?_) (fun h4 => ?_)
  · refine fr_aload_n 9 dX5_refresh_8 rfl rfl ?_
    refine fr_iconst 10 dX5_refresh_9 rfl ?_
    refine fr_puti 13 1 dX5_refresh_10 rfl fs_kX5_15 fs_pX5_1 rfl fs_l62 rfl ?_
    refine fr_aload_n 14 dX5_refresh_13 rfl rfl ?_
    refine fr_getr 17 67 dX5_refresh_14 rfl fs_kX5_32 fs_l62 rfl ?_
    refine fr_iconst 18 dX5_refresh_17 rfl ?_
    refine fr_callSv 21 (M2 := mJ7_fill_53178) [_, _] dX5_refresh_18 rfl fs_mX5_59 fs_oJ7_fill_53178 fs_sJ7_fill_53178 rfl (fs_Γ_rm (d := 0) (by decide)) (Nat.le_of_ble_eq_true rfl) rfl ?_
    refine (cK_fill fs_l67).mono ?_
    rintro _ τ ⟨rfl, f1, f2⟩
    refine ⟨rfl, ?_⟩
    refine fr_iconst 22 dX5_refresh_21 rfl ?_
    refine fr_istore_n 23 [_, _] dX5_refresh_22 rfl (Nat.le_of_ble_eq_true rfl) rfl ?_
    refine key (tn t).toNat 0 τ (by omega) ⟨?_, fun i x hx => ?_, fun x a b c => ?_⟩ (fun k i a b c => ?_)
    · rw [f2 _ _ (by decide), fs_u_eq]; rfl
    · cases hx
    · have := ky_r a b
      exact f1 _ this.1 (by omega)
    · rw [f2 k i (by omega), fs_u_ne _ (by omega)]
  · refine fr_vret dX5_refresh_7 rfl ?_
    exact ⟨rfl, hv (by omega), by omega, fun _ _ _ _ _ => rfl⟩
def lm (f : Int) : Int := if f = 3 then 3 else 7
theorem st_lm {f : Int} (h : 0 ≤ f ∧ f < 4) : ([7, 7, 7, 3] : List Int).getD f.toNat 0 = lm f := by
  rcases (by omega : f = 0 ∨ f = 1 ∨ f = 2 ∨ f = 3) with rfl | rfl | rfl | rfl <;> decide
theorem ky_len {c f : Int} (hc : 0 ≤ c ∧ c < 1029) (h : 0 ≤ f ∧ f < 4) : fi_and (fi_shr (ky c) (sh f)) (lm f) = cl c f := by
  obtain ⟨-, d0, d1, d2, d3⟩ := cl_code hc.1 hc.2
  have kr := ky_r hc.1 hc.2
  have e7 : ∀ x : Nat, x &&& 7 = x % 8 := fun x => Nat.and_two_pow_sub_one_eq_mod x 3
  have e3 : ∀ x : Nat, x &&& 3 = x % 4 := fun x => Nat.and_two_pow_sub_one_eq_mod x 2
  have ek : ky c = (((ky c).toNat : Nat) : Int) := by omega
  have eu : ky c = 256 * cl c 0 + 32 * cl c 1 + 4 * cl c 2 + cl c 3 := rfl
  rcases (by omega : f = 0 ∨ f = 1 ∨ f = 2 ∨ f = 3) with rfl | rfl | rfl | rfl
  · rw [ek, show sh 0 = ((8 : Nat) : Int) from rfl, show lm 0 = ((7 : Nat) : Int) from rfl, fm_shr (by omega) (by decide), fm_and (by omega) (by decide), e7]; omega
  · rw [ek, show sh 1 = ((5 : Nat) : Int) from rfl, show lm 1 = ((7 : Nat) : Int) from rfl, fm_shr (by omega) (by decide), fm_and (by omega) (by decide), e7]; omega
  · rw [ek, show sh 2 = ((2 : Nat) : Int) from rfl, show lm 2 = ((7 : Nat) : Int) from rfl, fm_shr (by omega) (by decide), fm_and (by omega) (by decide), e7]; omega
  · rw [ek, show sh 3 = ((0 : Nat) : Int) from rfl, show lm 3 = ((3 : Nat) : Int) from rfl, fm_shr (by omega) (by decide), fm_and (by omega) (by decide), e3]; omega
set_option maxRecDepth 100000 in
set_option maxHeartbeats 3000000 in
theorem cK_lengthIn {σ : fs_S} {i c f : Int} (hi : 0 ≤ i ∧ i < 1029) (hc : 0 ≤ c ∧ c < 1029) (hf : 0 ≤ f ∧ f < 4) (hk : σ 66 i = ky c) : fs_C mX5_lengthIn 0 [.inr 62, .inl i, .inl f] σ (fun x τ => x = some (cl c f) ∧ τ = σ) := by
  refine fs_C.intro [some (.inr 62), some (.inl i), some (.inl f)] fs_oX5_lengthIn (Nat.le_of_ble_eq_true rfl) rfl ?_
  refine fr_aload_n 1 dX5_lengthIn_0 rfl rfl ?_
  refine fr_getr 4 66 dX5_lengthIn_1 rfl fs_kX5_29 fs_l62 rfl ?_
  refine fr_iload_n 5 dX5_lengthIn_4 rfl rfl ?_
  refine fr_iald 6 dX5_lengthIn_5 rfl fs_l66 (by omega) ?_
  refine fr_top hk ?_
  refine fr_gets 9 3 dX5_lengthIn_6 rfl rfl rfl fs_kX5_53 ?_
  refine fr_iload_n 10 dX5_lengthIn_9 rfl rfl ?_
  refine fr_ialdS 11 3 dX5_lengthIn_10 rfl rfl rfl (by decide) (by omega) (st_sh hf) ?_
  refine fr_ishr 12 dX5_lengthIn_11 rfl ?_
  refine fr_gets 15 4 dX5_lengthIn_12 rfl rfl rfl fs_kX5_56 ?_
  refine fr_iload_n 16 dX5_lengthIn_15 rfl rfl ?_
  refine fr_ialdS 17 4 dX5_lengthIn_16 rfl rfl rfl (by decide) (by omega) (st_lm hf) ?_
  refine fr_iand 18 dX5_lengthIn_17 rfl ?_
  refine fr_top (ky_len hc hf) ?_
  refine fr_iret dX5_lengthIn_18 rfl ?_
  exact ⟨rfl, rfl⟩
