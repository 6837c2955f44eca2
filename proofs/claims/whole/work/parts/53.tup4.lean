/-! ===== the class: Tuples, a packet's search ===== -/
theorem sm_perm {t : rt} (hn : 0 ≤ tn t) (g : Int → Int) : sm (fun p => g (tod t p)) (tn t).toNat = sm g (tn t).toNat := by
  have e1 : sm (fun p => g (tod t p)) (tn t).toNat = sm (fun p => sm (fun r => if r = tod t p then g r else 0) (tn t).toNat) (tn t).toNat := by
    refine sm_congr (fun p a b => ?_)
    have tr := tod_r (t := t) a (by omega)
    rw [sm_congr (h := fun r => if r = tod t p then g (tod t p) else 0) (fun r c d => by by_cases z : r = tod t p; rw [if_pos z, if_pos z, z]; rw [if_neg z, if_neg z]), sm_one tr.1 (by omega)]
  have e2 : sm g (tn t).toNat = sm (fun r => sm (fun p => if r = tod t p then g r else 0) (tn t).toNat) (tn t).toNat := by
    refine sm_congr (fun r a b => ?_)
    have pr := tpl_r (t := t) a (by omega)
    rw [sm_congr (h := fun p => if p = tpl t r then g r else 0) (fun p c d => by
      have z1 := tod_r (t := t) c (by omega)
      have z2 := tod_pl (t := t) a (by omega)
      by_cases z : p = tpl t r
      · rw [if_pos z, if_pos (by rw [z, z2])]
      · rw [if_neg z, if_neg (fun y => z (by rw [y, z1.2.2]))]), sm_one pr.1 (by omega)]
  rw [e1, e2, sm_swap]
theorem EN_all {t : rt} (hw : twf t) {x : Int} (h : 0 ≤ x) : EN t (tn t).toNat 0 x = smI (fun r => eo t r x) (tn t) := by
  unfold EN
  rw [if_neg (by omega), Int.add_zero]
  exact sm_perm hw.1.1 (fun r => eo t r x)
theorem MN_all {t : rt} (hw : twf t) {x : Int} (h : 0 ≤ x) : MN t (tn t).toNat 0 x = pop (mb t x) := by
  have hn := hw.1
  unfold MN
  rw [if_neg (by omega), Int.add_zero, pop_pcN, show 16 = (tn t).toNat + (16 - (tn t).toNat) by omega, pcN_up (fun i z => by have := mb_bit z; omega)]
  unfold pcN
  refine sm_congr (fun i a b => ?_)
  unfold mb
  rw [bm_bit, decide_eq_true (by omega), Bool.true_and, Int.toNat_of_nonneg a]
theorem TVc.at {σ : fs_S} {t : rt} (hw : twf t) (h : TVc σ t) : σ 62 1 = ((TL t).length : Int) ∧ ∀ (i : Nat) (x : Int × Int), (TL t)[i]? = some x → σ 66 (i : Int) = ky x.1 ∧ σ 64 (i : Int) = x.2 ∧ σ 63 (i : Int) = smI (fun r => eo t r x.1) (tn t) ∧ σ 65 (i : Int) = pop (mb t x.1) := by
  have e : TLp t (tn t).toNat 0 = TL t := List.append_nil _
  unfold TVc TS at h
  rw [e] at h
  refine ⟨h.1, fun i x hx => ?_⟩
  obtain ⟨q1, q2, q3, q4, -⟩ := h.2.1 i x hx
  have m := lsK_mem (List.mem_of_getElem? hx)
  exact ⟨q1, q2, by rw [q3, EN_all hw m.1.1], by rw [q4, MN_all hw m.1.1]⟩
/-! a packet's key in a rule -/
def Rl (t : rt) (r : Int) (x : Int → Int) (f : Int) : Nat := loF (wN f) (tH t r f) (x f).toNat 65 (tL t r f)
def cdX (t : rt) (r : Int) (x : Int → Int) : Int := cdO t r (x 0) (x 1) (x 2) (x 3)
theorem cdX_cl (t : rt) (r : Int) (x : Int → Int) : (0 ≤ cdX t r x ∧ cdX t r x < 1029) ∧ ∀ f, 0 ≤ f → f < 4 → cl (cdX t r x) f = ((Rl t r x f : Nat) : Int) := by
  have l0 : Rl t r x 0 ≤ 6 := loF_le _ _ _ _ _
  have l1 : Rl t r x 1 ≤ 6 := loF_le _ _ _ _ _
  have l2 : Rl t r x 2 ≤ 6 := loF_le _ _ _ _ _
  have l3 : Rl t r x 3 ≤ 2 := loF_le _ _ _ _ _
  have e : cdX t r x = 147 * (6 - ((Rl t r x 0 : Nat) : Int)) + 21 * (6 - ((Rl t r x 1 : Nat) : Int)) + 3 * (6 - ((Rl t r x 2 : Nat) : Int)) + 2 - ((Rl t r x 3 : Nat) : Int) := rfl
  refine ⟨by omega, fun f a b => ?_⟩
  rcases (by omega : f = 0 ∨ f = 1 ∨ f = 2 ∨ f = 3) with rfl | rfl | rfl | rfl
  · rw [cl0, e]; omega
  · rw [cl1, e]; omega
  · rw [cl2, e]; omega
  · rw [cl3, e]; omega
def fitX (t : rt) (r : Int) (x : Int → Int) : Prop := ∀ f, 0 ≤ f → f < 4 → tlo t r f ≤ x f ∧ x f ≤ thi t r f
set_option maxRecDepth 100000 in
set_option maxHeartbeats 3000000 in
theorem cK_packetKey {σ : fs_S} {t : rt} {r : Int} {x : Int → Int} (hw : twf t) (hR : RC 27 σ t) (hr : 0 ≤ r ∧ r < tn t) (hx : ∀ f, 0 ≤ f → f < 4 → 0 ≤ x f ∧ x f ≤ gr f) (hX : ∀ f, 0 ≤ f → f < 4 → σ 82 f = x f) : fs_C mX5_packetKey 1 [.inr 62, .inl r, .inr 82] σ (fun y τ => (∃ v, y = some v ∧ (fitX t r x → v = ky (cdX t r x)) ∧ (¬ fitX t r x → v = -1)) ∧ τ = σ) := by
  refine fs_C.intro [some (.inr 62), some (.inl r), some (.inr 82), none, none] fs_oX5_packetKey (Nat.le_of_ble_eq_true rfl) rfl ?_
  obtain ⟨cr, cc⟩ := cdX_cl t r x
  have key : ∀ (m : Nat) (f : Int), 0 ≤ f → f + (m : Int) = 4 → (∀ g, 0 ≤ g → g < f → tlo t r g ≤ x g ∧ x g ≤ thi t r g) → fs_W (fs_Γ 1 (fun y τ => (∃ v, y = some v ∧ (fitX t r x → v = ky (cdX t r x)) ∧ (¬ fitX t r x → v = -1)) ∧ τ = σ)) mX5_packetKey 5 [some (.inr 62), some (.inl r), some (.inr 82), some (.inl (kp (cdX t r x) f)), some (.inl f)] [] σ := by
    intro m
    induction m with
    | zero =>
      intro f h0 h1 h2
      have ef : f = 4 := by omega
      subst ef
      have ek : kp (cdX t r x) 4 = ky (cdX t r x) := by unfold kp ky; simp
      refine fr_iload 7 dX5_packetKey_5 rfl rfl ?_
      refine fr_iconst 8 dX5_packetKey_7 rfl ?_
      refine fr_icmp_ge 60 11 dX5_packetKey_8 rfl rfl (by omega) (by omega) (fun h8 => ?_) (fun h8 => ?_)
      · refine fr_iload_n 61 dX5_packetKey_60 rfl rfl ?_
        refine fr_iret dX5_packetKey_61 rfl ?_
        exact ⟨⟨_, rfl, fun _ => ek, fun z => absurd (fun g a b => h2 g a b) z⟩, rfl⟩
      · omega
    | succ m ih =>
      intro f h0 h1 h2
      have hf : 0 ≤ f ∧ f < 4 := by omega
      have xf := hx f hf.1 hf.2
      have gf := gr_r f
      have eX := hX f hf.1 hf.2
      have ct := cK_takes (v := x f) hw hR hr hf ⟨by omega, by omega⟩
      by_cases z : tlo t r f ≤ x f ∧ x f ≤ thi t r f
      · rw [if_pos z] at ct
        have tw := hw.2.1 r f hr.1 hr.2 hf.1 hf.2
        have hl : tL t r f = (tlo t r f).toNat := rfl
        have hh : tH t r f = (thi t r f).toNat := rfl
        have pl : IsPL (wN f) (tL t r f) (tH t r f) (x f).toNat (Rl t r x f) := loF_PL (by omega) 65 _ (noS_lo _ _ _) (Nat.le_refl _) (by omega) (by omega)
        have cp := cK_prefixLength hw hR hr hf (by omega) pl
        rw [Int.toNat_of_nonneg xf.1] at cp
        have rl : Rl t r x f ≤ wN f := loF_le _ _ _ _ _
        have kn : fi_or (kp (cdX t r x) f) (fi_shl ((Rl t r x f : Nat) : Int) (sh f)) = kp (cdX t r x) (f + 1) := by rw [kp_or cr hf ⟨by omega, by omega⟩, kp_s _ hf, cc f hf.1 hf.2]
        refine fr_iload 7 dX5_packetKey_5 rfl rfl ?_
        refine fr_iconst 8 dX5_packetKey_7 rfl ?_
        refine fr_icmp_ge 60 11 dX5_packetKey_8 rfl rfl (by omega) (by omega) (fun h8 => ?_) (fun h8 => ?_)
        · omega
        · refine fr_aload_n 12 dX5_packetKey_11 rfl rfl ?_
          refine fr_getr 15 27 dX5_packetKey_12 rfl fs_kX5_49 fs_l62 rfl ?_
          refine fr_iload_n 16 dX5_packetKey_15 rfl rfl ?_
          refine fr_iload 18 dX5_packetKey_16 rfl rfl ?_
          refine fr_aload_n 19 dX5_packetKey_18 rfl rfl ?_
          refine fr_iload 21 dX5_packetKey_19 rfl rfl ?_
          refine fr_iald 22 dX5_packetKey_21 rfl fs_l82 (by omega) ?_
          refine fr_top eX ?_
          refine fr_callVi 25 (M2 := mX3_takes) [_, _, _] dX5_packetKey_22 rfl fs_mX5_98 fs_oX3_takes fs_iX3_takes fs_l27 rfl rfl (fs_Γ_rm (d := 0) (by decide)) (Nat.le_of_ble_eq_true rfl) rfl ?_
          refine ct.ci ?_
          refine fr_if_ne 30 28 dX5_packetKey_25 rfl rfl (by omega) (fun h25 => ?_) (fun h25 => ?_)
          · refine fr_iload_n 31 dX5_packetKey_30 rfl rfl ?_
            refine fr_aload_n 32 dX5_packetKey_31 rfl rfl ?_
            refine fr_getr 35 27 dX5_packetKey_32 rfl fs_kX5_49 fs_l62 rfl ?_
            refine fr_iload_n 36 dX5_packetKey_35 rfl rfl ?_
            refine fr_iload 38 dX5_packetKey_36 rfl rfl ?_
            refine fr_aload_n 39 dX5_packetKey_38 rfl rfl ?_
            refine fr_iload 41 dX5_packetKey_39 rfl rfl ?_
            refine fr_iald 42 dX5_packetKey_41 rfl fs_l82 (by omega) ?_
            refine fr_top eX ?_
            refine fr_callVi 45 (M2 := mX3_prefixLength) [_, _, _] dX5_packetKey_42 rfl fs_mX5_102 fs_oX3_prefixLength fs_iX3_prefixLength fs_l27 rfl rfl (fs_Γ_rm (d := 0) (by decide)) (Nat.le_of_ble_eq_true rfl) rfl ?_
            refine cp.ci ?_
            refine fr_gets 48 3 dX5_packetKey_45 rfl rfl rfl fs_kX5_53 ?_
            refine fr_iload 50 dX5_packetKey_48 rfl rfl ?_
            refine fr_ialdS 51 3 dX5_packetKey_50 rfl rfl rfl (by decide) (by omega) (st_sh hf) ?_
            refine fr_ishl 52 dX5_packetKey_51 rfl ?_
            refine fr_ior 53 dX5_packetKey_52 rfl ?_
            refine fr_top kn ?_
            refine fr_istore_n 54 [_, _, _, _, _] dX5_packetKey_53 rfl (Nat.le_of_ble_eq_true rfl) rfl ?_
            refine fr_iinc 57 [_, _, _, _, _] dX5_packetKey_54 rfl rfl rfl ?_
            refine fr_goto 5 dX5_packetKey_57 rfl ?_
            exact ih (f + 1) (by omega) (by omega) (fun g a b => by by_cases y : g = f; rw [y]; exact z; exact h2 g a (by omega))
          · exact absurd h25 (by decide)
      · rw [if_neg z] at ct
        refine fr_iload 7 dX5_packetKey_5 rfl rfl ?_
        refine fr_iconst 8 dX5_packetKey_7 rfl ?_
        refine fr_icmp_ge 60 11 dX5_packetKey_8 rfl rfl (by omega) (by omega) (fun h8 => ?_) (fun h8 => ?_)
        · omega
        · refine fr_aload_n 12 dX5_packetKey_11 rfl rfl ?_
          refine fr_getr 15 27 dX5_packetKey_12 rfl fs_kX5_49 fs_l62 rfl ?_
          refine fr_iload_n 16 dX5_packetKey_15 rfl rfl ?_
          refine fr_iload 18 dX5_packetKey_16 rfl rfl ?_
          refine fr_aload_n 19 dX5_packetKey_18 rfl rfl ?_
          refine fr_iload 21 dX5_packetKey_19 rfl rfl ?_
          refine fr_iald 22 dX5_packetKey_21 rfl fs_l82 (by omega) ?_
          refine fr_top eX ?_
          refine fr_callVi 25 (M2 := mX3_takes) [_, _, _] dX5_packetKey_22 rfl fs_mX5_98 fs_oX3_takes fs_iX3_takes fs_l27 rfl rfl (fs_Γ_rm (d := 0) (by decide)) (Nat.le_of_ble_eq_true rfl) rfl ?_
          refine ct.ci ?_
          refine fr_if_ne 30 28 dX5_packetKey_25 rfl rfl (by omega) (fun h25 => ?_) (fun h25 => ?_)
          · exact absurd rfl h25
          · refine fr_iconst 29 dX5_packetKey_28 rfl ?_
            refine fr_iret dX5_packetKey_29 rfl ?_
            exact ⟨⟨_, rfl, fun y => absurd (y f hf.1 hf.2) z, fun _ => rfl⟩, rfl⟩
  refine fr_iconst 1 dX5_packetKey_0 rfl ?_
  refine fr_istore_n 2 [_, _, _, _, _] dX5_packetKey_1 rfl (Nat.le_of_ble_eq_true rfl) rfl ?_
  refine fr_iconst 3 dX5_packetKey_2 rfl ?_
  refine fr_istore 5 [_, _, _, _, _] dX5_packetKey_3 rfl (Nat.le_of_ble_eq_true rfl) rfl ?_
  exact key 4 0 (by omega) (by omega) (fun g a b => by omega)
set_option maxRecDepth 100000 in
set_option maxHeartbeats 3000000 in
theorem cK_firstWithKey {σ : fs_S} {t : rt} {k : Int} (hn : 0 ≤ tn t ∧ tn t ≤ 16) (hm : σ 27 0 = tn t) (hk : rg k) (hK : ∀ p, 0 ≤ p → p < tn t → rg (σ 69 p)) : fs_C mX5_firstWithKey 0 [.inr 62, .inl k] σ (fun y τ => y = some (if lea (fun p => decide (σ 69 p = k)) (tn t) = tn t then -1 else lea (fun p => decide (σ 69 p = k)) (tn t)) ∧ τ = σ) := by
  refine fs_C.intro [some (.inr 62), some (.inl k), none] fs_oX5_firstWithKey (Nat.le_of_ble_eq_true rfl) rfl ?_
  have key : ∀ (m : Nat) (p : Int), 0 ≤ p → p + (m : Int) = tn t → (∀ q, 0 ≤ q → q < p → σ 69 q ≠ k) → fs_W (fs_Γ 0 (fun y τ => y = some (if lea (fun p => decide (σ 69 p = k)) (tn t) = tn t then -1 else lea (fun p => decide (σ 69 p = k)) (tn t)) ∧ τ = σ)) mX5_firstWithKey 2 [some (.inr 62), some (.inl k), some (.inl p)] [] σ := by
    intro m
    induction m with
    | zero =>
      intro p h0 h1 h2
      refine fr_iload_n 3 dX5_firstWithKey_2 rfl rfl ?_
      refine fr_aload_n 4 dX5_firstWithKey_3 rfl rfl ?_
      refine fr_getr 7 27 dX5_firstWithKey_4 rfl fs_kX5_49 fs_l62 rfl ?_
      refine fr_geti 10 0 dX5_firstWithKey_7 rfl fs_kX5_65 rfl fs_l27 rfl ?_
      refine fr_top hm ?_
      refine fr_icmp_ge 31 13 dX5_firstWithKey_10 rfl rfl (by omega) (by omega) (fun h10 => ?_) (fun h10 => ?_)
      · refine fr_iconst 32 dX5_firstWithKey_31 rfl ?_
        refine fr_iret dX5_firstWithKey_32 rfl ?_
        exact ⟨congrArg some (if_pos (lea_no hn.1 (fun j a b => decide_eq_false (h2 j a (by omega))))).symm, rfl⟩
      · omega
    | succ m ih =>
      intro p h0 h1 h2
      have rk := hK p h0 (by omega)
      refine fr_iload_n 3 dX5_firstWithKey_2 rfl rfl ?_
      refine fr_aload_n 4 dX5_firstWithKey_3 rfl rfl ?_
      refine fr_getr 7 27 dX5_firstWithKey_4 rfl fs_kX5_49 fs_l62 rfl ?_
      refine fr_geti 10 0 dX5_firstWithKey_7 rfl fs_kX5_65 rfl fs_l27 rfl ?_
      refine fr_top hm ?_
      refine fr_icmp_ge 31 13 dX5_firstWithKey_10 rfl rfl (by omega) (by omega) (fun h10 => ?_) (fun h10 => ?_)
      · omega
      · refine fr_aload_n 14 dX5_firstWithKey_13 rfl rfl ?_
        refine fr_getr 17 69 dX5_firstWithKey_14 rfl fs_kX5_46 fs_l62 rfl ?_
        refine fr_iload_n 18 dX5_firstWithKey_17 rfl rfl ?_
        refine fr_iald 19 dX5_firstWithKey_18 rfl fs_l69 (by omega) ?_
        refine fr_iload_n 20 dX5_firstWithKey_19 rfl rfl ?_
        refine fr_icmp_ne 25 23 dX5_firstWithKey_20 rfl rfl rk hk (fun h20 => ?_) (fun h20 => ?_)
        · refine fr_iinc 28 [_, _, _] dX5_firstWithKey_25 rfl rfl rfl ?_
          refine fr_goto 2 dX5_firstWithKey_28 rfl ?_
          exact ih (p + 1) (by omega) (by omega) (fun q a b => by by_cases y : q = p; rw [y]; exact h20; exact h2 q a (by omega))
        · refine fr_iload_n 24 dX5_firstWithKey_23 rfl rfl ?_
          refine fr_iret dX5_firstWithKey_24 rfl ?_
          have e := lea_at (P := fun p => decide (σ 69 p = k)) (n := tn t) h0 (by omega) (decide_eq_true (by omega)) (fun j a b => decide_eq_false (h2 j a b))
          exact ⟨congrArg some (by rw [e, if_neg (by omega)]), rfl⟩
  refine fr_iconst 1 dX5_firstWithKey_0 rfl ?_
  refine fr_istore_n 2 [_, _, _] dX5_firstWithKey_1 rfl (Nat.le_of_ble_eq_true rfl) rfl ?_
  exact key (tn t).toNat 0 (by omega) (by omega) (fun q a b => by omega)
