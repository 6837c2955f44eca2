/-! ===== the class: Parts ===== -/
theorem bmx_t {P : Int → Bool} {k : Int} (h0 : 0 ≤ k) (h1 : k < 31) (hP : P k = true) : fi_xor ((bm P k.toNat : Nat) : Int) (fi_shl 1 k) = ((bm P (k + 1).toNat : Nat) : Int) := by
  obtain ⟨n, rfl⟩ := Int.eq_ofNat_of_zero_le h0
  have hn : n < 31 := by omega
  have hl : bm P n < 2147483648 := Nat.lt_of_lt_of_le (bm_lt P n) (by have : 2 ^ n ≤ 2 ^ 31 := Nat.pow_le_pow_right (by decide) (by omega); exact this)
  have h2 : 2 ^ n < 2147483648 := by
    have : 2 ^ n ≤ 2 ^ 30 := Nat.pow_le_pow_right (by decide) (by omega)
    omega
  rw [fm_shl1 n hn, show ((n : Int) + 1).toNat = n + 1 by omega, show (n : Int).toNat = n by omega, fm_xor hl h2]
  congr 1
  apply Nat.eq_of_testBit_eq
  intro i
  rw [Nat.testBit_xor, bm_bit, bm_bit, Nat.testBit_two_pow]
  by_cases e : n = i
  · subst e
    simp [hP]
  · by_cases e2 : i < n
    · simp [e, e2, show i < n + 1 by omega]
    · simp [e, e2, show ¬ i < n + 1 by omega]
theorem bmx_f {P : Int → Bool} {k : Int} (h0 : 0 ≤ k) (hP : P k = false) : bm P (k + 1).toNat = bm P k.toNat := by
  obtain ⟨n, rfl⟩ := Int.eq_ofNat_of_zero_le h0
  rw [show ((n : Int) + 1).toNat = n + 1 by omega, show (n : Int).toNat = n by omega]
  show bm P n + (if P (n : Int) then 2 ^ n else 0) = _
  rw [if_neg (by rw [hP]; decide), Nat.add_zero]
def dP (t : rt) (f v q : Int) : Bool := decide (tlo t (tod t q) f = v ∨ thi t (tod t q) f + 1 = v)
theorem dP_0 {t : rt} (hw : twf t) {f : Int} (hf : 0 ≤ f ∧ f < 4) : bm (dP t f 0) (tn t).toNat = tkm t f 0 0 := by
  refine bm_congr (fun q a b => ?_)
  have ho := tod_r (t := t) a (by omega)
  have := hw.2.1 _ f ho.1 ho.2.1 hf.1 hf.2
  unfold dP tkP
  rw [decide_eq_decide]
  omega
theorem dP_s {t : rt} (hw : twf t) {f v : Int} (hf : 0 ≤ f ∧ f < 4) : bm (dP t f v) (tn t).toNat ^^^ tkm t f (v - 1) (v - 1) = tkm t f v v := by
  unfold tkm
  rw [bm_xor]
  refine bm_congr (fun q a b => ?_)
  have ho := tod_r (t := t) a (by omega)
  have := hw.2.1 _ f ho.1 ho.2.1 hf.1 hf.2
  unfold dP tkP
  generalize tlo t (tod t q) f = x at *
  generalize thi t (tod t q) f = y at *
  by_cases h1 : x = v ∨ y + 1 = v
  · by_cases h2 : x ≤ v - 1 ∧ v - 1 ≤ y
    · rw [decide_eq_true h1, decide_eq_true h2, decide_eq_false (by omega)]; rfl
    · rw [decide_eq_true h1, decide_eq_false h2, decide_eq_true (by omega)]; rfl
  · by_cases h2 : x ≤ v - 1 ∧ v - 1 ≤ y
    · rw [decide_eq_false h1, decide_eq_true h2, decide_eq_true (by omega)]; rfl
    · rw [decide_eq_false h1, decide_eq_false h2, decide_eq_false (by omega)]; rfl
def Q_fn (t : rt) (f : Int) (σ : fs_S) : fs_Q := fun x τ => x = none ∧ (∀ v, 0 ≤ v → v ≤ gr f → τ (44 + f) (gr f + 1 + v) = ((tkm t f v v : Nat) : Int)) ∧ (∀ k i, ¬ (k = 44 + f ∧ gr f + 1 ≤ i) → τ k i = σ k i)
set_option maxRecDepth 100000 in
set_option maxHeartbeats 3000000 in
theorem cK_fillNumbers {σ : fs_S} {t : rt} {f : Int} (hw : twf t) (hR : RC 27 σ t) (hO : OC σ t) (hf : 0 ≤ f ∧ f < 4) : fs_C mX2_fillNumbers 0 [.inr 42, .inr (44 + f), .inl f] σ (Q_fn t f σ) := by
  refine fs_C.intro [some (.inr 42), some (.inr (44 + f)), some (.inl f), none, none, none, none] fs_oX2_fillNumbers (Nat.le_of_ble_eq_true rfl) rfl ?_
  have hn := hw.1
  have hg := gr_r f
  have k3 : ∀ (m : Nat) (v : Int) (τ : fs_S) (y z : Option fs_V), 1 ≤ v → v ≤ gr f + 1 → gr f + 1 - v < m → (∀ u, 0 ≤ u → u < v → τ (44 + f) (gr f + 1 + u) = ((tkm t f u u : Nat) : Int)) → (∀ u, v ≤ u → u ≤ gr f → τ (44 + f) (gr f + 1 + u) = ((bm (dP t f u) (tn t).toNat : Nat) : Int)) → (∀ k i, ¬ (k = 44 + f ∧ gr f + 1 ≤ i) → τ k i = σ k i) →
      fs_W (fs_Γ 0 (Q_fn t f σ)) mX2_fillNumbers 132 [some (.inr 42), some (.inr (44 + f)), some (.inl f), some (.inl (gr f + 1)), some (.inl v), y, z] [] τ := by
    intro m
    induction m with
    | zero => intro v τ y z h0 h1 h2; omega
    | succ m ih =>
      intro v τ y z h0 h1 h2 hA hB hF
      refine fr_iload 134 dX2_fillNumbers_132 rfl rfl ?_
      refine fr_getsN 137 0 dX2_fillNumbers_134 rfl rfl rfl fs_nX2_24 ?_
      refine fr_iload_n 138 dX2_fillNumbers_137 rfl rfl ?_
      refine fr_ialdS 139 0 dX2_fillNumbers_138 rfl rfl rfl (by decide) hf (st_gr hf) ?_
      refine fr_icmp_gt 165 142 dX2_fillNumbers_139 rfl rfl (by omega) (by omega) (fun h139 => ?_) (fun h139 => ?_)
      · refine fr_vret dX2_fillNumbers_165 rfl ?_
        exact ⟨rfl, fun u a b => hA u a (by omega), hF⟩
      · refine fr_aload_n 143 dX2_fillNumbers_142 rfl rfl ?_
        refine fr_iload_n 144 dX2_fillNumbers_143 rfl rfl ?_
        refine fr_iload 146 dX2_fillNumbers_144 rfl rfl ?_
        refine fr_iadd 147 dX2_fillNumbers_146 rfl ?_
        refine fr_dup2 148 dX2_fillNumbers_147 rfl ?_
        refine fr_iald 149 dX2_fillNumbers_148 rfl (fs_f44 _ (by omega)) (by omega) ?_
        refine fr_aload_n 150 dX2_fillNumbers_149 rfl rfl ?_
        refine fr_iload_n 151 dX2_fillNumbers_150 rfl rfl ?_
        refine fr_iload 153 dX2_fillNumbers_151 rfl rfl ?_
        refine fr_iadd 154 dX2_fillNumbers_153 rfl ?_
        refine fr_iconst 155 dX2_fillNumbers_154 rfl ?_
        refine fr_isub 156 dX2_fillNumbers_155 rfl ?_
        refine fr_iald 157 dX2_fillNumbers_156 rfl (fs_f44 _ (by omega)) (by omega) ?_
        refine fr_ixor 158 dX2_fillNumbers_157 rfl ?_
        refine fr_top (y := ((tkm t f v v : Nat) : Int)) (by
          have e1 := hB v (by omega) (by omega)
          have e2 := hA (v - 1) (by omega) (by omega)
          rw [show gr f + 1 + v - 1 = gr f + 1 + (v - 1) by omega, e1, e2, fm_xor (by have := bm_pow (dP t f v) (n := (tn t).toNat) (by omega); omega) (by have := tkm_lt hw f (v - 1) (v - 1); omega), dP_s hw hf]) ?_
        refine fr_iast 159 dX2_fillNumbers_158 rfl (fs_f44 _ (by omega)) (by omega) ?_
        refine fr_iinc 162 [_, _, _, _, _, _, _] dX2_fillNumbers_159 rfl rfl rfl ?_
        refine fr_goto 132 dX2_fillNumbers_162 rfl ?_
        refine ih (v + 1) _ _ _ (by omega) (by omega) (by omega) (fun u a b => ?_) (fun u a b => ?_) (fun k i c => ?_)
        · by_cases e : u = v
          · subst e; exact fs_u_eq _ _ _ _
          · rw [fs_u_i _ (by omega)]; exact hA u a (by omega)
        · rw [fs_u_i _ (by omega)]; exact hB u (by omega) b
        · rw [fs_u_ne _ (by omega)]; exact hF k i c
  have k2 : ∀ (m : Nat) (p : Int) (τ : fs_S) (y z : Option fs_V), 0 ≤ p → p ≤ tn t → tn t - p < m → (∀ u, 0 ≤ u → u ≤ gr f → τ (44 + f) (gr f + 1 + u) = ((bm (dP t f u) p.toNat : Nat) : Int)) → (∀ k i, ¬ (k = 44 + f ∧ gr f + 1 ≤ i) → τ k i = σ k i) →
      fs_W (fs_Γ 0 (Q_fn t f σ)) mX2_fillNumbers 37 [some (.inr 42), some (.inr (44 + f)), some (.inl f), some (.inl (gr f + 1)), some (.inl p), y, z] [] τ := by
    intro m
    induction m with
    | zero => intro p τ y z h0 h1 h2; omega
    | succ m ih =>
      intro p τ y z h0 h1 h2 hA hF
      have q27 : τ 27 0 = tn t := (hF _ _ (by omega)).trans hR.1
      refine fr_iload 39 dX2_fillNumbers_37 rfl rfl ?_
      refine fr_aload_n 40 dX2_fillNumbers_39 rfl rfl ?_
      refine fr_getr 43 27 dX2_fillNumbers_40 rfl fs_kX2_16 fs_l42 rfl ?_
      refine fr_geti 46 0 dX2_fillNumbers_43 rfl fs_kX2_28 rfl fs_l27 rfl ?_
      refine fr_icmp_ge 129 49 dX2_fillNumbers_46 rfl rfl (by omega) (by omega) (fun h46 => ?_) (fun h46 => ?_)
      · refine fr_iconst 130 dX2_fillNumbers_129 rfl ?_
        refine fr_istore 132 [_, _, _, _, _, _, _] dX2_fillNumbers_130 rfl (Nat.le_of_ble_eq_true rfl) rfl ?_
        have e : p = tn t := by omega
        subst e
        refine k3 ((gr f + 1).toNat + 1) 1 τ _ _ (by omega) (by omega) (by omega) (fun u a b => ?_) (fun u a b => hA u (by omega) b) hF
        rw [show u = 0 by omega, ← dP_0 hw hf]
        exact hA 0 (by omega) (by omega)
      · refine fr_aload_n 50 dX2_fillNumbers_49 rfl rfl ?_
        refine fr_getr 53 27 dX2_fillNumbers_50 rfl fs_kX2_16 fs_l42 rfl ?_
        refine fr_getr 56 32 dX2_fillNumbers_53 rfl fs_kX2_34 fs_l27 rfl ?_
        refine fr_iload 58 dX2_fillNumbers_56 rfl rfl ?_
        refine fr_iald 59 dX2_fillNumbers_58 rfl fs_l32 (by omega) ?_
        refine fr_top ((hF 32 p (by omega)).trans (hO.1 p h0 (by omega))) ?_
        have ho := tod_r (t := t) h0 (by omega)
        have q := hw.2.1 _ f ho.1 ho.2.1 hf.1 hf.2
        have el := hR.lh ⟨ho.1, ho.2.1⟩ hf
        refine fr_istore 61 [_, _, _, _, _, _, _] dX2_fillNumbers_59 rfl (Nat.le_of_ble_eq_true rfl) rfl ?_
        refine fr_aload_n 62 dX2_fillNumbers_61 rfl rfl ?_
        refine fr_iload_n 63 dX2_fillNumbers_62 rfl rfl ?_
        refine fr_aload_n 64 dX2_fillNumbers_63 rfl rfl ?_
        refine fr_getr 67 27 dX2_fillNumbers_64 rfl fs_kX2_16 fs_l42 rfl ?_
        refine fr_getr 70 28 dX2_fillNumbers_67 rfl fs_kX2_37 fs_l27 rfl ?_
        refine fr_iload_n 71 dX2_fillNumbers_70 rfl rfl ?_
        refine fr_aald 72 dX2_fillNumbers_71 rfl fs_l28 (by omega) ?_
        refine fr_iload 74 dX2_fillNumbers_72 rfl rfl ?_
        refine fr_iald 75 dX2_fillNumbers_74 rfl (fs_f34 _ (by omega)) (by omega) ?_
        refine fr_top ((hF _ _ (by omega)).trans el.1) ?_
        refine fr_iadd 76 dX2_fillNumbers_75 rfl ?_
        refine fr_dup2 77 dX2_fillNumbers_76 rfl ?_
        refine fr_iald 78 dX2_fillNumbers_77 rfl (fs_f44 _ (by omega)) (by omega) ?_
        refine fr_iconst 79 dX2_fillNumbers_78 rfl ?_
        refine fr_iload 81 dX2_fillNumbers_79 rfl rfl ?_
        refine fr_ishl 82 dX2_fillNumbers_81 rfl ?_
        refine fr_ixor 83 dX2_fillNumbers_82 rfl ?_
        refine fr_top (y := ((bm (dP t f (tlo t (tod t p) f)) (p + 1).toNat : Nat) : Int)) (by
          rw [hA _ (by omega) (by omega)]
          exact bmx_t h0 (by omega) (decide_eq_true (Or.inl rfl))) ?_
        refine fr_iast 84 dX2_fillNumbers_83 rfl (fs_f44 _ (by omega)) (by omega) ?_
        refine fr_aload_n 85 dX2_fillNumbers_84 rfl rfl ?_
        refine fr_getr 88 27 dX2_fillNumbers_85 rfl fs_kX2_16 fs_l42 rfl ?_
        refine fr_getr 91 29 dX2_fillNumbers_88 rfl fs_kX2_40 fs_l27 rfl ?_
        refine fr_iload_n 92 dX2_fillNumbers_91 rfl rfl ?_
        refine fr_aald 93 dX2_fillNumbers_92 rfl fs_l29 (by omega) ?_
        refine fr_iload 95 dX2_fillNumbers_93 rfl rfl ?_
        refine fr_iald 96 dX2_fillNumbers_95 rfl (fs_f38 _ (by omega)) (by omega) ?_
        refine fr_top ((fs_u_k _ _ (by omega)).trans ((hF _ _ (by omega)).trans el.2)) ?_
        refine fr_iconst 97 dX2_fillNumbers_96 rfl ?_
        refine fr_iadd 98 dX2_fillNumbers_97 rfl ?_
        refine fr_istore 100 [_, _, _, _, _, _, _] dX2_fillNumbers_98 rfl (Nat.le_of_ble_eq_true rfl) rfl ?_
        refine fr_iload 102 dX2_fillNumbers_100 rfl rfl ?_
        refine fr_getsN 105 0 dX2_fillNumbers_102 rfl rfl rfl fs_nX2_24 ?_
        refine fr_iload_n 106 dX2_fillNumbers_105 rfl rfl ?_
        refine fr_ialdS 107 0 dX2_fillNumbers_106 rfl rfl rfl (by decide) hf (st_gr hf) ?_
        refine fr_icmp_gt 123 110 dX2_fillNumbers_107 rfl rfl (by omega) (by omega) (fun h107 => ?_) (fun h107 => ?_)
        · refine fr_iinc 126 [_, _, _, _, _, _, _] dX2_fillNumbers_123 rfl rfl rfl ?_
          refine fr_goto 37 dX2_fillNumbers_126 rfl ?_
          refine ih (p + 1) _ _ _ (by omega) (by omega) (by omega) (fun u a b => ?_) (fun k i c => ?_)
          · by_cases e1 : u = thi t (tod t p) f + 1
            · first
              | omega
              | (subst e1; exact fs_u_eq _ _ _ _)
            · by_cases e2 : u = tlo t (tod t p) f
              · subst e2
                first
                | exact fs_u_eq _ _ _ _
                | (rw [fs_u_i _ (by omega)]; exact fs_u_eq _ _ _ _)
              · have eD : bm (dP t f u) (p + 1).toNat = bm (dP t f u) p.toNat := bmx_f h0 (decide_eq_false (by omega))
                rw [eD]
                first
                | (rw [fs_u_i _ (by omega), fs_u_i _ (by omega)]; exact hA u a b)
                | (rw [fs_u_i _ (by omega)]; exact hA u a b)
          · first
            | (rw [fs_u_ne _ (by omega), fs_u_ne _ (by omega)]; exact hF k i c)
            | (rw [fs_u_ne _ (by omega)]; exact hF k i c)
        · refine fr_aload_n 111 dX2_fillNumbers_110 rfl rfl ?_
          refine fr_iload_n 112 dX2_fillNumbers_111 rfl rfl ?_
          refine fr_iload 114 dX2_fillNumbers_112 rfl rfl ?_
          refine fr_iadd 115 dX2_fillNumbers_114 rfl ?_
          refine fr_dup2 116 dX2_fillNumbers_115 rfl ?_
          refine fr_iald 117 dX2_fillNumbers_116 rfl (fs_f44 _ (by omega)) (by omega) ?_
          refine fr_iconst 118 dX2_fillNumbers_117 rfl ?_
          refine fr_iload 120 dX2_fillNumbers_118 rfl rfl ?_
          refine fr_ishl 121 dX2_fillNumbers_120 rfl ?_
          refine fr_ixor 122 dX2_fillNumbers_121 rfl ?_
          refine fr_top (y := ((bm (dP t f (thi t (tod t p) f + 1)) (p + 1).toNat : Nat) : Int)) (by
            rw [fs_u_i _ (by omega), hA _ (by omega) (by omega)]
            exact bmx_t h0 (by omega) (decide_eq_true (Or.inr rfl))) ?_
          refine fr_iast 123 dX2_fillNumbers_122 rfl (fs_f44 _ (by omega)) (by omega) ?_
          refine fr_iinc 126 [_, _, _, _, _, _, _] dX2_fillNumbers_123 rfl rfl rfl ?_
          refine fr_goto 37 dX2_fillNumbers_126 rfl ?_
          refine ih (p + 1) _ _ _ (by omega) (by omega) (by omega) (fun u a b => ?_) (fun k i c => ?_)
          · by_cases e1 : u = thi t (tod t p) f + 1
            · first
              | omega
              | (subst e1; exact fs_u_eq _ _ _ _)
            · by_cases e2 : u = tlo t (tod t p) f
              · subst e2
                first
                | exact fs_u_eq _ _ _ _
                | (rw [fs_u_i _ (by omega)]; exact fs_u_eq _ _ _ _)
              · have eD : bm (dP t f u) (p + 1).toNat = bm (dP t f u) p.toNat := bmx_f h0 (decide_eq_false (by omega))
                rw [eD]
                first
                | (rw [fs_u_i _ (by omega), fs_u_i _ (by omega)]; exact hA u a b)
                | (rw [fs_u_i _ (by omega)]; exact hA u a b)
          · first
            | (rw [fs_u_ne _ (by omega), fs_u_ne _ (by omega)]; exact hF k i c)
            | (rw [fs_u_ne _ (by omega)]; exact hF k i c)
  have k1 : ∀ (m : Nat) (v : Int) (τ : fs_S), 0 ≤ v → v ≤ gr f + 1 → gr f + 1 - v < m → (∀ u, 0 ≤ u → u < v → τ (44 + f) (gr f + 1 + u) = 0) → (∀ k i, ¬ (k = 44 + f ∧ gr f + 1 ≤ i) → τ k i = σ k i) →
      fs_W (fs_Γ 0 (Q_fn t f σ)) mX2_fillNumbers 11 [some (.inr 42), some (.inr (44 + f)), some (.inl f), some (.inl (gr f + 1)), some (.inl v), none, none] [] τ := by
    intro m
    induction m with
    | zero => intro v τ h0 h1 h2; omega
    | succ m ih =>
      intro v τ h0 h1 h2 hA hF
      refine fr_iload 13 dX2_fillNumbers_11 rfl rfl ?_
      refine fr_getsN 16 0 dX2_fillNumbers_13 rfl rfl rfl fs_nX2_24 ?_
      refine fr_iload_n 17 dX2_fillNumbers_16 rfl rfl ?_
      refine fr_ialdS 18 0 dX2_fillNumbers_17 rfl rfl rfl (by decide) hf (st_gr hf) ?_
      refine fr_icmp_gt 34 21 dX2_fillNumbers_18 rfl rfl (by omega) (by omega) (fun h18 => ?_) (fun h18 => ?_)
      · refine fr_iconst 35 dX2_fillNumbers_34 rfl ?_
        refine fr_istore 37 [_, _, _, _, _, _, _] dX2_fillNumbers_35 rfl (Nat.le_of_ble_eq_true rfl) rfl ?_
        exact k2 ((tn t).toNat + 1) 0 τ _ _ (by omega) (by omega) (by omega) (fun u a b => hA u a (by omega)) hF
      · refine fr_aload_n 22 dX2_fillNumbers_21 rfl rfl ?_
        refine fr_iload_n 23 dX2_fillNumbers_22 rfl rfl ?_
        refine fr_iload 25 dX2_fillNumbers_23 rfl rfl ?_
        refine fr_iadd 26 dX2_fillNumbers_25 rfl ?_
        refine fr_iconst 27 dX2_fillNumbers_26 rfl ?_
        refine fr_iast 28 dX2_fillNumbers_27 rfl (fs_f44 _ (by omega)) (by omega) ?_
        refine fr_iinc 31 [_, _, _, _, _, _, _] dX2_fillNumbers_28 rfl rfl rfl ?_
        refine fr_goto 11 dX2_fillNumbers_31 rfl ?_
        refine ih (v + 1) _ (by omega) (by omega) (by omega) (fun u a b => ?_) (fun k i c => ?_)
        · by_cases e : u = v
          · subst e; exact fs_u_eq _ _ _ _
          · rw [fs_u_i _ (by omega)]; exact hA u a (by omega)
        · rw [fs_u_ne _ (by omega)]; exact hF k i c
  refine fr_getsN 3 0 dX2_fillNumbers_0 rfl rfl rfl fs_nX2_24 ?_
  refine fr_iload_n 4 dX2_fillNumbers_3 rfl rfl ?_
  refine fr_ialdS 5 0 dX2_fillNumbers_4 rfl rfl rfl (by decide) hf (st_gr hf) ?_
  refine fr_iconst 6 dX2_fillNumbers_5 rfl ?_
  refine fr_iadd 7 dX2_fillNumbers_6 rfl ?_
  refine fr_istore_n 8 [_, _, _, _, _, _, _] dX2_fillNumbers_7 rfl (Nat.le_of_ble_eq_true rfl) rfl ?_
  refine fr_iconst 9 dX2_fillNumbers_8 rfl ?_
  refine fr_istore 11 [_, _, _, _, _, _, _] dX2_fillNumbers_9 rfl (Nat.le_of_ble_eq_true rfl) rfl ?_
  exact k1 ((gr f + 1).toNat + 1) 0 σ (by omega) (by omega) (by omega) (fun u a b => by omega) (fun _ _ _ => rfl)
/-- every part of every field has its mask -/
def PV (σ : fs_S) (t : rt) : Prop := ∀ (f : Int) (p : Nat), 0 ≤ f → f < 4 → 1 ≤ p → p < 2 ^ (wN f + 1) → σ (44 + f) (p : Int) = ((tkm t f ((ploN (wN f) p : Nat) : Int) ((phiN (wN f) p : Nat) : Int) : Nat) : Int)
theorem PV.eq {σ τ : fs_S} {t : rt} (h : PV σ t) (e : ∀ k i, 44 ≤ k → k < 48 → τ k i = σ k i) : PV τ t := fun f p a b c d => by rw [e _ _ (by omega) (by omega)]; exact h f p a b c d
theorem part_num : ∀ W : Nat, W = 2 ∨ W = 6 → ∀ v : Nat, v < 2 ^ W → ploN W (2 ^ W + v) = v ∧ phiN W (2 ^ W + v) = v := by
  have h6 : ∀ p : Nat, p < 64 → ploN 6 (64 + p) = p ∧ phiN 6 (64 + p) = p := by decide +kernel
  have h2 : ∀ p : Nat, p < 4 → ploN 2 (4 + p) = p ∧ phiN 2 (4 + p) = p := by decide +kernel
  intro W hW p h3
  rcases hW with rfl | rfl
  · exact h2 p h3
  · exact h6 p h3
theorem PV.num {σ : fs_S} {t : rt} (h : PV σ t) {f v : Int} (hf : 0 ≤ f ∧ f < 4) (hv : 0 ≤ v ∧ v ≤ gr f) : σ (44 + f) (gr f + 1 + v) = ((tkm t f v v : Nat) : Int) := by
  have g := gr_wN f
  obtain ⟨n, rfl⟩ := Int.eq_ofNat_of_zero_le hv.1
  have q := part_num (wN f) (wN_r f) n (by omega)
  have e := h f (2 ^ wN f + n) hf.1 hf.2 (by have := Nat.two_pow_pos (wN f); omega) (by rw [Nat.pow_succ]; omega)
  rw [q.1, q.2] at e
  rw [g]
  exact e
theorem tkm_or {t : rt} (hw : twf t) {f : Int} (hf : 0 ≤ f ∧ f < 4) {p : Nat} (h1 : 1 ≤ p) (h2 : p < 2 ^ wN f) : tkm t f ((ploN (wN f) (2 * p) : Nat) : Int) ((phiN (wN f) (2 * p) : Nat) : Int) ||| tkm t f ((ploN (wN f) (2 * p + 1) : Nat) : Int) ((phiN (wN f) (2 * p + 1) : Nat) : Int) = tkm t f ((ploN (wN f) p : Nat) : Int) ((phiN (wN f) p : Nat) : Int) := by
  obtain ⟨⟨a1, a2⟩, ⟨a3, a4⟩, a5⟩ := part_cut (wN f) (wN_r f) p h1 h2
  unfold tkm
  rw [bm_or, a1, a2, a3, a4]
  refine bm_congr (fun q a b => ?_)
  have ho := tod_r (t := t) a (by omega)
  have := hw.2.1 _ f ho.1 ho.2.1 hf.1 hf.2
  unfold tkP
  rw [← Bool.decide_or, decide_eq_decide]
  omega
abbrev frPt (σ τ : fs_S) : Prop := ∀ k i, ¬ (44 ≤ k ∧ k < 48) → τ k i = σ k i
set_option maxRecDepth 100000 in
set_option maxHeartbeats 3000000 in
theorem cK_build {σ : fs_S} {t : rt} (hw : twf t) (hR : RC 27 σ t) (hO : OC σ t) : fs_C mX2_build 1 [.inr 42] σ (fun x τ => x = none ∧ PV τ t ∧ frPt σ τ) := by
  refine fs_C.intro [some (.inr 42), none, none] fs_oX2_build (Nat.le_of_ble_eq_true rfl) rfl ?_
  have hn := hw.1
  have k2 : ∀ (m : Nat) (f : Int) (p : Nat) (τ : fs_S), 0 ≤ f → f < 4 → p < 2 ^ wN f → p < m → (∀ (q : Nat), p + 1 ≤ q → q < 2 ^ (wN f + 1) → τ (44 + f) (q : Int) = ((tkm t f ((ploN (wN f) q : Nat) : Int) ((phiN (wN f) q : Nat) : Int) : Nat) : Int)) → (∀ (g : Int) (q : Nat), 0 ≤ g → g < f → 1 ≤ q → q < 2 ^ (wN g + 1) → τ (44 + g) (q : Int) = ((tkm t g ((ploN (wN g) q : Nat) : Int) ((phiN (wN g) q : Nat) : Int) : Nat) : Int)) → frPt σ τ →
      (∀ τ' : fs_S, (∀ (g : Int) (q : Nat), 0 ≤ g → g < f + 1 → 1 ≤ q → q < 2 ^ (wN g + 1) → τ' (44 + g) (q : Int) = ((tkm t g ((ploN (wN g) q : Nat) : Int) ((phiN (wN g) q : Nat) : Int) : Nat) : Int)) → frPt σ τ' → fs_W (fs_Γ 1 (fun x τ => x = none ∧ PV τ t ∧ frPt σ τ)) mX2_build 66 [some (.inr 42), some (.inl f), some (.inl 0)] [] τ') →
      fs_W (fs_Γ 1 (fun x τ => x = none ∧ PV τ t ∧ frPt σ τ)) mX2_build 24 [some (.inr 42), some (.inl f), some (.inl (p : Int))] [] τ := by
    intro m
    induction m with
    | zero => intro f p τ h0 h1 h2 h3; omega
    | succ m ih =>
      intro f p τ h0 h1 h2 h3 hA hB hF kk
      have hg := gr_r f
      have g := gr_wN f
      refine fr_iload_n 25 dX2_build_24 rfl rfl ?_
      refine fr_iconst 26 dX2_build_25 rfl ?_
      refine fr_icmp_lt 66 29 dX2_build_26 rfl rfl (by omega) (by omega) (fun h26 => ?_) (fun h26 => ?_)
      · have e : p = 0 := by omega
        subst e
        refine kk τ (fun g q a b c d => ?_) hF
        by_cases e : g = f
        · subst e; exact hA q (by omega) d
        · exact hB g q a (by omega) c d
      · refine fr_aload_n 30 dX2_build_29 rfl rfl ?_
        refine fr_getr 33 43 dX2_build_30 rfl fs_kX2_11 fs_l42 rfl ?_
        refine fr_iload_n 34 dX2_build_33 rfl rfl ?_
        refine fr_aald 35 dX2_build_34 rfl fs_l43 (by omega) ?_
        refine fr_iload_n 36 dX2_build_35 rfl rfl ?_
        refine fr_aload_n 37 dX2_build_36 rfl rfl ?_
        refine fr_getr 40 43 dX2_build_37 rfl fs_kX2_11 fs_l42 rfl ?_
        refine fr_iload_n 41 dX2_build_40 rfl rfl ?_
        refine fr_aald 42 dX2_build_41 rfl fs_l43 (by omega) ?_
        refine fr_iconst 43 dX2_build_42 rfl ?_
        refine fr_iload_n 44 dX2_build_43 rfl rfl ?_
        refine fr_imul 45 dX2_build_44 rfl ?_
        refine fr_iald 46 dX2_build_45 rfl (fs_f44 _ (by omega)) (by omega) ?_
        refine fr_aload_n 47 dX2_build_46 rfl rfl ?_
        refine fr_getr 50 43 dX2_build_47 rfl fs_kX2_11 fs_l42 rfl ?_
        refine fr_iload_n 51 dX2_build_50 rfl rfl ?_
        refine fr_aald 52 dX2_build_51 rfl fs_l43 (by omega) ?_
        refine fr_iconst 53 dX2_build_52 rfl ?_
        refine fr_iload_n 54 dX2_build_53 rfl rfl ?_
        refine fr_imul 55 dX2_build_54 rfl ?_
        refine fr_iconst 56 dX2_build_55 rfl ?_
        refine fr_iadd 57 dX2_build_56 rfl ?_
        refine fr_iald 58 dX2_build_57 rfl (fs_f44 _ (by omega)) (by omega) ?_
        refine fr_ior 59 dX2_build_58 rfl ?_
        refine fr_top (y := ((tkm t f ((ploN (wN f) p : Nat) : Int) ((phiN (wN f) p : Nat) : Int) : Nat) : Int)) (by
          have e1 := hA (2 * p) (by omega) (by rw [Nat.pow_succ]; omega)
          have e2 := hA (2 * p + 1) (by omega) (by rw [Nat.pow_succ]; omega)
          rw [show (2 * (p : Int)) = ((2 * p : Nat) : Int) by omega, show (((2 * p : Nat) : Int) + 1) = ((2 * p + 1 : Nat) : Int) by omega, e1, e2, fm_or (by have := tkm_lt hw f ((ploN (wN f) (2 * p) : Nat) : Int) ((phiN (wN f) (2 * p) : Nat) : Int); omega) (by have := tkm_lt hw f ((ploN (wN f) (2 * p + 1) : Nat) : Int) ((phiN (wN f) (2 * p + 1) : Nat) : Int); omega), tkm_or hw ⟨h0, h1⟩ (by omega) h2]) ?_
        refine fr_iast 60 dX2_build_59 rfl (fs_f44 _ (by omega)) (by omega) ?_
        refine fr_iinc 63 [_, _, _] dX2_build_60 rfl rfl rfl ?_
        refine fr_goto 24 dX2_build_63 rfl ?_
        obtain ⟨j, rfl⟩ : ∃ j, p = j + 1 := ⟨p - 1, by omega⟩
        rw [show ((j + 1 : Nat) : Int) + (-1) = (j : Int) by omega]
        refine ih f j _ h0 h1 (by omega) (by omega) (fun q a b => ?_) (fun g q a b c d => ?_) (fun k i z => ?_) kk
        · by_cases e : q = j + 1
          · subst e; exact fs_u_eq _ _ _ _
          · rw [fs_u_i _ (by omega)]; exact hA q (by omega) b
        · rw [fs_u_k _ _ (by omega)]; exact hB g q a b c d
        · rw [fs_u_k _ _ (by omega)]; exact hF k i z
  have k1 : ∀ (m : Nat) (f : Int) (τ : fs_S) (y : Option fs_V), 0 ≤ f → f ≤ 4 → 4 - f < m → (∀ (g : Int) (q : Nat), 0 ≤ g → g < f → 1 ≤ q → q < 2 ^ (wN g + 1) → τ (44 + g) (q : Int) = ((tkm t g ((ploN (wN g) q : Nat) : Int) ((phiN (wN g) q : Nat) : Int) : Nat) : Int)) → frPt σ τ →
      fs_W (fs_Γ 1 (fun x τ => x = none ∧ PV τ t ∧ frPt σ τ)) mX2_build 2 [some (.inr 42), some (.inl f), y] [] τ := by
    intro m
    induction m with
    | zero => intro f τ y h0 h1 h2; omega
    | succ m ih =>
      intro f τ y h0 h1 h2 hB hF
      have hg := gr_r f
      have g := gr_wN f
      have hRt : RC 27 τ t := hR.eq (hF _ _ (by omega)) (fun k i z => hF k i (by omega))
      have hOt : OC τ t := hO.eq (fun k i z => hF k i (by omega))
      refine fr_iload_n 3 dX2_build_2 rfl rfl ?_
      refine fr_iconst 4 dX2_build_3 rfl ?_
      refine fr_icmp_ge 72 7 dX2_build_4 rfl rfl (by omega) (by omega) (fun h4 => ?_) (fun h4 => ?_)
      · refine fr_vret dX2_build_72 rfl ?_
        exact ⟨rfl, fun g q a b c d => hB g q a (by omega) c d, hF⟩
      · refine fr_aload_n 8 dX2_build_7 rfl rfl ?_
        refine fr_aload_n 9 dX2_build_8 rfl rfl ?_
        refine fr_getr 12 43 dX2_build_9 rfl fs_kX2_11 fs_l42 rfl ?_
        refine fr_iload_n 13 dX2_build_12 rfl rfl ?_
        refine fr_aald 14 dX2_build_13 rfl fs_l43 (by omega) ?_
        refine fr_iload_n 15 dX2_build_14 rfl rfl ?_
        refine fr_callVv 18 (M2 := mX2_fillNumbers) [_, _] dX2_build_15 rfl fs_mX2_20 fs_oX2_fillNumbers fs_iX2_fillNumbers fs_l42 rfl rfl (fs_Γ_rm (d := 0) (by decide)) (Nat.le_of_ble_eq_true rfl) rfl ?_
        refine (cK_fillNumbers hw hRt hOt ⟨h0, by omega⟩).mono ?_
        rintro _ ρ ⟨rfl, p1, p2⟩
        refine ⟨rfl, ?_⟩
        refine fr_getsN 21 0 dX2_build_18 rfl rfl rfl fs_nX2_24 ?_
        refine fr_iload_n 22 dX2_build_21 rfl rfl ?_
        refine fr_ialdS 23 0 dX2_build_22 rfl rfl rfl (by decide) ⟨h0, (by omega : f < 4)⟩ (st_gr ⟨h0, by omega⟩) ?_
        refine fr_istore_n 24 [_, _, _] dX2_build_23 rfl (Nat.le_of_ble_eq_true rfl) rfl ?_
        rw [show gr f = ((2 ^ wN f - 1 : Nat) : Int) by have := Nat.two_pow_pos (wN f); omega]
        refine k2 (2 ^ wN f + 1) f (2 ^ wN f - 1) ρ h0 (by omega) (by have := Nat.two_pow_pos (wN f); omega) (by omega) (fun q a b => ?_) (fun g q a b c d => ?_) (fun k i z => ?_) (fun τ' hB' hF' => ?_)
        · obtain ⟨v, rfl⟩ : ∃ v, q = 2 ^ wN f + v := ⟨q - 2 ^ wN f, by omega⟩
          rw [Nat.pow_succ] at b
          have qq := part_num (wN f) (wN_r f) v (by omega)
          have := p1 (v : Int) (by omega) (by omega)
          rw [g] at this
          rw [qq.1, qq.2]
          exact this
        · rw [p2 _ _ (by omega)]; exact hB g q a b c d
        · rw [p2 _ _ (by omega)]; exact hF k i z
        · refine fr_iinc 69 [_, _, _] dX2_build_66 rfl rfl rfl ?_
          refine fr_goto 2 dX2_build_69 rfl ?_
          exact ih (f + 1) τ' _ (by omega) (by omega) (by omega) hB' hF'
  refine fr_iconst 1 dX2_build_0 rfl ?_
  refine fr_istore_n 2 [_, _, _] dX2_build_1 rfl (Nat.le_of_ble_eq_true rfl) rfl ?_
  exact k1 5 0 σ _ (by omega) (by omega) (by omega) (fun g q a b => by omega) (fun _ _ _ => rfl)
theorem all_n {t : rt} (hw : twf t) : fi_shl 1 (tn t) - 1 = ((bm (fun _ => true) (tn t).toNat : Nat) : Int) := by
  have hn := hw.1
  have e : tn t = (((tn t).toNat : Nat) : Int) := by omega
  have := bm_true (tn t).toNat
  rw [e, fm_shl1 _ (by omega), ← e]
  omega
set_option maxRecDepth 100000 in
set_option maxHeartbeats 3000000 in
theorem cK_all {σ : fs_S} {t : rt} (hw : twf t) (hn : σ 27 0 = tn t) : fs_C mX2_all 0 [.inr 42] σ (fun x τ => x = some ((bm (fun _ => true) (tn t).toNat : Nat) : Int) ∧ τ = σ) := by
  refine fs_C.intro [some (.inr 42)] fs_oX2_all (Nat.le_of_ble_eq_true rfl) rfl ?_
  refine fr_iconst 1 dX2_all_0 rfl ?_
  refine fr_aload_n 2 dX2_all_1 rfl rfl ?_
  refine fr_getr 5 27 dX2_all_2 rfl fs_kX2_16 fs_l42 rfl ?_
  refine fr_geti 8 0 dX2_all_5 rfl fs_kX2_28 rfl fs_l27 rfl ?_
  refine fr_ishl 9 dX2_all_8 rfl ?_
  refine fr_iconst 10 dX2_all_9 rfl ?_
  refine fr_isub 11 dX2_all_10 rfl ?_
  refine fr_iret dX2_all_11 rfl ?_
  exact ⟨congrArg some (by rw [hn]; exact all_n hw), rfl⟩
set_option maxRecDepth 100000 in
set_option maxHeartbeats 3000000 in
theorem cK_ofNumber {σ : fs_S} {t : rt} {f v : Int} (hP : PV σ t) (hf : 0 ≤ f ∧ f < 4) (hv : 0 ≤ v ∧ v ≤ gr f) : fs_C mX2_ofNumber 0 [.inr 42, .inl f, .inl v] σ (fun x τ => x = some ((tkm t f v v : Nat) : Int) ∧ τ = σ) := by
  refine fs_C.intro [some (.inr 42), some (.inl f), some (.inl v)] fs_oX2_ofNumber (Nat.le_of_ble_eq_true rfl) rfl ?_
  have hg := gr_r f
  refine fr_aload_n 1 dX2_ofNumber_0 rfl rfl ?_
  refine fr_getr 4 43 dX2_ofNumber_1 rfl fs_kX2_11 fs_l42 rfl ?_
  refine fr_iload_n 5 dX2_ofNumber_4 rfl rfl ?_
  refine fr_aald 6 dX2_ofNumber_5 rfl fs_l43 (by omega) ?_
  refine fr_getsN 9 0 dX2_ofNumber_6 rfl rfl rfl fs_nX2_24 ?_
  refine fr_iload_n 10 dX2_ofNumber_9 rfl rfl ?_
  refine fr_ialdS 11 0 dX2_ofNumber_10 rfl rfl rfl (by decide) hf (st_gr hf) ?_
  refine fr_iconst 12 dX2_ofNumber_11 rfl ?_
  refine fr_iadd 13 dX2_ofNumber_12 rfl ?_
  refine fr_iload_n 14 dX2_ofNumber_13 rfl rfl ?_
  refine fr_iadd 15 dX2_ofNumber_14 rfl ?_
  refine fr_iald 16 dX2_ofNumber_15 rfl (fs_f44 _ (by omega)) (by omega) ?_
  refine fr_iret dX2_ofNumber_16 rfl ?_
  exact ⟨congrArg some (hP.num hf hv), rfl⟩
