/-! ===== the class: Rules, rows moved ===== -/
/-- row fr of the rules at c now stands at row to of those at b -/
def Q_cr (b c fr to : Int) (σ : fs_S) : fs_Q := fun x τ => x = none ∧ (∀ f, 0 ≤ f → f < 4 → τ (b + 7 + f) to = σ (c + 7 + f) fr ∧ τ (b + 11 + f) to = σ (c + 11 + f) fr) ∧ (τ (b + 3) to = σ (c + 3) fr ∧ τ (b + 4) to = σ (c + 4) fr) ∧ ∀ k i, ¬ ((k = b + 3 ∨ k = b + 4 ∨ b + 7 ≤ k ∧ k < b + 15) ∧ i = to) → τ k i = σ k i
/-- the rules at b are now those of t, and nothing else has changed -/
def Q_cf (b : Int) (t : rt) (σ : fs_S) : fs_Q := fun x τ => x = none ∧ RC b τ t ∧ ∀ k i, ¬ (k = b ∧ i = 0) → ¬ (k = b + 3 ∨ k = b + 4 ∨ b + 7 ≤ k ∧ k < b + 15) → τ k i = σ k i
set_option maxRecDepth 100000 in
set_option maxHeartbeats 3000000 in
theorem cK_copyRule_27_27 {σ : fs_S} {fr to : Int} (hf : 0 ≤ fr ∧ fr < 16) (ht : 0 ≤ to ∧ to < 16) (hne : fr ≠ to) : fs_C mX3_copyRule 0 [.inr 27, .inr 27, .inl fr, .inl to] σ (Q_cr 27 27 fr to σ) := by
  refine fs_C.intro [some (.inr 27), some (.inr 27), some (.inl fr), some (.inl to), none] fs_oX3_copyRule (Nat.le_of_ble_eq_true rfl) rfl ?_
  have key : ∀ (m : Nat) (f : Int) (τ : fs_S), 0 ≤ f → f ≤ 4 → 4 - f < m → (∀ g, 0 ≤ g → g < f → τ (34 + g) to = σ (34 + g) fr ∧ τ (38 + g) to = σ (38 + g) fr) → (∀ k i, ¬ ((34 ≤ k ∧ k < 42) ∧ (k < 34 + f ∨ 38 ≤ k) ∧ k < 38 + f ∧ i = to) → τ k i = σ k i) → fs_W (fs_Γ 0 (Q_cr 27 27 fr to σ)) mX3_copyRule 3 [some (.inr 27), some (.inr 27), some (.inl fr), some (.inl to), some (.inl f)] [] τ := by
    intro m
    induction m with
    | zero => intro f τ h0 h1 h2; omega
    | succ m ih =>
      intro f τ h0 h1 h2 hI hF
      refine fr_iload 5 dX3_copyRule_3 rfl rfl ?_
      refine fr_iconst 6 dX3_copyRule_5 rfl ?_
      refine fr_icmp_ge 51 9 dX3_copyRule_6 rfl rfl (by omega) (by omega) (fun h6 => ?_) (fun h6 => ?_)
      · refine fr_aload_n 52 dX3_copyRule_51 rfl rfl ?_
        refine fr_getr 55 30 dX3_copyRule_52 rfl fs_kX3_23 fs_l27 rfl ?_
        refine fr_iload_n 56 dX3_copyRule_55 rfl rfl ?_
        refine fr_aload_n 57 dX3_copyRule_56 rfl rfl ?_
        refine fr_getr 60 30 dX3_copyRule_57 rfl fs_kX3_23 fs_l27 rfl ?_
        refine fr_iload_n 61 dX3_copyRule_60 rfl rfl ?_
        refine fr_iald 62 dX3_copyRule_61 rfl fs_l30 (by omega) ?_
        refine fr_iast 63 dX3_copyRule_62 rfl fs_l30 (by omega) ?_
        refine fr_aload_n 64 dX3_copyRule_63 rfl rfl ?_
        refine fr_getr 67 31 dX3_copyRule_64 rfl fs_kX3_27 fs_l27 rfl ?_
        refine fr_iload_n 68 dX3_copyRule_67 rfl rfl ?_
        refine fr_aload_n 69 dX3_copyRule_68 rfl rfl ?_
        refine fr_getr 72 31 dX3_copyRule_69 rfl fs_kX3_27 fs_l27 rfl ?_
        refine fr_iload_n 73 dX3_copyRule_72 rfl rfl ?_
        refine fr_iald 74 dX3_copyRule_73 rfl fs_l31 (by omega) ?_
        refine fr_iast 75 dX3_copyRule_74 rfl fs_l31 (by omega) ?_
        refine fr_vret dX3_copyRule_75 rfl ?_
        have e : f = 4 := by omega
        subst e
        have q1 := hF 30 fr (by omega)
        have q2 := hF 31 fr (by omega)
        refine ⟨rfl, fun g a b => ?_, ⟨?_, ?_⟩, fun k i z => ?_⟩
        · have q3 := hI g a b
          constructor
          · show fs_u (fs_u τ 30 to _) 31 to _ (34 + g) to = _
            rw [fs_u_k _ _ (by omega), fs_u_k _ _ (by omega)]; exact q3.1
          · show fs_u (fs_u τ 30 to _) 31 to _ (38 + g) to = _
            rw [fs_u_k _ _ (by omega), fs_u_k _ _ (by omega)]; exact q3.2
        · show fs_u (fs_u τ 30 to (τ 30 fr)) 31 to _ 30 to = σ 30 fr
          rw [fs_u_k _ _ (by decide), fs_u_eq]; exact q1
        · show fs_u (fs_u τ 30 to (τ 30 fr)) 31 to (fs_u τ 30 to (τ 30 fr) 31 fr) 31 to = σ 31 fr
          rw [fs_u_eq, fs_u_ne _ (by omega)]; exact q2
        · rw [fs_u_ne _ (by omega), fs_u_ne _ (by omega)]
          exact hF k i (by omega)
      · refine fr_aload_n 10 dX3_copyRule_9 rfl rfl ?_
        refine fr_getr 13 28 dX3_copyRule_10 rfl fs_kX3_17 fs_l27 rfl ?_
        refine fr_iload 15 dX3_copyRule_13 rfl rfl ?_
        refine fr_aald 16 dX3_copyRule_15 rfl fs_l28 (by omega) ?_
        refine fr_iload_n 17 dX3_copyRule_16 rfl rfl ?_
        refine fr_aload_n 18 dX3_copyRule_17 rfl rfl ?_
        refine fr_getr 21 28 dX3_copyRule_18 rfl fs_kX3_17 fs_l27 rfl ?_
        refine fr_iload 23 dX3_copyRule_21 rfl rfl ?_
        refine fr_aald 24 dX3_copyRule_23 rfl fs_l28 (by omega) ?_
        refine fr_iload_n 25 dX3_copyRule_24 rfl rfl ?_
        refine fr_iald 26 dX3_copyRule_25 rfl (fs_f34 _ (by omega)) (by omega) ?_
        refine fr_iast 27 dX3_copyRule_26 rfl (fs_f34 _ (by omega)) (by omega) ?_
        refine fr_aload_n 28 dX3_copyRule_27 rfl rfl ?_
        refine fr_getr 31 29 dX3_copyRule_28 rfl fs_kX3_20 fs_l27 rfl ?_
        refine fr_iload 33 dX3_copyRule_31 rfl rfl ?_
        refine fr_aald 34 dX3_copyRule_33 rfl fs_l29 (by omega) ?_
        refine fr_iload_n 35 dX3_copyRule_34 rfl rfl ?_
        refine fr_aload_n 36 dX3_copyRule_35 rfl rfl ?_
        refine fr_getr 39 29 dX3_copyRule_36 rfl fs_kX3_20 fs_l27 rfl ?_
        refine fr_iload 41 dX3_copyRule_39 rfl rfl ?_
        refine fr_aald 42 dX3_copyRule_41 rfl fs_l29 (by omega) ?_
        refine fr_iload_n 43 dX3_copyRule_42 rfl rfl ?_
        refine fr_iald 44 dX3_copyRule_43 rfl (fs_f38 _ (by omega)) (by omega) ?_
        refine fr_iast 45 dX3_copyRule_44 rfl (fs_f38 _ (by omega)) (by omega) ?_
        refine fr_iinc 48 [_, _, _, _, _] dX3_copyRule_45 rfl rfl rfl ?_
        refine fr_goto 3 dX3_copyRule_48 rfl ?_
        have q1 := hF (34 + f) fr (by omega)
        have q2 := hF (38 + f) fr (by omega)
        refine ih (f + 1) _ (by omega) (by omega) (by omega) (fun g a b => ?_) (fun k i z => ?_)
        · by_cases e : g = f
          · subst e
            constructor
            · unfold fs_u; (repeat' split) <;> omega
            · unfold fs_u; (repeat' split) <;> omega
          · have q3 := hI g a (by omega)
            constructor
            · rw [fs_u_k _ _ (by omega), fs_u_k _ _ (by omega)]; exact q3.1
            · rw [fs_u_k _ _ (by omega), fs_u_k _ _ (by omega)]; exact q3.2
        · rw [fs_u_ne _ (by omega), fs_u_ne _ (by omega)]
          exact hF k i (by omega)
  refine fr_iconst 1 dX3_copyRule_0 rfl ?_
  refine fr_istore 3 [_, _, _, _, _] dX3_copyRule_1 rfl (Nat.le_of_ble_eq_true rfl) rfl ?_
  exact key 5 0 σ (by omega) (by omega) (by omega) (fun g a b => by omega) (fun k i z => rfl)
set_option maxRecDepth 100000 in
set_option maxHeartbeats 3000000 in
theorem cK_copyRule_83_27 {σ : fs_S} {fr to : Int} (hf : 0 ≤ fr ∧ fr < 16) (ht : 0 ≤ to ∧ to < 16) : fs_C mX3_copyRule 0 [.inr 83, .inr 27, .inl fr, .inl to] σ (Q_cr 83 27 fr to σ) := by
  refine fs_C.intro [some (.inr 83), some (.inr 27), some (.inl fr), some (.inl to), none] fs_oX3_copyRule (Nat.le_of_ble_eq_true rfl) rfl ?_
  have key : ∀ (m : Nat) (f : Int) (τ : fs_S), 0 ≤ f → f ≤ 4 → 4 - f < m → (∀ g, 0 ≤ g → g < f → τ (90 + g) to = σ (34 + g) fr ∧ τ (94 + g) to = σ (38 + g) fr) → (∀ k i, ¬ ((90 ≤ k ∧ k < 98) ∧ (k < 90 + f ∨ 94 ≤ k) ∧ k < 94 + f ∧ i = to) → τ k i = σ k i) → fs_W (fs_Γ 0 (Q_cr 83 27 fr to σ)) mX3_copyRule 3 [some (.inr 83), some (.inr 27), some (.inl fr), some (.inl to), some (.inl f)] [] τ := by
    intro m
    induction m with
    | zero => intro f τ h0 h1 h2; omega
    | succ m ih =>
      intro f τ h0 h1 h2 hI hF
      refine fr_iload 5 dX3_copyRule_3 rfl rfl ?_
      refine fr_iconst 6 dX3_copyRule_5 rfl ?_
      refine fr_icmp_ge 51 9 dX3_copyRule_6 rfl rfl (by omega) (by omega) (fun h6 => ?_) (fun h6 => ?_)
      · refine fr_aload_n 52 dX3_copyRule_51 rfl rfl ?_
        refine fr_getr 55 86 dX3_copyRule_52 rfl fs_kX3_23 fs_l83 rfl ?_
        refine fr_iload_n 56 dX3_copyRule_55 rfl rfl ?_
        refine fr_aload_n 57 dX3_copyRule_56 rfl rfl ?_
        refine fr_getr 60 30 dX3_copyRule_57 rfl fs_kX3_23 fs_l27 rfl ?_
        refine fr_iload_n 61 dX3_copyRule_60 rfl rfl ?_
        refine fr_iald 62 dX3_copyRule_61 rfl fs_l30 (by omega) ?_
        refine fr_iast 63 dX3_copyRule_62 rfl fs_l86 (by omega) ?_
        refine fr_aload_n 64 dX3_copyRule_63 rfl rfl ?_
        refine fr_getr 67 87 dX3_copyRule_64 rfl fs_kX3_27 fs_l83 rfl ?_
        refine fr_iload_n 68 dX3_copyRule_67 rfl rfl ?_
        refine fr_aload_n 69 dX3_copyRule_68 rfl rfl ?_
        refine fr_getr 72 31 dX3_copyRule_69 rfl fs_kX3_27 fs_l27 rfl ?_
        refine fr_iload_n 73 dX3_copyRule_72 rfl rfl ?_
        refine fr_iald 74 dX3_copyRule_73 rfl fs_l31 (by omega) ?_
        refine fr_iast 75 dX3_copyRule_74 rfl fs_l87 (by omega) ?_
        refine fr_vret dX3_copyRule_75 rfl ?_
        have e : f = 4 := by omega
        subst e
        have q1 := hF 30 fr (by omega)
        have q2 := hF 31 fr (by omega)
        refine ⟨rfl, fun g a b => ?_, ⟨?_, ?_⟩, fun k i z => ?_⟩
        · have q3 := hI g a b
          constructor
          · show fs_u (fs_u τ 86 to _) 87 to _ (90 + g) to = _
            rw [fs_u_k _ _ (by omega), fs_u_k _ _ (by omega)]; exact q3.1
          · show fs_u (fs_u τ 86 to _) 87 to _ (94 + g) to = _
            rw [fs_u_k _ _ (by omega), fs_u_k _ _ (by omega)]; exact q3.2
        · show fs_u (fs_u τ 86 to (τ 30 fr)) 87 to _ 86 to = σ 30 fr
          rw [fs_u_k _ _ (by decide), fs_u_eq]; exact q1
        · show fs_u (fs_u τ 86 to (τ 30 fr)) 87 to (fs_u τ 86 to (τ 30 fr) 31 fr) 87 to = σ 31 fr
          rw [fs_u_eq, fs_u_ne _ (by omega)]; exact q2
        · rw [fs_u_ne _ (by omega), fs_u_ne _ (by omega)]
          exact hF k i (by omega)
      · refine fr_aload_n 10 dX3_copyRule_9 rfl rfl ?_
        refine fr_getr 13 84 dX3_copyRule_10 rfl fs_kX3_17 fs_l83 rfl ?_
        refine fr_iload 15 dX3_copyRule_13 rfl rfl ?_
        refine fr_aald 16 dX3_copyRule_15 rfl fs_l84 (by omega) ?_
        refine fr_iload_n 17 dX3_copyRule_16 rfl rfl ?_
        refine fr_aload_n 18 dX3_copyRule_17 rfl rfl ?_
        refine fr_getr 21 28 dX3_copyRule_18 rfl fs_kX3_17 fs_l27 rfl ?_
        refine fr_iload 23 dX3_copyRule_21 rfl rfl ?_
        refine fr_aald 24 dX3_copyRule_23 rfl fs_l28 (by omega) ?_
        refine fr_iload_n 25 dX3_copyRule_24 rfl rfl ?_
        refine fr_iald 26 dX3_copyRule_25 rfl (fs_f34 _ (by omega)) (by omega) ?_
        refine fr_iast 27 dX3_copyRule_26 rfl (fs_f90 _ (by omega)) (by omega) ?_
        refine fr_aload_n 28 dX3_copyRule_27 rfl rfl ?_
        refine fr_getr 31 85 dX3_copyRule_28 rfl fs_kX3_20 fs_l83 rfl ?_
        refine fr_iload 33 dX3_copyRule_31 rfl rfl ?_
        refine fr_aald 34 dX3_copyRule_33 rfl fs_l85 (by omega) ?_
        refine fr_iload_n 35 dX3_copyRule_34 rfl rfl ?_
        refine fr_aload_n 36 dX3_copyRule_35 rfl rfl ?_
        refine fr_getr 39 29 dX3_copyRule_36 rfl fs_kX3_20 fs_l27 rfl ?_
        refine fr_iload 41 dX3_copyRule_39 rfl rfl ?_
        refine fr_aald 42 dX3_copyRule_41 rfl fs_l29 (by omega) ?_
        refine fr_iload_n 43 dX3_copyRule_42 rfl rfl ?_
        refine fr_iald 44 dX3_copyRule_43 rfl (fs_f38 _ (by omega)) (by omega) ?_
        refine fr_iast 45 dX3_copyRule_44 rfl (fs_f94 _ (by omega)) (by omega) ?_
        refine fr_iinc 48 [_, _, _, _, _] dX3_copyRule_45 rfl rfl rfl ?_
        refine fr_goto 3 dX3_copyRule_48 rfl ?_
        have q1 := hF (34 + f) fr (by omega)
        have q2 := hF (38 + f) fr (by omega)
        refine ih (f + 1) _ (by omega) (by omega) (by omega) (fun g a b => ?_) (fun k i z => ?_)
        · by_cases e : g = f
          · subst e
            constructor
            · unfold fs_u; (repeat' split) <;> omega
            · unfold fs_u; (repeat' split) <;> omega
          · have q3 := hI g a (by omega)
            constructor
            · rw [fs_u_k _ _ (by omega), fs_u_k _ _ (by omega)]; exact q3.1
            · rw [fs_u_k _ _ (by omega), fs_u_k _ _ (by omega)]; exact q3.2
        · rw [fs_u_ne _ (by omega), fs_u_ne _ (by omega)]
          exact hF k i (by omega)
  refine fr_iconst 1 dX3_copyRule_0 rfl ?_
  refine fr_istore 3 [_, _, _, _, _] dX3_copyRule_1 rfl (Nat.le_of_ble_eq_true rfl) rfl ?_
  exact key 5 0 σ (by omega) (by omega) (by omega) (fun g a b => by omega) (fun k i z => rfl)
set_option maxRecDepth 100000 in
set_option maxHeartbeats 3000000 in
theorem cK_copyRule_98_27 {σ : fs_S} {fr to : Int} (hf : 0 ≤ fr ∧ fr < 16) (ht : 0 ≤ to ∧ to < 16) : fs_C mX3_copyRule 0 [.inr 98, .inr 27, .inl fr, .inl to] σ (Q_cr 98 27 fr to σ) := by
  refine fs_C.intro [some (.inr 98), some (.inr 27), some (.inl fr), some (.inl to), none] fs_oX3_copyRule (Nat.le_of_ble_eq_true rfl) rfl ?_
  have key : ∀ (m : Nat) (f : Int) (τ : fs_S), 0 ≤ f → f ≤ 4 → 4 - f < m → (∀ g, 0 ≤ g → g < f → τ (105 + g) to = σ (34 + g) fr ∧ τ (109 + g) to = σ (38 + g) fr) → (∀ k i, ¬ ((105 ≤ k ∧ k < 113) ∧ (k < 105 + f ∨ 109 ≤ k) ∧ k < 109 + f ∧ i = to) → τ k i = σ k i) → fs_W (fs_Γ 0 (Q_cr 98 27 fr to σ)) mX3_copyRule 3 [some (.inr 98), some (.inr 27), some (.inl fr), some (.inl to), some (.inl f)] [] τ := by
    intro m
    induction m with
    | zero => intro f τ h0 h1 h2; omega
    | succ m ih =>
      intro f τ h0 h1 h2 hI hF
      refine fr_iload 5 dX3_copyRule_3 rfl rfl ?_
      refine fr_iconst 6 dX3_copyRule_5 rfl ?_
      refine fr_icmp_ge 51 9 dX3_copyRule_6 rfl rfl (by omega) (by omega) (fun h6 => ?_) (fun h6 => ?_)
      · refine fr_aload_n 52 dX3_copyRule_51 rfl rfl ?_
        refine fr_getr 55 101 dX3_copyRule_52 rfl fs_kX3_23 fs_l98 rfl ?_
        refine fr_iload_n 56 dX3_copyRule_55 rfl rfl ?_
        refine fr_aload_n 57 dX3_copyRule_56 rfl rfl ?_
        refine fr_getr 60 30 dX3_copyRule_57 rfl fs_kX3_23 fs_l27 rfl ?_
        refine fr_iload_n 61 dX3_copyRule_60 rfl rfl ?_
        refine fr_iald 62 dX3_copyRule_61 rfl fs_l30 (by omega) ?_
        refine fr_iast 63 dX3_copyRule_62 rfl fs_l101 (by omega) ?_
        refine fr_aload_n 64 dX3_copyRule_63 rfl rfl ?_
        refine fr_getr 67 102 dX3_copyRule_64 rfl fs_kX3_27 fs_l98 rfl ?_
        refine fr_iload_n 68 dX3_copyRule_67 rfl rfl ?_
        refine fr_aload_n 69 dX3_copyRule_68 rfl rfl ?_
        refine fr_getr 72 31 dX3_copyRule_69 rfl fs_kX3_27 fs_l27 rfl ?_
        refine fr_iload_n 73 dX3_copyRule_72 rfl rfl ?_
        refine fr_iald 74 dX3_copyRule_73 rfl fs_l31 (by omega) ?_
        refine fr_iast 75 dX3_copyRule_74 rfl fs_l102 (by omega) ?_
        refine fr_vret dX3_copyRule_75 rfl ?_
        have e : f = 4 := by omega
        subst e
        have q1 := hF 30 fr (by omega)
        have q2 := hF 31 fr (by omega)
        refine ⟨rfl, fun g a b => ?_, ⟨?_, ?_⟩, fun k i z => ?_⟩
        · have q3 := hI g a b
          constructor
          · show fs_u (fs_u τ 101 to _) 102 to _ (105 + g) to = _
            rw [fs_u_k _ _ (by omega), fs_u_k _ _ (by omega)]; exact q3.1
          · show fs_u (fs_u τ 101 to _) 102 to _ (109 + g) to = _
            rw [fs_u_k _ _ (by omega), fs_u_k _ _ (by omega)]; exact q3.2
        · show fs_u (fs_u τ 101 to (τ 30 fr)) 102 to _ 101 to = σ 30 fr
          rw [fs_u_k _ _ (by decide), fs_u_eq]; exact q1
        · show fs_u (fs_u τ 101 to (τ 30 fr)) 102 to (fs_u τ 101 to (τ 30 fr) 31 fr) 102 to = σ 31 fr
          rw [fs_u_eq, fs_u_ne _ (by omega)]; exact q2
        · rw [fs_u_ne _ (by omega), fs_u_ne _ (by omega)]
          exact hF k i (by omega)
      · refine fr_aload_n 10 dX3_copyRule_9 rfl rfl ?_
        refine fr_getr 13 99 dX3_copyRule_10 rfl fs_kX3_17 fs_l98 rfl ?_
        refine fr_iload 15 dX3_copyRule_13 rfl rfl ?_
        refine fr_aald 16 dX3_copyRule_15 rfl fs_l99 (by omega) ?_
        refine fr_iload_n 17 dX3_copyRule_16 rfl rfl ?_
        refine fr_aload_n 18 dX3_copyRule_17 rfl rfl ?_
        refine fr_getr 21 28 dX3_copyRule_18 rfl fs_kX3_17 fs_l27 rfl ?_
        refine fr_iload 23 dX3_copyRule_21 rfl rfl ?_
        refine fr_aald 24 dX3_copyRule_23 rfl fs_l28 (by omega) ?_
        refine fr_iload_n 25 dX3_copyRule_24 rfl rfl ?_
        refine fr_iald 26 dX3_copyRule_25 rfl (fs_f34 _ (by omega)) (by omega) ?_
        refine fr_iast 27 dX3_copyRule_26 rfl (fs_f105 _ (by omega)) (by omega) ?_
        refine fr_aload_n 28 dX3_copyRule_27 rfl rfl ?_
        refine fr_getr 31 100 dX3_copyRule_28 rfl fs_kX3_20 fs_l98 rfl ?_
        refine fr_iload 33 dX3_copyRule_31 rfl rfl ?_
        refine fr_aald 34 dX3_copyRule_33 rfl fs_l100 (by omega) ?_
        refine fr_iload_n 35 dX3_copyRule_34 rfl rfl ?_
        refine fr_aload_n 36 dX3_copyRule_35 rfl rfl ?_
        refine fr_getr 39 29 dX3_copyRule_36 rfl fs_kX3_20 fs_l27 rfl ?_
        refine fr_iload 41 dX3_copyRule_39 rfl rfl ?_
        refine fr_aald 42 dX3_copyRule_41 rfl fs_l29 (by omega) ?_
        refine fr_iload_n 43 dX3_copyRule_42 rfl rfl ?_
        refine fr_iald 44 dX3_copyRule_43 rfl (fs_f38 _ (by omega)) (by omega) ?_
        refine fr_iast 45 dX3_copyRule_44 rfl (fs_f109 _ (by omega)) (by omega) ?_
        refine fr_iinc 48 [_, _, _, _, _] dX3_copyRule_45 rfl rfl rfl ?_
        refine fr_goto 3 dX3_copyRule_48 rfl ?_
        have q1 := hF (34 + f) fr (by omega)
        have q2 := hF (38 + f) fr (by omega)
        refine ih (f + 1) _ (by omega) (by omega) (by omega) (fun g a b => ?_) (fun k i z => ?_)
        · by_cases e : g = f
          · subst e
            constructor
            · unfold fs_u; (repeat' split) <;> omega
            · unfold fs_u; (repeat' split) <;> omega
          · have q3 := hI g a (by omega)
            constructor
            · rw [fs_u_k _ _ (by omega), fs_u_k _ _ (by omega)]; exact q3.1
            · rw [fs_u_k _ _ (by omega), fs_u_k _ _ (by omega)]; exact q3.2
        · rw [fs_u_ne _ (by omega), fs_u_ne _ (by omega)]
          exact hF k i (by omega)
  refine fr_iconst 1 dX3_copyRule_0 rfl ?_
  refine fr_istore 3 [_, _, _, _, _] dX3_copyRule_1 rfl (Nat.le_of_ble_eq_true rfl) rfl ?_
  exact key 5 0 σ (by omega) (by omega) (by omega) (fun g a b => by omega) (fun k i z => rfl)
set_option maxRecDepth 100000 in
set_option maxHeartbeats 3000000 in
theorem cK_copyRule_27_83 {σ : fs_S} {fr to : Int} (hf : 0 ≤ fr ∧ fr < 16) (ht : 0 ≤ to ∧ to < 16) : fs_C mX3_copyRule 0 [.inr 27, .inr 83, .inl fr, .inl to] σ (Q_cr 27 83 fr to σ) := by
  refine fs_C.intro [some (.inr 27), some (.inr 83), some (.inl fr), some (.inl to), none] fs_oX3_copyRule (Nat.le_of_ble_eq_true rfl) rfl ?_
  have key : ∀ (m : Nat) (f : Int) (τ : fs_S), 0 ≤ f → f ≤ 4 → 4 - f < m → (∀ g, 0 ≤ g → g < f → τ (34 + g) to = σ (90 + g) fr ∧ τ (38 + g) to = σ (94 + g) fr) → (∀ k i, ¬ ((34 ≤ k ∧ k < 42) ∧ (k < 34 + f ∨ 38 ≤ k) ∧ k < 38 + f ∧ i = to) → τ k i = σ k i) → fs_W (fs_Γ 0 (Q_cr 27 83 fr to σ)) mX3_copyRule 3 [some (.inr 27), some (.inr 83), some (.inl fr), some (.inl to), some (.inl f)] [] τ := by
    intro m
    induction m with
    | zero => intro f τ h0 h1 h2; omega
    | succ m ih =>
      intro f τ h0 h1 h2 hI hF
      refine fr_iload 5 dX3_copyRule_3 rfl rfl ?_
      refine fr_iconst 6 dX3_copyRule_5 rfl ?_
      refine fr_icmp_ge 51 9 dX3_copyRule_6 rfl rfl (by omega) (by omega) (fun h6 => ?_) (fun h6 => ?_)
      · refine fr_aload_n 52 dX3_copyRule_51 rfl rfl ?_
        refine fr_getr 55 30 dX3_copyRule_52 rfl fs_kX3_23 fs_l27 rfl ?_
        refine fr_iload_n 56 dX3_copyRule_55 rfl rfl ?_
        refine fr_aload_n 57 dX3_copyRule_56 rfl rfl ?_
        refine fr_getr 60 86 dX3_copyRule_57 rfl fs_kX3_23 fs_l83 rfl ?_
        refine fr_iload_n 61 dX3_copyRule_60 rfl rfl ?_
        refine fr_iald 62 dX3_copyRule_61 rfl fs_l86 (by omega) ?_
        refine fr_iast 63 dX3_copyRule_62 rfl fs_l30 (by omega) ?_
        refine fr_aload_n 64 dX3_copyRule_63 rfl rfl ?_
        refine fr_getr 67 31 dX3_copyRule_64 rfl fs_kX3_27 fs_l27 rfl ?_
        refine fr_iload_n 68 dX3_copyRule_67 rfl rfl ?_
        refine fr_aload_n 69 dX3_copyRule_68 rfl rfl ?_
        refine fr_getr 72 87 dX3_copyRule_69 rfl fs_kX3_27 fs_l83 rfl ?_
        refine fr_iload_n 73 dX3_copyRule_72 rfl rfl ?_
        refine fr_iald 74 dX3_copyRule_73 rfl fs_l87 (by omega) ?_
        refine fr_iast 75 dX3_copyRule_74 rfl fs_l31 (by omega) ?_
        refine fr_vret dX3_copyRule_75 rfl ?_
        have e : f = 4 := by omega
        subst e
        have q1 := hF 86 fr (by omega)
        have q2 := hF 87 fr (by omega)
        refine ⟨rfl, fun g a b => ?_, ⟨?_, ?_⟩, fun k i z => ?_⟩
        · have q3 := hI g a b
          constructor
          · show fs_u (fs_u τ 30 to _) 31 to _ (34 + g) to = _
            rw [fs_u_k _ _ (by omega), fs_u_k _ _ (by omega)]; exact q3.1
          · show fs_u (fs_u τ 30 to _) 31 to _ (38 + g) to = _
            rw [fs_u_k _ _ (by omega), fs_u_k _ _ (by omega)]; exact q3.2
        · show fs_u (fs_u τ 30 to (τ 86 fr)) 31 to _ 30 to = σ 86 fr
          rw [fs_u_k _ _ (by decide), fs_u_eq]; exact q1
        · show fs_u (fs_u τ 30 to (τ 86 fr)) 31 to (fs_u τ 30 to (τ 86 fr) 87 fr) 31 to = σ 87 fr
          rw [fs_u_eq, fs_u_ne _ (by omega)]; exact q2
        · rw [fs_u_ne _ (by omega), fs_u_ne _ (by omega)]
          exact hF k i (by omega)
      · refine fr_aload_n 10 dX3_copyRule_9 rfl rfl ?_
        refine fr_getr 13 28 dX3_copyRule_10 rfl fs_kX3_17 fs_l27 rfl ?_
        refine fr_iload 15 dX3_copyRule_13 rfl rfl ?_
        refine fr_aald 16 dX3_copyRule_15 rfl fs_l28 (by omega) ?_
        refine fr_iload_n 17 dX3_copyRule_16 rfl rfl ?_
        refine fr_aload_n 18 dX3_copyRule_17 rfl rfl ?_
        refine fr_getr 21 84 dX3_copyRule_18 rfl fs_kX3_17 fs_l83 rfl ?_
        refine fr_iload 23 dX3_copyRule_21 rfl rfl ?_
        refine fr_aald 24 dX3_copyRule_23 rfl fs_l84 (by omega) ?_
        refine fr_iload_n 25 dX3_copyRule_24 rfl rfl ?_
        refine fr_iald 26 dX3_copyRule_25 rfl (fs_f90 _ (by omega)) (by omega) ?_
        refine fr_iast 27 dX3_copyRule_26 rfl (fs_f34 _ (by omega)) (by omega) ?_
        refine fr_aload_n 28 dX3_copyRule_27 rfl rfl ?_
        refine fr_getr 31 29 dX3_copyRule_28 rfl fs_kX3_20 fs_l27 rfl ?_
        refine fr_iload 33 dX3_copyRule_31 rfl rfl ?_
        refine fr_aald 34 dX3_copyRule_33 rfl fs_l29 (by omega) ?_
        refine fr_iload_n 35 dX3_copyRule_34 rfl rfl ?_
        refine fr_aload_n 36 dX3_copyRule_35 rfl rfl ?_
        refine fr_getr 39 85 dX3_copyRule_36 rfl fs_kX3_20 fs_l83 rfl ?_
        refine fr_iload 41 dX3_copyRule_39 rfl rfl ?_
        refine fr_aald 42 dX3_copyRule_41 rfl fs_l85 (by omega) ?_
        refine fr_iload_n 43 dX3_copyRule_42 rfl rfl ?_
        refine fr_iald 44 dX3_copyRule_43 rfl (fs_f94 _ (by omega)) (by omega) ?_
        refine fr_iast 45 dX3_copyRule_44 rfl (fs_f38 _ (by omega)) (by omega) ?_
        refine fr_iinc 48 [_, _, _, _, _] dX3_copyRule_45 rfl rfl rfl ?_
        refine fr_goto 3 dX3_copyRule_48 rfl ?_
        have q1 := hF (90 + f) fr (by omega)
        have q2 := hF (94 + f) fr (by omega)
        refine ih (f + 1) _ (by omega) (by omega) (by omega) (fun g a b => ?_) (fun k i z => ?_)
        · by_cases e : g = f
          · subst e
            constructor
            · unfold fs_u; (repeat' split) <;> omega
            · unfold fs_u; (repeat' split) <;> omega
          · have q3 := hI g a (by omega)
            constructor
            · rw [fs_u_k _ _ (by omega), fs_u_k _ _ (by omega)]; exact q3.1
            · rw [fs_u_k _ _ (by omega), fs_u_k _ _ (by omega)]; exact q3.2
        · rw [fs_u_ne _ (by omega), fs_u_ne _ (by omega)]
          exact hF k i (by omega)
  refine fr_iconst 1 dX3_copyRule_0 rfl ?_
  refine fr_istore 3 [_, _, _, _, _] dX3_copyRule_1 rfl (Nat.le_of_ble_eq_true rfl) rfl ?_
  exact key 5 0 σ (by omega) (by omega) (by omega) (fun g a b => by omega) (fun k i z => rfl)
set_option maxRecDepth 100000 in
set_option maxHeartbeats 3000000 in
theorem cK_copyRule_27_98 {σ : fs_S} {fr to : Int} (hf : 0 ≤ fr ∧ fr < 16) (ht : 0 ≤ to ∧ to < 16) : fs_C mX3_copyRule 0 [.inr 27, .inr 98, .inl fr, .inl to] σ (Q_cr 27 98 fr to σ) := by
  refine fs_C.intro [some (.inr 27), some (.inr 98), some (.inl fr), some (.inl to), none] fs_oX3_copyRule (Nat.le_of_ble_eq_true rfl) rfl ?_
  have key : ∀ (m : Nat) (f : Int) (τ : fs_S), 0 ≤ f → f ≤ 4 → 4 - f < m → (∀ g, 0 ≤ g → g < f → τ (34 + g) to = σ (105 + g) fr ∧ τ (38 + g) to = σ (109 + g) fr) → (∀ k i, ¬ ((34 ≤ k ∧ k < 42) ∧ (k < 34 + f ∨ 38 ≤ k) ∧ k < 38 + f ∧ i = to) → τ k i = σ k i) → fs_W (fs_Γ 0 (Q_cr 27 98 fr to σ)) mX3_copyRule 3 [some (.inr 27), some (.inr 98), some (.inl fr), some (.inl to), some (.inl f)] [] τ := by
    intro m
    induction m with
    | zero => intro f τ h0 h1 h2; omega
    | succ m ih =>
      intro f τ h0 h1 h2 hI hF
      refine fr_iload 5 dX3_copyRule_3 rfl rfl ?_
      refine fr_iconst 6 dX3_copyRule_5 rfl ?_
      refine fr_icmp_ge 51 9 dX3_copyRule_6 rfl rfl (by omega) (by omega) (fun h6 => ?_) (fun h6 => ?_)
      · refine fr_aload_n 52 dX3_copyRule_51 rfl rfl ?_
        refine fr_getr 55 30 dX3_copyRule_52 rfl fs_kX3_23 fs_l27 rfl ?_
        refine fr_iload_n 56 dX3_copyRule_55 rfl rfl ?_
        refine fr_aload_n 57 dX3_copyRule_56 rfl rfl ?_
        refine fr_getr 60 101 dX3_copyRule_57 rfl fs_kX3_23 fs_l98 rfl ?_
        refine fr_iload_n 61 dX3_copyRule_60 rfl rfl ?_
        refine fr_iald 62 dX3_copyRule_61 rfl fs_l101 (by omega) ?_
        refine fr_iast 63 dX3_copyRule_62 rfl fs_l30 (by omega) ?_
        refine fr_aload_n 64 dX3_copyRule_63 rfl rfl ?_
        refine fr_getr 67 31 dX3_copyRule_64 rfl fs_kX3_27 fs_l27 rfl ?_
        refine fr_iload_n 68 dX3_copyRule_67 rfl rfl ?_
        refine fr_aload_n 69 dX3_copyRule_68 rfl rfl ?_
        refine fr_getr 72 102 dX3_copyRule_69 rfl fs_kX3_27 fs_l98 rfl ?_
        refine fr_iload_n 73 dX3_copyRule_72 rfl rfl ?_
        refine fr_iald 74 dX3_copyRule_73 rfl fs_l102 (by omega) ?_
        refine fr_iast 75 dX3_copyRule_74 rfl fs_l31 (by omega) ?_
        refine fr_vret dX3_copyRule_75 rfl ?_
        have e : f = 4 := by omega
        subst e
        have q1 := hF 101 fr (by omega)
        have q2 := hF 102 fr (by omega)
        refine ⟨rfl, fun g a b => ?_, ⟨?_, ?_⟩, fun k i z => ?_⟩
        · have q3 := hI g a b
          constructor
          · show fs_u (fs_u τ 30 to _) 31 to _ (34 + g) to = _
            rw [fs_u_k _ _ (by omega), fs_u_k _ _ (by omega)]; exact q3.1
          · show fs_u (fs_u τ 30 to _) 31 to _ (38 + g) to = _
            rw [fs_u_k _ _ (by omega), fs_u_k _ _ (by omega)]; exact q3.2
        · show fs_u (fs_u τ 30 to (τ 101 fr)) 31 to _ 30 to = σ 101 fr
          rw [fs_u_k _ _ (by decide), fs_u_eq]; exact q1
        · show fs_u (fs_u τ 30 to (τ 101 fr)) 31 to (fs_u τ 30 to (τ 101 fr) 102 fr) 31 to = σ 102 fr
          rw [fs_u_eq, fs_u_ne _ (by omega)]; exact q2
        · rw [fs_u_ne _ (by omega), fs_u_ne _ (by omega)]
          exact hF k i (by omega)
      · refine fr_aload_n 10 dX3_copyRule_9 rfl rfl ?_
        refine fr_getr 13 28 dX3_copyRule_10 rfl fs_kX3_17 fs_l27 rfl ?_
        refine fr_iload 15 dX3_copyRule_13 rfl rfl ?_
        refine fr_aald 16 dX3_copyRule_15 rfl fs_l28 (by omega) ?_
        refine fr_iload_n 17 dX3_copyRule_16 rfl rfl ?_
        refine fr_aload_n 18 dX3_copyRule_17 rfl rfl ?_
        refine fr_getr 21 99 dX3_copyRule_18 rfl fs_kX3_17 fs_l98 rfl ?_
        refine fr_iload 23 dX3_copyRule_21 rfl rfl ?_
        refine fr_aald 24 dX3_copyRule_23 rfl fs_l99 (by omega) ?_
        refine fr_iload_n 25 dX3_copyRule_24 rfl rfl ?_
        refine fr_iald 26 dX3_copyRule_25 rfl (fs_f105 _ (by omega)) (by omega) ?_
        refine fr_iast 27 dX3_copyRule_26 rfl (fs_f34 _ (by omega)) (by omega) ?_
        refine fr_aload_n 28 dX3_copyRule_27 rfl rfl ?_
        refine fr_getr 31 29 dX3_copyRule_28 rfl fs_kX3_20 fs_l27 rfl ?_
        refine fr_iload 33 dX3_copyRule_31 rfl rfl ?_
        refine fr_aald 34 dX3_copyRule_33 rfl fs_l29 (by omega) ?_
        refine fr_iload_n 35 dX3_copyRule_34 rfl rfl ?_
        refine fr_aload_n 36 dX3_copyRule_35 rfl rfl ?_
        refine fr_getr 39 100 dX3_copyRule_36 rfl fs_kX3_20 fs_l98 rfl ?_
        refine fr_iload 41 dX3_copyRule_39 rfl rfl ?_
        refine fr_aald 42 dX3_copyRule_41 rfl fs_l100 (by omega) ?_
        refine fr_iload_n 43 dX3_copyRule_42 rfl rfl ?_
        refine fr_iald 44 dX3_copyRule_43 rfl (fs_f109 _ (by omega)) (by omega) ?_
        refine fr_iast 45 dX3_copyRule_44 rfl (fs_f38 _ (by omega)) (by omega) ?_
        refine fr_iinc 48 [_, _, _, _, _] dX3_copyRule_45 rfl rfl rfl ?_
        refine fr_goto 3 dX3_copyRule_48 rfl ?_
        have q1 := hF (105 + f) fr (by omega)
        have q2 := hF (109 + f) fr (by omega)
        refine ih (f + 1) _ (by omega) (by omega) (by omega) (fun g a b => ?_) (fun k i z => ?_)
        · by_cases e : g = f
          · subst e
            constructor
            · unfold fs_u; (repeat' split) <;> omega
            · unfold fs_u; (repeat' split) <;> omega
          · have q3 := hI g a (by omega)
            constructor
            · rw [fs_u_k _ _ (by omega), fs_u_k _ _ (by omega)]; exact q3.1
            · rw [fs_u_k _ _ (by omega), fs_u_k _ _ (by omega)]; exact q3.2
        · rw [fs_u_ne _ (by omega), fs_u_ne _ (by omega)]
          exact hF k i (by omega)
  refine fr_iconst 1 dX3_copyRule_0 rfl ?_
  refine fr_istore 3 [_, _, _, _, _] dX3_copyRule_1 rfl (Nat.le_of_ble_eq_true rfl) rfl ?_
  exact key 5 0 σ (by omega) (by omega) (by omega) (fun g a b => by omega) (fun k i z => rfl)
set_option maxRecDepth 100000 in
set_option maxHeartbeats 3000000 in
theorem cK_copyFrom_83_27 {σ : fs_S} {t : rt} (hw : twf t) (hR : RC 27 σ t) : fs_C mX3_copyFrom 1 [.inr 83, .inr 27] σ (Q_cf 83 t σ) := by
  refine fs_C.intro [some (.inr 83), some (.inr 27), none] fs_oX3_copyFrom (Nat.le_of_ble_eq_true rfl) rfl ?_
  have hn := hw.1
  have hn2 := hR.1
  have key : ∀ (m : Nat) (k : Int) (τ : fs_S), 0 ≤ k → k ≤ tn t → tn t - k < m → τ 83 0 = tn t → (∀ r f, 0 ≤ r → r < k → 0 ≤ f → f < 4 → τ (90 + f) r = tlo t r f ∧ τ (94 + f) r = thi t r f) → (∀ r, 0 ≤ r → r < k → τ 86 r = trk t r ∧ τ 87 r = tac t r) → (∀ k i, ¬ (k = 83 ∧ i = 0) → ¬ (k = 86 ∨ k = 87 ∨ 90 ≤ k ∧ k < 98) → τ k i = σ k i) → fs_W (fs_Γ 1 (Q_cf 83 t σ)) mX3_copyFrom 10 [some (.inr 83), some (.inr 27), some (.inl k)] [] τ := by
    intro m
    induction m with
    | zero => intro k τ h0 h1 h2; omega
    | succ m ih =>
      intro k τ h0 h1 h2 hN hI hJ hF
      refine fr_iload_n 11 dX3_copyFrom_10 rfl rfl ?_
      refine fr_aload_n 12 dX3_copyFrom_11 rfl rfl ?_
      refine fr_geti 15 0 dX3_copyFrom_12 rfl fs_kX3_9 rfl fs_l83 rfl ?_
      refine fr_icmp_ge 31 18 dX3_copyFrom_15 rfl rfl (by omega) (by omega) (fun h15 => ?_) (fun h15 => ?_)
      · refine fr_vret dX3_copyFrom_31 rfl ?_
        exact ⟨rfl, ⟨hN, fun r f a b c d => hI r f a (by omega) c d, fun r a b => hJ r a (by omega)⟩, hF⟩
      · refine fr_aload_n 19 dX3_copyFrom_18 rfl rfl ?_
        refine fr_aload_n 20 dX3_copyFrom_19 rfl rfl ?_
        refine fr_iload_n 21 dX3_copyFrom_20 rfl rfl ?_
        refine fr_iload_n 22 dX3_copyFrom_21 rfl rfl ?_
        refine fr_callVv 25 (M2 := mX3_copyRule) [_, _, _] dX3_copyFrom_22 rfl fs_mX3_40 fs_oX3_copyRule fs_iX3_copyRule fs_l83 rfl rfl (fs_Γ_rm (d := 0) (by decide)) (Nat.le_of_ble_eq_true rfl) rfl ?_
        refine (cK_copyRule_83_27 ⟨h0, by omega⟩ ⟨h0, by omega⟩).mono ?_
        rintro _ ρ ⟨rfl, p1, p2, p3⟩
        refine ⟨rfl, ?_⟩
        refine fr_iinc 28 [_, _, _] dX3_copyFrom_25 rfl rfl rfl ?_
        refine fr_goto 10 dX3_copyFrom_28 rfl ?_
        refine ih (k + 1) ρ (by omega) (by omega) (by omega) ((p3 _ _ (by omega)).trans hN) (fun r f a b c d => ?_) (fun r a b => ?_) (fun x i z1 z2 => (p3 x i (by omega)).trans (hF x i z1 z2))
        · by_cases e : r = k
          · subst e
            have := p1 f c d
            have q := hR.2.1 r f a (by omega) c d
            exact ⟨this.1.trans ((hF (34 + f) r (by omega) (by omega)).trans q.1), this.2.trans ((hF (38 + f) r (by omega) (by omega)).trans q.2)⟩
          · have q := hI r f a (by omega) c d
            exact ⟨(p3 _ _ (by omega)).trans q.1, (p3 _ _ (by omega)).trans q.2⟩
        · by_cases e : r = k
          · subst e
            have q := hR.2.2 r a (by omega)
            exact ⟨p2.1.trans ((hF 30 r (by omega) (by omega)).trans q.1), p2.2.trans ((hF 31 r (by omega) (by omega)).trans q.2)⟩
          · have q := hJ r a (by omega)
            exact ⟨(p3 _ _ (by omega)).trans q.1, (p3 _ _ (by omega)).trans q.2⟩
  refine fr_aload_n 1 dX3_copyFrom_0 rfl rfl ?_
  refine fr_aload_n 2 dX3_copyFrom_1 rfl rfl ?_
  refine fr_geti 5 0 dX3_copyFrom_2 rfl fs_kX3_9 rfl fs_l27 rfl ?_
  refine fr_puti 8 0 dX3_copyFrom_5 rfl fs_kX3_9 fs_pX3_0 rfl fs_l83 rfl ?_
  refine fr_iconst 9 dX3_copyFrom_8 rfl ?_
  refine fr_istore_n 10 [_, _, _] dX3_copyFrom_9 rfl (Nat.le_of_ble_eq_true rfl) rfl ?_
  refine key ((tn t).toNat + 1) 0 _ (by omega) (by omega) (by omega) ((fs_u_eq _ _ _ _).trans hn2) (fun r f a b => by omega) (fun r a b => by omega) (fun x i z1 z2 => fs_u_ne _ z1)
set_option maxRecDepth 100000 in
set_option maxHeartbeats 3000000 in
theorem cK_copyFrom_98_27 {σ : fs_S} {t : rt} (hw : twf t) (hR : RC 27 σ t) : fs_C mX3_copyFrom 1 [.inr 98, .inr 27] σ (Q_cf 98 t σ) := by
  refine fs_C.intro [some (.inr 98), some (.inr 27), none] fs_oX3_copyFrom (Nat.le_of_ble_eq_true rfl) rfl ?_
  have hn := hw.1
  have hn2 := hR.1
  have key : ∀ (m : Nat) (k : Int) (τ : fs_S), 0 ≤ k → k ≤ tn t → tn t - k < m → τ 98 0 = tn t → (∀ r f, 0 ≤ r → r < k → 0 ≤ f → f < 4 → τ (105 + f) r = tlo t r f ∧ τ (109 + f) r = thi t r f) → (∀ r, 0 ≤ r → r < k → τ 101 r = trk t r ∧ τ 102 r = tac t r) → (∀ k i, ¬ (k = 98 ∧ i = 0) → ¬ (k = 101 ∨ k = 102 ∨ 105 ≤ k ∧ k < 113) → τ k i = σ k i) → fs_W (fs_Γ 1 (Q_cf 98 t σ)) mX3_copyFrom 10 [some (.inr 98), some (.inr 27), some (.inl k)] [] τ := by
    intro m
    induction m with
    | zero => intro k τ h0 h1 h2; omega
    | succ m ih =>
      intro k τ h0 h1 h2 hN hI hJ hF
      refine fr_iload_n 11 dX3_copyFrom_10 rfl rfl ?_
      refine fr_aload_n 12 dX3_copyFrom_11 rfl rfl ?_
      refine fr_geti 15 0 dX3_copyFrom_12 rfl fs_kX3_9 rfl fs_l98 rfl ?_
      refine fr_icmp_ge 31 18 dX3_copyFrom_15 rfl rfl (by omega) (by omega) (fun h15 => ?_) (fun h15 => ?_)
      · refine fr_vret dX3_copyFrom_31 rfl ?_
        exact ⟨rfl, ⟨hN, fun r f a b c d => hI r f a (by omega) c d, fun r a b => hJ r a (by omega)⟩, hF⟩
      · refine fr_aload_n 19 dX3_copyFrom_18 rfl rfl ?_
        refine fr_aload_n 20 dX3_copyFrom_19 rfl rfl ?_
        refine fr_iload_n 21 dX3_copyFrom_20 rfl rfl ?_
        refine fr_iload_n 22 dX3_copyFrom_21 rfl rfl ?_
        refine fr_callVv 25 (M2 := mX3_copyRule) [_, _, _] dX3_copyFrom_22 rfl fs_mX3_40 fs_oX3_copyRule fs_iX3_copyRule fs_l98 rfl rfl (fs_Γ_rm (d := 0) (by decide)) (Nat.le_of_ble_eq_true rfl) rfl ?_
        refine (cK_copyRule_98_27 ⟨h0, by omega⟩ ⟨h0, by omega⟩).mono ?_
        rintro _ ρ ⟨rfl, p1, p2, p3⟩
        refine ⟨rfl, ?_⟩
        refine fr_iinc 28 [_, _, _] dX3_copyFrom_25 rfl rfl rfl ?_
        refine fr_goto 10 dX3_copyFrom_28 rfl ?_
        refine ih (k + 1) ρ (by omega) (by omega) (by omega) ((p3 _ _ (by omega)).trans hN) (fun r f a b c d => ?_) (fun r a b => ?_) (fun x i z1 z2 => (p3 x i (by omega)).trans (hF x i z1 z2))
        · by_cases e : r = k
          · subst e
            have := p1 f c d
            have q := hR.2.1 r f a (by omega) c d
            exact ⟨this.1.trans ((hF (34 + f) r (by omega) (by omega)).trans q.1), this.2.trans ((hF (38 + f) r (by omega) (by omega)).trans q.2)⟩
          · have q := hI r f a (by omega) c d
            exact ⟨(p3 _ _ (by omega)).trans q.1, (p3 _ _ (by omega)).trans q.2⟩
        · by_cases e : r = k
          · subst e
            have q := hR.2.2 r a (by omega)
            exact ⟨p2.1.trans ((hF 30 r (by omega) (by omega)).trans q.1), p2.2.trans ((hF 31 r (by omega) (by omega)).trans q.2)⟩
          · have q := hJ r a (by omega)
            exact ⟨(p3 _ _ (by omega)).trans q.1, (p3 _ _ (by omega)).trans q.2⟩
  refine fr_aload_n 1 dX3_copyFrom_0 rfl rfl ?_
  refine fr_aload_n 2 dX3_copyFrom_1 rfl rfl ?_
  refine fr_geti 5 0 dX3_copyFrom_2 rfl fs_kX3_9 rfl fs_l27 rfl ?_
  refine fr_puti 8 0 dX3_copyFrom_5 rfl fs_kX3_9 fs_pX3_0 rfl fs_l98 rfl ?_
  refine fr_iconst 9 dX3_copyFrom_8 rfl ?_
  refine fr_istore_n 10 [_, _, _] dX3_copyFrom_9 rfl (Nat.le_of_ble_eq_true rfl) rfl ?_
  refine key ((tn t).toNat + 1) 0 _ (by omega) (by omega) (by omega) ((fs_u_eq _ _ _ _).trans hn2) (fun r f a b => by omega) (fun r a b => by omega) (fun x i z1 z2 => fs_u_ne _ z1)
set_option maxRecDepth 100000 in
set_option maxHeartbeats 3000000 in
theorem cK_copyFrom_27_83 {σ : fs_S} {t : rt} (hw : twf t) (hR : RC 83 σ t) : fs_C mX3_copyFrom 1 [.inr 27, .inr 83] σ (Q_cf 27 t σ) := by
  refine fs_C.intro [some (.inr 27), some (.inr 83), none] fs_oX3_copyFrom (Nat.le_of_ble_eq_true rfl) rfl ?_
  have hn := hw.1
  have hn2 := hR.1
  have key : ∀ (m : Nat) (k : Int) (τ : fs_S), 0 ≤ k → k ≤ tn t → tn t - k < m → τ 27 0 = tn t → (∀ r f, 0 ≤ r → r < k → 0 ≤ f → f < 4 → τ (34 + f) r = tlo t r f ∧ τ (38 + f) r = thi t r f) → (∀ r, 0 ≤ r → r < k → τ 30 r = trk t r ∧ τ 31 r = tac t r) → (∀ k i, ¬ (k = 27 ∧ i = 0) → ¬ (k = 30 ∨ k = 31 ∨ 34 ≤ k ∧ k < 42) → τ k i = σ k i) → fs_W (fs_Γ 1 (Q_cf 27 t σ)) mX3_copyFrom 10 [some (.inr 27), some (.inr 83), some (.inl k)] [] τ := by
    intro m
    induction m with
    | zero => intro k τ h0 h1 h2; omega
    | succ m ih =>
      intro k τ h0 h1 h2 hN hI hJ hF
      refine fr_iload_n 11 dX3_copyFrom_10 rfl rfl ?_
      refine fr_aload_n 12 dX3_copyFrom_11 rfl rfl ?_
      refine fr_geti 15 0 dX3_copyFrom_12 rfl fs_kX3_9 rfl fs_l27 rfl ?_
      refine fr_icmp_ge 31 18 dX3_copyFrom_15 rfl rfl (by omega) (by omega) (fun h15 => ?_) (fun h15 => ?_)
      · refine fr_vret dX3_copyFrom_31 rfl ?_
        exact ⟨rfl, ⟨hN, fun r f a b c d => hI r f a (by omega) c d, fun r a b => hJ r a (by omega)⟩, hF⟩
      · refine fr_aload_n 19 dX3_copyFrom_18 rfl rfl ?_
        refine fr_aload_n 20 dX3_copyFrom_19 rfl rfl ?_
        refine fr_iload_n 21 dX3_copyFrom_20 rfl rfl ?_
        refine fr_iload_n 22 dX3_copyFrom_21 rfl rfl ?_
        refine fr_callVv 25 (M2 := mX3_copyRule) [_, _, _] dX3_copyFrom_22 rfl fs_mX3_40 fs_oX3_copyRule fs_iX3_copyRule fs_l27 rfl rfl (fs_Γ_rm (d := 0) (by decide)) (Nat.le_of_ble_eq_true rfl) rfl ?_
        refine (cK_copyRule_27_83 ⟨h0, by omega⟩ ⟨h0, by omega⟩).mono ?_
        rintro _ ρ ⟨rfl, p1, p2, p3⟩
        refine ⟨rfl, ?_⟩
        refine fr_iinc 28 [_, _, _] dX3_copyFrom_25 rfl rfl rfl ?_
        refine fr_goto 10 dX3_copyFrom_28 rfl ?_
        refine ih (k + 1) ρ (by omega) (by omega) (by omega) ((p3 _ _ (by omega)).trans hN) (fun r f a b c d => ?_) (fun r a b => ?_) (fun x i z1 z2 => (p3 x i (by omega)).trans (hF x i z1 z2))
        · by_cases e : r = k
          · subst e
            have := p1 f c d
            have q := hR.2.1 r f a (by omega) c d
            exact ⟨this.1.trans ((hF (90 + f) r (by omega) (by omega)).trans q.1), this.2.trans ((hF (94 + f) r (by omega) (by omega)).trans q.2)⟩
          · have q := hI r f a (by omega) c d
            exact ⟨(p3 _ _ (by omega)).trans q.1, (p3 _ _ (by omega)).trans q.2⟩
        · by_cases e : r = k
          · subst e
            have q := hR.2.2 r a (by omega)
            exact ⟨p2.1.trans ((hF 86 r (by omega) (by omega)).trans q.1), p2.2.trans ((hF 87 r (by omega) (by omega)).trans q.2)⟩
          · have q := hJ r a (by omega)
            exact ⟨(p3 _ _ (by omega)).trans q.1, (p3 _ _ (by omega)).trans q.2⟩
  refine fr_aload_n 1 dX3_copyFrom_0 rfl rfl ?_
  refine fr_aload_n 2 dX3_copyFrom_1 rfl rfl ?_
  refine fr_geti 5 0 dX3_copyFrom_2 rfl fs_kX3_9 rfl fs_l83 rfl ?_
  refine fr_puti 8 0 dX3_copyFrom_5 rfl fs_kX3_9 fs_pX3_0 rfl fs_l27 rfl ?_
  refine fr_iconst 9 dX3_copyFrom_8 rfl ?_
  refine fr_istore_n 10 [_, _, _] dX3_copyFrom_9 rfl (Nat.le_of_ble_eq_true rfl) rfl ?_
  refine key ((tn t).toNat + 1) 0 _ (by omega) (by omega) (by omega) ((fs_u_eq _ _ _ _).trans hn2) (fun r f a b => by omega) (fun r a b => by omega) (fun x i z1 z2 => fs_u_ne _ z1)
set_option maxRecDepth 100000 in
set_option maxHeartbeats 3000000 in
theorem cK_copyFrom_27_98 {σ : fs_S} {t : rt} (hw : twf t) (hR : RC 98 σ t) : fs_C mX3_copyFrom 1 [.inr 27, .inr 98] σ (Q_cf 27 t σ) := by
  refine fs_C.intro [some (.inr 27), some (.inr 98), none] fs_oX3_copyFrom (Nat.le_of_ble_eq_true rfl) rfl ?_
  have hn := hw.1
  have hn2 := hR.1
  have key : ∀ (m : Nat) (k : Int) (τ : fs_S), 0 ≤ k → k ≤ tn t → tn t - k < m → τ 27 0 = tn t → (∀ r f, 0 ≤ r → r < k → 0 ≤ f → f < 4 → τ (34 + f) r = tlo t r f ∧ τ (38 + f) r = thi t r f) → (∀ r, 0 ≤ r → r < k → τ 30 r = trk t r ∧ τ 31 r = tac t r) → (∀ k i, ¬ (k = 27 ∧ i = 0) → ¬ (k = 30 ∨ k = 31 ∨ 34 ≤ k ∧ k < 42) → τ k i = σ k i) → fs_W (fs_Γ 1 (Q_cf 27 t σ)) mX3_copyFrom 10 [some (.inr 27), some (.inr 98), some (.inl k)] [] τ := by
    intro m
    induction m with
    | zero => intro k τ h0 h1 h2; omega
    | succ m ih =>
      intro k τ h0 h1 h2 hN hI hJ hF
      refine fr_iload_n 11 dX3_copyFrom_10 rfl rfl ?_
      refine fr_aload_n 12 dX3_copyFrom_11 rfl rfl ?_
      refine fr_geti 15 0 dX3_copyFrom_12 rfl fs_kX3_9 rfl fs_l27 rfl ?_
      refine fr_icmp_ge 31 18 dX3_copyFrom_15 rfl rfl (by omega) (by omega) (fun h15 => ?_) (fun h15 => ?_)
      · refine fr_vret dX3_copyFrom_31 rfl ?_
        exact ⟨rfl, ⟨hN, fun r f a b c d => hI r f a (by omega) c d, fun r a b => hJ r a (by omega)⟩, hF⟩
      · refine fr_aload_n 19 dX3_copyFrom_18 rfl rfl ?_
        refine fr_aload_n 20 dX3_copyFrom_19 rfl rfl ?_
        refine fr_iload_n 21 dX3_copyFrom_20 rfl rfl ?_
        refine fr_iload_n 22 dX3_copyFrom_21 rfl rfl ?_
        refine fr_callVv 25 (M2 := mX3_copyRule) [_, _, _] dX3_copyFrom_22 rfl fs_mX3_40 fs_oX3_copyRule fs_iX3_copyRule fs_l27 rfl rfl (fs_Γ_rm (d := 0) (by decide)) (Nat.le_of_ble_eq_true rfl) rfl ?_
        refine (cK_copyRule_27_98 ⟨h0, by omega⟩ ⟨h0, by omega⟩).mono ?_
        rintro _ ρ ⟨rfl, p1, p2, p3⟩
        refine ⟨rfl, ?_⟩
        refine fr_iinc 28 [_, _, _] dX3_copyFrom_25 rfl rfl rfl ?_
        refine fr_goto 10 dX3_copyFrom_28 rfl ?_
        refine ih (k + 1) ρ (by omega) (by omega) (by omega) ((p3 _ _ (by omega)).trans hN) (fun r f a b c d => ?_) (fun r a b => ?_) (fun x i z1 z2 => (p3 x i (by omega)).trans (hF x i z1 z2))
        · by_cases e : r = k
          · subst e
            have := p1 f c d
            have q := hR.2.1 r f a (by omega) c d
            exact ⟨this.1.trans ((hF (105 + f) r (by omega) (by omega)).trans q.1), this.2.trans ((hF (109 + f) r (by omega) (by omega)).trans q.2)⟩
          · have q := hI r f a (by omega) c d
            exact ⟨(p3 _ _ (by omega)).trans q.1, (p3 _ _ (by omega)).trans q.2⟩
        · by_cases e : r = k
          · subst e
            have q := hR.2.2 r a (by omega)
            exact ⟨p2.1.trans ((hF 101 r (by omega) (by omega)).trans q.1), p2.2.trans ((hF 102 r (by omega) (by omega)).trans q.2)⟩
          · have q := hJ r a (by omega)
            exact ⟨(p3 _ _ (by omega)).trans q.1, (p3 _ _ (by omega)).trans q.2⟩
  refine fr_aload_n 1 dX3_copyFrom_0 rfl rfl ?_
  refine fr_aload_n 2 dX3_copyFrom_1 rfl rfl ?_
  refine fr_geti 5 0 dX3_copyFrom_2 rfl fs_kX3_9 rfl fs_l98 rfl ?_
  refine fr_puti 8 0 dX3_copyFrom_5 rfl fs_kX3_9 fs_pX3_0 rfl fs_l27 rfl ?_
  refine fr_iconst 9 dX3_copyFrom_8 rfl ?_
  refine fr_istore_n 10 [_, _, _] dX3_copyFrom_9 rfl (Nat.le_of_ble_eq_true rfl) rfl ?_
  refine key ((tn t).toNat + 1) 0 _ (by omega) (by omega) (by omega) ((fs_u_eq _ _ _ _).trans hn2) (fun r f a b => by omega) (fun r a b => by omega) (fun x i z1 z2 => fs_u_ne _ z1)
set_option maxRecDepth 100000 in
set_option maxHeartbeats 3000000 in
theorem cK_remove {σ : fs_S} {t : rt} {r : Int} (hw : twf t) (hR : RC 27 σ t) (hr : 0 ≤ r ∧ r < tn t) : fs_C mX3_remove 1 [.inr 27, .inl r] σ (Q_cf 27 (tDrop t r) σ) := by
  refine fs_C.intro [some (.inr 27), some (.inl r), none] fs_oX3_remove (Nat.le_of_ble_eq_true rfl) rfl ?_
  have hn := hw.1
  have hn2 := hR.1
  have key : ∀ (m : Nat) (k : Int) (τ : fs_S), r ≤ k → k < tn t → tn t - k < m → τ 27 0 = tn t → (∀ x f, 0 ≤ x → x < tn t → 0 ≤ f → f < 4 → τ (34 + f) x = tlo t (dk r k x) f ∧ τ (38 + f) x = thi t (dk r k x) f) → (∀ x, 0 ≤ x → x < tn t → τ 30 x = trk t (dk r k x) ∧ τ 31 x = tac t (dk r k x)) → (∀ k i, ¬ (k = 27 ∧ i = 0) → ¬ (k = 30 ∨ k = 31 ∨ 34 ≤ k ∧ k < 42) → τ k i = σ k i) → fs_W (fs_Γ 1 (Q_cf 27 (tDrop t r) σ)) mX3_remove 11 [some (.inr 27), some (.inl r), some (.inl k)] [] τ := by
    intro m
    induction m with
    | zero => intro k τ h0 h1 h2; omega
    | succ m ih =>
      intro k τ h0 h1 h2 hN hI hJ hF
      refine fr_iload_n 12 dX3_remove_11 rfl rfl ?_
      refine fr_iconst 13 dX3_remove_12 rfl ?_
      refine fr_iadd 14 dX3_remove_13 rfl ?_
      refine fr_aload_n 15 dX3_remove_14 rfl rfl ?_
      refine fr_geti 18 0 dX3_remove_15 rfl fs_kX3_9 rfl fs_l27 rfl ?_
      refine fr_icmp_ge 36 21 dX3_remove_18 rfl rfl (by omega) (by omega) (fun h18 => ?_) (fun h18 => ?_)
      · refine fr_aload_n 37 dX3_remove_36 rfl rfl ?_
        refine fr_dup 38 dX3_remove_37 rfl ?_
        refine fr_geti 41 0 dX3_remove_38 rfl fs_kX3_9 rfl fs_l27 rfl ?_
        refine fr_iconst 42 dX3_remove_41 rfl ?_
        refine fr_isub 43 dX3_remove_42 rfl ?_
        refine fr_puti 46 0 dX3_remove_43 rfl fs_kX3_9 fs_pX3_0 rfl fs_l27 rfl ?_
        refine fr_vret dX3_remove_46 rfl ?_
        have ek : k = tn t - 1 := by omega
        have ed : ∀ x, 0 ≤ x → x < tn t - 1 → dk r k x = dx r x := fun x a b => by unfold dk dx; (repeat' split) <;> omega
        refine ⟨rfl, ⟨(fs_u_eq _ _ _ _).trans (by show _ = tn t - 1; omega), fun x f a b c d => ?_, fun x a b => ?_⟩, fun x i z1 z2 => ?_⟩
        · have bb : x < tn t - 1 := b
          have q := hI x f a (by omega) c d
          rw [ed x a bb] at q
          show fs_u τ 27 0 _ (34 + f) x = tlo t (dx r x) f ∧ fs_u τ 27 0 _ (38 + f) x = thi t (dx r x) f
          rw [fs_u_k _ _ (by omega), fs_u_k _ _ (by omega)]
          exact q
        · have bb : x < tn t - 1 := b
          have q := hJ x a (by omega)
          rw [ed x a bb] at q
          show fs_u τ 27 0 _ 30 x = trk t (dx r x) ∧ fs_u τ 27 0 _ 31 x = tac t (dx r x)
          rw [fs_u_k _ _ (by decide), fs_u_k _ _ (by decide)]
          exact q
        · rw [fs_u_ne _ z1]; exact hF x i z1 z2
      · refine fr_aload_n 22 dX3_remove_21 rfl rfl ?_
        refine fr_aload_n 23 dX3_remove_22 rfl rfl ?_
        refine fr_iload_n 24 dX3_remove_23 rfl rfl ?_
        refine fr_iconst 25 dX3_remove_24 rfl ?_
        refine fr_iadd 26 dX3_remove_25 rfl ?_
        refine fr_iload_n 27 dX3_remove_26 rfl rfl ?_
        refine fr_callVv 30 (M2 := mX3_copyRule) [_, _, _] dX3_remove_27 rfl fs_mX3_40 fs_oX3_copyRule fs_iX3_copyRule fs_l27 rfl rfl (fs_Γ_rm (d := 0) (by decide)) (Nat.le_of_ble_eq_true rfl) rfl ?_
        refine (cK_copyRule_27_27 ⟨by omega, by omega⟩ ⟨by omega, by omega⟩ (by omega)).mono ?_
        rintro _ ρ ⟨rfl, p1, p2, p3⟩
        refine ⟨rfl, ?_⟩
        refine fr_iinc 33 [_, _, _] dX3_remove_30 rfl rfl rfl ?_
        refine fr_goto 11 dX3_remove_33 rfl ?_
        have ed1 : dk r k (k + 1) = k + 1 := by unfold dk; (repeat' split) <;> omega
        have ed2 : dk r (k + 1) k = k + 1 := by unfold dk; (repeat' split) <;> omega
        have ed3 : ∀ x, x ≠ k → dk r (k + 1) x = dk r k x := fun x z => by unfold dk; (repeat' split) <;> omega
        refine ih (k + 1) ρ (by omega) (by omega) (by omega) ((p3 _ _ (by omega)).trans hN) (fun x f a b c d => ?_) (fun x a b => ?_) (fun x i z1 z2 => (p3 x i (by omega)).trans (hF x i z1 z2))
        · by_cases e : x = k
          · subst e
            have := p1 f c d
            have q := hI (x + 1) f (by omega) (by omega) c d
            rw [ed1] at q
            rw [ed2]
            exact ⟨this.1.trans q.1, this.2.trans q.2⟩
          · have q := hI x f a b c d
            rw [ed3 x e]
            exact ⟨(p3 _ _ (by omega)).trans q.1, (p3 _ _ (by omega)).trans q.2⟩
        · by_cases e : x = k
          · subst e
            have q := hJ (x + 1) (by omega) (by omega)
            rw [ed1] at q
            rw [ed2]
            exact ⟨p2.1.trans q.1, p2.2.trans q.2⟩
          · have q := hJ x a b
            rw [ed3 x e]
            exact ⟨(p3 _ _ (by omega)).trans q.1, (p3 _ _ (by omega)).trans q.2⟩
  refine fr_aload_n 1 dX3_remove_0 rfl rfl ?_
  refine fr_iload_n 2 dX3_remove_1 rfl rfl ?_
  refine fr_callVi 5 (M2 := mX3_has) [_] dX3_remove_2 rfl fs_mX3_36 fs_oX3_has fs_iX3_has fs_l27 rfl rfl (fs_Γ_rm (d := 0) (by decide)) (Nat.le_of_ble_eq_true rfl) rfl ?_
  refine (cK_has hw hn2 (by omega)).ci ?_
  refine fr_if_ne 9 8 dX3_remove_5 rfl rfl (by split <;> decide) (fun h5 => ?_) (fun h5 => ?_)
  · refine fr_iload_n 10 dX3_remove_9 rfl rfl ?_
    refine fr_istore_n 11 [_, _, _] dX3_remove_10 rfl (Nat.le_of_ble_eq_true rfl) rfl ?_
    have ed : ∀ x, dk r r x = x := fun x => by unfold dk; split <;> omega
    exact key ((tn t).toNat + 1) r σ (by omega) (by omega) (by omega) hn2 (fun x f a b c d => by rw [ed x]; exact hR.lh ⟨a, b⟩ ⟨c, d⟩) (fun x a b => by rw [ed x]; exact hR.ra ⟨a, b⟩) (fun _ _ _ _ => rfl)
  · exact absurd h5 (by rw [if_pos hr]; decide)
set_option maxRecDepth 100000 in
set_option maxHeartbeats 3000000 in
theorem cK_add {σ : fs_S} {A : ab} {rk ac : Int} (hw : twf A.1) (hR : RC 27 σ A.1) (hD : ∀ f, 0 ≤ f → f < 4 → σ 80 f = A.2.1.1 f ∧ σ 81 f = A.2.1.2 f) (h16 : tn A.1 < 16) : fs_C mX3_add 0 [.inr 27, .inr 80, .inr 81, .inl rk, .inl ac] σ (Q_cf 27 (nRule A rk ac).1 σ) := by
  refine fs_C.intro [some (.inr 27), some (.inr 80), some (.inr 81), some (.inl rk), some (.inl ac), none] fs_oX3_add (Nat.le_of_ble_eq_true rfl) rfl ?_
  have hn := hw.1
  have hn2 := hR.1
  have key : ∀ (m : Nat) (f : Int) (τ : fs_S), 0 ≤ f → f ≤ 4 → 4 - f < m → (∀ g, 0 ≤ g → g < f → τ (34 + g) (tn A.1) = A.2.1.1 g ∧ τ (38 + g) (tn A.1) = A.2.1.2 g) → (∀ k i, ¬ ((34 ≤ k ∧ k < 42) ∧ i = tn A.1) → τ k i = σ k i) → fs_W (fs_Γ 0 (Q_cf 27 (nRule A rk ac).1 σ)) mX3_add 13 [some (.inr 27), some (.inr 80), some (.inr 81), some (.inl rk), some (.inl ac), some (.inl f)] [] τ := by
    intro m
    induction m with
    | zero => intro f τ h0 h1 h2; omega
    | succ m ih =>
      intro f τ h0 h1 h2 hI hF
      have q0 : τ 27 0 = tn A.1 := (hF 27 0 (by omega)).trans hn2
      refine fr_iload 15 dX3_add_13 rfl rfl ?_
      refine fr_iconst 16 dX3_add_15 rfl ?_
      refine fr_icmp_ge 57 19 dX3_add_16 rfl rfl (by omega) (by omega) (fun h16 => ?_) (fun h16 => ?_)
      · refine fr_aload_n 58 dX3_add_57 rfl rfl ?_
        refine fr_getr 61 30 dX3_add_58 rfl fs_kX3_23 fs_l27 rfl ?_
        refine fr_aload_n 62 dX3_add_61 rfl rfl ?_
        refine fr_geti 65 0 dX3_add_62 rfl fs_kX3_9 rfl fs_l27 rfl ?_
        refine fr_top q0 ?_
        refine fr_iload_n 66 dX3_add_65 rfl rfl ?_
        refine fr_iast 67 dX3_add_66 rfl fs_l30 (by omega) ?_
        refine fr_aload_n 68 dX3_add_67 rfl rfl ?_
        refine fr_getr 71 31 dX3_add_68 rfl fs_kX3_27 fs_l27 rfl ?_
        refine fr_aload_n 72 dX3_add_71 rfl rfl ?_
        refine fr_geti 75 0 dX3_add_72 rfl fs_kX3_9 rfl fs_l27 rfl ?_
        refine fr_top ((fs_u_k _ _ (by omega)).trans q0) ?_
        refine fr_iload 77 dX3_add_75 rfl rfl ?_
        refine fr_iast 78 dX3_add_77 rfl fs_l31 (by omega) ?_
        refine fr_aload_n 79 dX3_add_78 rfl rfl ?_
        refine fr_dup 80 dX3_add_79 rfl ?_
        refine fr_geti 83 0 dX3_add_80 rfl fs_kX3_9 rfl fs_l27 rfl ?_
        refine fr_top ((fs_u_k _ _ (by omega)).trans ((fs_u_k _ _ (by omega)).trans q0)) ?_
        refine fr_iconst 84 dX3_add_83 rfl ?_
        refine fr_iadd 85 dX3_add_84 rfl ?_
        refine fr_puti 88 0 dX3_add_85 rfl fs_kX3_9 fs_pX3_0 rfl fs_l27 rfl ?_
        refine fr_vret dX3_add_88 rfl ?_
        have e : f = 4 := by omega
        subst e
        refine ⟨rfl, ⟨fs_u_eq _ _ _ _, fun x g a b c d => ?_, fun x a b => ?_⟩, fun k i z1 z2 => ?_⟩
        · have bb : x < tn A.1 + 1 := b
          show fs_u _ 27 0 _ (34 + g) x = (if x = tn A.1 then A.2.1.1 g else tlo A.1 x g) ∧ fs_u _ 27 0 _ (38 + g) x = (if x = tn A.1 then A.2.1.2 g else thi A.1 x g)
          rw [fs_u_k _ _ (by omega), fs_u_k _ _ (by omega), fs_u_k _ _ (by omega), fs_u_k _ _ (by omega), fs_u_k _ _ (by omega), fs_u_k _ _ (by omega)]
          by_cases e : x = tn A.1
          · rw [if_pos e, if_pos e, e]; exact hI g c d
          · rw [if_neg e, if_neg e, hF _ _ (by omega), hF _ _ (by omega)]
            exact hR.lh ⟨a, by omega⟩ ⟨c, d⟩
        · have bb : x < tn A.1 + 1 := b
          show fs_u (fs_u (fs_u τ 30 (tn A.1) rk) 31 (tn A.1) ac) 27 0 _ 30 x = (if x = tn A.1 then rk else trk A.1 x) ∧ fs_u (fs_u (fs_u τ 30 (tn A.1) rk) 31 (tn A.1) ac) 27 0 _ 31 x = (if x = tn A.1 then ac else tac A.1 x)
          by_cases e : x = tn A.1
          · rw [if_pos e, if_pos e, e]
            exact ⟨by rw [fs_u_k _ _ (by decide), fs_u_k _ _ (by decide)]; exact fs_u_eq _ _ _ _, by rw [fs_u_k _ _ (by decide)]; exact fs_u_eq _ _ _ _⟩
          · rw [if_neg e, if_neg e]
            have q := hR.ra (r := x) ⟨a, by omega⟩
            exact ⟨by rw [fs_u_k _ _ (by decide), fs_u_k _ _ (by decide), fs_u_i _ e, hF _ _ (by omega)]; exact q.1, by rw [fs_u_k _ _ (by decide), fs_u_i _ e, fs_u_k _ _ (by decide), hF _ _ (by omega)]; exact q.2⟩
        · rw [fs_u_ne _ z1, fs_u_ne _ (by omega), fs_u_ne _ (by omega)]
          exact hF k i (by omega)
      · refine fr_aload_n 20 dX3_add_19 rfl rfl ?_
        refine fr_getr 23 28 dX3_add_20 rfl fs_kX3_17 fs_l27 rfl ?_
        refine fr_iload 25 dX3_add_23 rfl rfl ?_
        refine fr_aald 26 dX3_add_25 rfl fs_l28 (by omega) ?_
        refine fr_aload_n 27 dX3_add_26 rfl rfl ?_
        refine fr_geti 30 0 dX3_add_27 rfl fs_kX3_9 rfl fs_l27 rfl ?_
        refine fr_top q0 ?_
        refine fr_aload_n 31 dX3_add_30 rfl rfl ?_
        refine fr_iload 33 dX3_add_31 rfl rfl ?_
        refine fr_iald 34 dX3_add_33 rfl fs_l80 (by omega) ?_
        refine fr_iast 35 dX3_add_34 rfl (fs_f34 _ (by omega)) (by omega) ?_
        refine fr_aload_n 36 dX3_add_35 rfl rfl ?_
        refine fr_getr 39 29 dX3_add_36 rfl fs_kX3_20 fs_l27 rfl ?_
        refine fr_iload 41 dX3_add_39 rfl rfl ?_
        refine fr_aald 42 dX3_add_41 rfl fs_l29 (by omega) ?_
        refine fr_aload_n 43 dX3_add_42 rfl rfl ?_
        refine fr_geti 46 0 dX3_add_43 rfl fs_kX3_9 rfl fs_l27 rfl ?_
        refine fr_top ((fs_u_k _ _ (by omega)).trans q0) ?_
        refine fr_aload_n 47 dX3_add_46 rfl rfl ?_
        refine fr_iload 49 dX3_add_47 rfl rfl ?_
        refine fr_iald 50 dX3_add_49 rfl fs_l81 (by omega) ?_
        refine fr_iast 51 dX3_add_50 rfl (fs_f38 _ (by omega)) (by omega) ?_
        refine fr_iinc 54 [_, _, _, _, _, _] dX3_add_51 rfl rfl rfl ?_
        refine fr_goto 13 dX3_add_54 rfl ?_
        have q1 := hF 80 f (by omega)
        have q2 := hF 81 f (by omega)
        have q3 := hD f h0 (by omega)
        refine ih (f + 1) _ (by omega) (by omega) (by omega) (fun g a b => ?_) (fun k i z => ?_)
        · by_cases e : g = f
          · subst e
            constructor
            · unfold fs_u; (repeat' split) <;> omega
            · unfold fs_u; (repeat' split) <;> omega
          · have q3 := hI g a (by omega)
            constructor
            · rw [fs_u_k _ _ (by omega), fs_u_k _ _ (by omega)]; exact q3.1
            · rw [fs_u_k _ _ (by omega), fs_u_k _ _ (by omega)]; exact q3.2
        · rw [fs_u_ne _ (by omega), fs_u_ne _ (by omega)]
          exact hF k i (by omega)
  refine fr_aload_n 1 dX3_add_0 rfl rfl ?_
  refine fr_geti 4 0 dX3_add_1 rfl fs_kX3_9 rfl fs_l27 rfl ?_
  refine fr_bipush 6 dX3_add_4 rfl (by decide) ?_
  refine fr_icmp_lt 10 9 dX3_add_6 rfl rfl (by omega) (by omega) (fun h6 => ?_) (fun h6 => ?_)
  · refine fr_iconst 11 dX3_add_10 rfl ?_
    refine fr_istore 13 [_, _, _, _, _, _] dX3_add_11 rfl (Nat.le_of_ble_eq_true rfl) rfl ?_
    exact key 5 0 σ (by omega) (by omega) (by omega) (fun g a b => by omega) (fun k i z => rfl)
  · omega
