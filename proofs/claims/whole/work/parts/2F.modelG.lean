/-! ===== the model: counts; the whole model ===== -/
def nIdle (t : rt) (k : Int) : Int := smI (fun r => if 0 < S4 t (gN t r) then 0 else 1) k
def nCov (t : rt) (k : Int) : Int := smI (fun r => if 0 ≤ tcv t r then 1 else 0) k
def nEnt (t : rt) (k : Int) : Int := smI (fun i => es t ((TL t).getD i.toNat (0, 0)).1 (tn t)) k
def aCount (A : ab) (w : Int) : Int := if w = 0 then tn A.1 else if w = 1 then ((TL A.1).length : Int) else if w = 2 then nEnt A.1 ((TL A.1).length : Int) else if w = 3 then A.2.2.1.1 else if w = 4 then A.2.2.1.2 else if w = 5 then nIdle A.1 (tn A.1) else if w = 6 then nCov A.1 (tn A.1) else if w = 7 then (A.2.2.2 0).1 + 2 * (A.2.2.2 1).1 else -2
set_option maxRecDepth 100000 in
set_option maxHeartbeats 3000000 in
theorem cM_idleOnes {σ : fs_S} {t : rt} (hw : twf t) (hR : RM σ t) (hb : σ 0 7 = 0 ∨ σ 0 7 = 1) (hv : σ 0 7 = 1 → OV σ t) (hb8 : σ 0 8 = 0 ∨ σ 0 8 = 1) (hv8 : σ 0 8 = 1 → AC σ t (S4 t)) : fs_C mX7_idleOnes 4 [.inr 0] σ (Q_swA t σ (nIdle t (tn t))) := by
  refine fs_C.intro [some (.inr 0), none, none] fs_oX7_idleOnes (Nat.le_of_ble_eq_true rfl) rfl ?_
  have hn := hw.1
  have key : ∀ (τ : fs_S), AC τ t (S4 t) → OV τ t → τ 0 7 = 1 → τ 0 8 = 1 → frS σ τ → ∀ (m : Nat) (k : Int), 0 ≤ k → k ≤ tn t → tn t - k < m → fs_W (fs_Γ 4 (Q_swA t σ (nIdle t (tn t)))) mX7_idleOnes 8 [some (.inr 0), some (.inl (nIdle t k)), some (.inl k)] [] τ := by
    intro τ hA hO h7 h8 hF m
    have e0 : τ 0 0 = tn t := (hF _ _ (by decide) (by decide)).trans hR.1
    induction m with
    | zero => intro k h0 h1 h2; omega
    | succ m ih =>
      intro k h0 h1 h2
      have q := fun (z : k < 16) => hA.2.1 k h0 z
      have st : nIdle t (k + 1) = nIdle t k + (if 0 < S4 t (gN t k) then 0 else 1) := smI_s _ h0
      have hr : k < 16 → (-2147483648 ≤ τ 11 k ∧ τ 11 k < 2147483648) := fun z => by
        have := q z
        by_cases e : 0 < S4 t (gN t k)
        · rw [this.2.1 e]; decide
        · rw [this.2.2 (by omega)]; decide
      refine fr_iload_n 9 dX7_idleOnes_8 rfl rfl ?_
      refine fr_aload_n 10 dX7_idleOnes_9 rfl rfl ?_
      refine fr_geti 13 0 dX7_idleOnes_10 rfl fs_kX7_104 rfl fs_l0 rfl ?_
      refine fr_icmp_ge 39 16 dX7_idleOnes_13 rfl rfl (by omega) (by omega) (fun h13 => ?_) (fun h13 => ?_)
      · refine fr_iload_n 40 dX7_idleOnes_39 rfl rfl ?_
        refine fr_iret dX7_idleOnes_40 rfl ?_
        exact ⟨congrArg some (by rw [show k = tn t by omega]), Or.inr ⟨hA, hO, h7, h8, hF⟩⟩
      · refine fr_iload_n 17 dX7_idleOnes_16 rfl rfl ?_
        refine fr_aload_n 18 dX7_idleOnes_17 rfl rfl ?_
        refine fr_getr 21 11 dX7_idleOnes_18 rfl fs_kX7_47 fs_l0 rfl ?_
        refine fr_iload_n 22 dX7_idleOnes_21 rfl rfl ?_
        refine fr_zald 23 dX7_idleOnes_22 rfl fs_l11 (by omega) ?_
        refine fr_if_eq 30 26 dX7_idleOnes_23 rfl rfl (hr (by omega)) (fun h23 => ?_) (fun h23 => ?_)
        · refine fr_iconst 31 dX7_idleOnes_30 rfl ?_
          refine fr_iadd 32 dX7_idleOnes_31 rfl ?_
          refine fr_top (y := nIdle t (k + 1)) (by
            rw [st]
            have q1 := q (by omega)
            by_cases e : 0 < S4 t (gN t k)
            · have := q1.2.1 e; rw [if_pos e] <;> omega
            · have := q1.2.2 (by omega); rw [if_neg e] <;> omega) ?_
          refine fr_istore_n 33 [_, _, _] dX7_idleOnes_32 rfl (Nat.le_of_ble_eq_true rfl) rfl ?_
          refine fr_iinc 36 [_, _, _] dX7_idleOnes_33 rfl rfl rfl ?_
          refine fr_goto 8 dX7_idleOnes_36 rfl ?_
          exact ih (k + 1) (by omega) (by omega) (by omega)
        · refine fr_iconst 27 dX7_idleOnes_26 rfl ?_
          refine fr_goto 31 dX7_idleOnes_27 rfl ?_
          refine fr_iadd 32 dX7_idleOnes_31 rfl ?_
          refine fr_top (y := nIdle t (k + 1)) (by
            rw [st]
            have q1 := q (by omega)
            by_cases e : 0 < S4 t (gN t k)
            · have := q1.2.1 e; rw [if_pos e] <;> omega
            · have := q1.2.2 (by omega); rw [if_neg e] <;> omega) ?_
          refine fr_istore_n 33 [_, _, _] dX7_idleOnes_32 rfl (Nat.le_of_ble_eq_true rfl) rfl ?_
          refine fr_iinc 36 [_, _, _] dX7_idleOnes_33 rfl rfl rfl ?_
          refine fr_goto 8 dX7_idleOnes_36 rfl ?_
          exact ih (k + 1) (by omega) (by omega) (by omega)
  refine fr_aload_n 1 dX7_idleOnes_0 rfl rfl ?_
  refine fr_callVv 4 (M2 := mX7_sweep) [] dX7_idleOnes_1 rfl fs_mX7_168 fs_oX7_sweep fs_iX7_sweep fs_l0 rfl rfl (fs_Γ_rm (d := 3) (by decide)) (Nat.le_of_ble_eq_true rfl) rfl ?_
  refine (cM_sweep hw hR hb hv hb8 hv8).mono ?_
  rintro _ τ ⟨rfl, hA, hO, h7, h8, hF⟩
  refine ⟨rfl, ?_⟩
  refine fr_iconst 5 dX7_idleOnes_4 rfl ?_
  refine fr_istore_n 6 [_, _, _] dX7_idleOnes_5 rfl (Nat.le_of_ble_eq_true rfl) rfl ?_
  refine fr_iconst 7 dX7_idleOnes_6 rfl ?_
  refine fr_istore_n 8 [_, _, _] dX7_idleOnes_7 rfl (Nat.le_of_ble_eq_true rfl) rfl ?_
  exact key τ hA hO h7 h8 hF ((tn t).toNat + 1) 0 (by omega) (by omega) (by omega)
theorem tcv_r {t : rt} {r : Int} (hr : 0 ≤ r ∧ r < tn t) : tcv t r = -6 ∨ (0 ≤ tcv t r ∧ tcv t r < tn t) := by
  have hrr := tpl_r hr.1 hr.2
  unfold tcv
  split
  · next h =>
    have l := lea_spec (fun p => twi t (tod t p) r) hrr.1
    have := tod_r (t := t) l.1 (by omega)
    exact Or.inr ⟨this.1, this.2.1⟩
  · exact Or.inl rfl
set_option maxRecDepth 100000 in
set_option maxHeartbeats 3000000 in
theorem cM_coveredOnes {σ : fs_S} {t : rt} (hw : twf t) (hR : RM σ t) : fs_C mX7_coveredOnes 2 [.inr 0] σ (fun x τ => x = some (nCov t (tn t)) ∧ τ = σ) := by
  refine fs_C.intro [some (.inr 0), none, none] fs_oX7_coveredOnes (Nat.le_of_ble_eq_true rfl) rfl ?_
  have hn := hw.1
  have hm := hR.1
  have key : ∀ (m : Nat) (k : Int), 0 ≤ k → k ≤ tn t → tn t - k < m → fs_W (fs_Γ 2 (fun x τ => x = some (nCov t (tn t)) ∧ τ = σ)) mX7_coveredOnes 4 [some (.inr 0), some (.inl (nCov t k)), some (.inl k)] [] σ := by
    intro m
    induction m with
    | zero => intro k h0 h1 h2; omega
    | succ m ih =>
      intro k h0 h1 h2
      have st : nCov t (k + 1) = nCov t k + (if 0 ≤ tcv t k then 1 else 0) := smI_s _ h0
      refine fr_iload_n 5 dX7_coveredOnes_4 rfl rfl ?_
      refine fr_aload_n 6 dX7_coveredOnes_5 rfl rfl ?_
      refine fr_geti 9 0 dX7_coveredOnes_6 rfl fs_kX7_104 rfl fs_l0 rfl ?_
      refine fr_icmp_ge 34 12 dX7_coveredOnes_9 rfl rfl (by omega) (by omega) (fun h9 => ?_) (fun h9 => ?_)
      · refine fr_iload_n 35 dX7_coveredOnes_34 rfl rfl ?_
        refine fr_iret dX7_coveredOnes_35 rfl ?_
        exact ⟨congrArg some (by rw [show k = tn t by omega]), rfl⟩
      · refine fr_iload_n 13 dX7_coveredOnes_12 rfl rfl ?_
        refine fr_aload_n 14 dX7_coveredOnes_13 rfl rfl ?_
        refine fr_iload_n 15 dX7_coveredOnes_14 rfl rfl ?_
        refine fr_callVi 18 (M2 := mX7_coverOf) [_] dX7_coveredOnes_15 rfl fs_mX7_174 fs_oX7_coverOf fs_iX7_coverOf fs_l0 rfl rfl (fs_Γ_rm (d := 1) (by decide)) (Nat.le_of_ble_eq_true rfl) rfl ?_
        refine (cM_coverOf hw hR ⟨h0, by omega⟩).ci ?_
        have cr := tcv_r (t := t) (r := k) ⟨h0, by omega⟩
        refine fr_if_lt 25 21 dX7_coveredOnes_18 rfl rfl (by omega) (fun h18 => ?_) (fun h18 => ?_)
        · refine fr_iconst 26 dX7_coveredOnes_25 rfl ?_
          refine fr_iadd 27 dX7_coveredOnes_26 rfl ?_
          refine fr_top (y := nCov t (k + 1)) (by rw [st]; split <;> omega) ?_
          refine fr_istore_n 28 [_, _, _] dX7_coveredOnes_27 rfl (Nat.le_of_ble_eq_true rfl) rfl ?_
          refine fr_iinc 31 [_, _, _] dX7_coveredOnes_28 rfl rfl rfl ?_
          refine fr_goto 4 dX7_coveredOnes_31 rfl ?_
          exact ih (k + 1) (by omega) (by omega) (by omega)
        · refine fr_iconst 22 dX7_coveredOnes_21 rfl ?_
          refine fr_goto 26 dX7_coveredOnes_22 rfl ?_
          refine fr_iadd 27 dX7_coveredOnes_26 rfl ?_
          refine fr_top (y := nCov t (k + 1)) (by rw [st]; split <;> omega) ?_
          refine fr_istore_n 28 [_, _, _] dX7_coveredOnes_27 rfl (Nat.le_of_ble_eq_true rfl) rfl ?_
          refine fr_iinc 31 [_, _, _] dX7_coveredOnes_28 rfl rfl rfl ?_
          refine fr_goto 4 dX7_coveredOnes_31 rfl ?_
          exact ih (k + 1) (by omega) (by omega) (by omega)
  refine fr_iconst 1 dX7_coveredOnes_0 rfl ?_
  refine fr_istore_n 2 [_, _, _] dX7_coveredOnes_1 rfl (Nat.le_of_ble_eq_true rfl) rfl ?_
  refine fr_iconst 3 dX7_coveredOnes_2 rfl ?_
  refine fr_istore_n 4 [_, _, _] dX7_coveredOnes_3 rfl (Nat.le_of_ble_eq_true rfl) rfl ?_
  exact key ((tn t).toNat + 1) 0 (by omega) (by omega) (by omega)
set_option maxRecDepth 100000 in
set_option maxHeartbeats 3000000 in
theorem cM_allEntries {σ : fs_S} {t : rt} (hw : twf t) (hR : RM σ t) (hb : σ 0 7 = 0 ∨ σ 0 7 = 1) (hv : σ 0 7 = 1 → OV σ t) (hb9 : σ 0 9 = 0 ∨ σ 0 9 = 1) (hv9 : σ 0 9 = 1 → LV σ t) : fs_C mX7_allEntries 4 [.inr 0] σ (Q_ltA t σ (nEnt t ((TL t).length : Int))) := by
  refine fs_C.intro [some (.inr 0), none, none] fs_oX7_allEntries (Nat.le_of_ble_eq_true rfl) rfl ?_
  have hn := hw.1
  have hlen := lsK_len_le t (tn t).toNat
  change (TL t).length ≤ 1029 at hlen
  have key : ∀ (τ : fs_S), LV τ t → OV τ t → τ 0 7 = 1 → τ 0 9 = 1 → frL σ τ → ∀ (m : Nat) (k : Int), 0 ≤ k → k ≤ ((TL t).length : Int) → ((TL t).length : Int) - k < m → fs_W (fs_Γ 4 (Q_ltA t σ (nEnt t ((TL t).length : Int)))) mX7_allEntries 8 [some (.inr 0), some (.inl (nEnt t k)), some (.inl k)] [] τ := by
    intro τ hV hO h7 h9 hF m
    have hRt : RM τ t := hR.eq hw (hF _ _ (by decide) (by decide)) (fun k i a b _ _ => hF k i (by omega) (by omega))
    have e23 := hV.2.2.1
    induction m with
    | zero => intro k h0 h1 h2; omega
    | succ m ih =>
      intro k h0 h1 h2
      have st : nEnt t (k + 1) = nEnt t k + es t ((TL t).getD k.toNat (0, 0)).1 (tn t) := smI_s _ h0
      refine fr_iload_n 9 dX7_allEntries_8 rfl rfl ?_
      refine fr_aload_n 10 dX7_allEntries_9 rfl rfl ?_
      refine fr_geti 13 23 dX7_allEntries_10 rfl fs_kX7_199 rfl fs_l0 rfl ?_
      refine fr_icmp_ge 35 16 dX7_allEntries_13 rfl rfl (by omega) (by omega) (fun h13 => ?_) (fun h13 => ?_)
      · refine fr_iload_n 36 dX7_allEntries_35 rfl rfl ?_
        refine fr_iret dX7_allEntries_36 rfl ?_
        exact ⟨congrArg some (by rw [show k = ((TL t).length : Int) by omega]), Or.inr ⟨hV, hO, h7, h9, hF⟩⟩
      · obtain ⟨q1, q2, q3⟩ := TL_at hn.1 (t := t) (i := k) h0 (by omega)
        have q4 := hV.2.2.2 _ _ q1
        rw [show ((k.toNat : Nat) : Int) = k by omega] at q4
        refine fr_iload_n 17 dX7_allEntries_16 rfl rfl ?_
        refine fr_aload_n 18 dX7_allEntries_17 rfl rfl ?_
        refine fr_aload_n 19 dX7_allEntries_18 rfl rfl ?_
        refine fr_getr 22 14 dX7_allEntries_19 rfl fs_kX7_57 fs_l0 rfl ?_
        refine fr_iload_n 23 dX7_allEntries_22 rfl rfl ?_
        refine fr_iald 24 dX7_allEntries_23 rfl fs_l14 (by omega) ?_
        refine fr_top q4.1 ?_
        refine fr_callVi 27 (M2 := mX7_entries) [_] dX7_allEntries_24 rfl fs_mX7_205 fs_oX7_entries fs_iX7_entries fs_l0 rfl rfl (fs_Γ_rm (d := 2) (by decide)) (Nat.le_of_ble_eq_true rfl) rfl ?_
        refine (cM_entries hw hRt hV.1 q2).ci ?_
        refine fr_iadd 28 dX7_allEntries_27 rfl ?_
        refine fr_top st.symm ?_
        refine fr_istore_n 29 [_, _, _] dX7_allEntries_28 rfl (Nat.le_of_ble_eq_true rfl) rfl ?_
        refine fr_iinc 32 [_, _, _] dX7_allEntries_29 rfl rfl rfl ?_
        refine fr_goto 8 dX7_allEntries_32 rfl ?_
        exact ih (k + 1) (by omega) (by omega) (by omega)
  refine fr_aload_n 1 dX7_allEntries_0 rfl rfl ?_
  refine fr_callVv 4 (M2 := mX7_listTuples) [] dX7_allEntries_1 rfl fs_mX7_202 fs_oX7_listTuples fs_iX7_listTuples fs_l0 rfl rfl (fs_Γ_rm (d := 3) (by decide)) (Nat.le_of_ble_eq_true rfl) rfl ?_
  refine (cM_listTuples hw hR hb hv hb9 hv9).mono ?_
  rintro _ τ ⟨rfl, hV, hO, h7, h9, hF⟩
  refine ⟨rfl, ?_⟩
  refine fr_iconst 5 dX7_allEntries_4 rfl ?_
  refine fr_istore_n 6 [_, _, _] dX7_allEntries_5 rfl (Nat.le_of_ble_eq_true rfl) rfl ?_
  refine fr_iconst 7 dX7_allEntries_6 rfl ?_
  refine fr_istore_n 8 [_, _, _] dX7_allEntries_7 rfl (Nat.le_of_ble_eq_true rfl) rfl ?_
  exact key τ hV hO h7 h9 hF ((TL t).length + 1) 0 (by omega) (by omega) (by omega)
/-! the whole model: its state stands for A, and what it has worked out is right -/
def IM (σ : fs_S) (A : ab) : Prop := IMc σ A ∧ ((σ 0 7 = 0 ∨ σ 0 7 = 1) ∧ (σ 0 7 = 1 → OV σ A.1)) ∧ ((σ 0 8 = 0 ∨ σ 0 8 = 1) ∧ (σ 0 8 = 1 → AC σ A.1 (S4 A.1))) ∧ ((σ 0 9 = 0 ∨ σ 0 9 = 1) ∧ (σ 0 9 = 1 → LV σ A.1)) ∧ ((σ 0 10 = 0 ∨ σ 0 10 = 1) ∧ (σ 0 10 = 1 → TV σ A.1 A.2.2.1.1 A.2.2.1.2))
theorem IM.down {τ : fs_S} {A : ab} (h : IMc τ A) (hf : fl0 τ) : IM τ A :=
  ⟨h, ⟨Or.inl (hf 7 (by omega) (by omega)), fun z => by rw [hf 7 (by omega) (by omega)] at z; omega⟩, ⟨Or.inl (hf 8 (by omega) (by omega)), fun z => by rw [hf 8 (by omega) (by omega)] at z; omega⟩, ⟨Or.inl (hf 9 (by omega) (by omega)), fun z => by rw [hf 9 (by omega) (by omega)] at z; omega⟩, ⟨Or.inl (hf 10 (by omega) (by omega)), fun z => by rw [hf 10 (by omega) (by omega)] at z; omega⟩⟩
theorem IM.o {σ τ : fs_S} {A : ab} (h : IM σ A) (hw : awf A) (hO : OV τ A.1) (h7 : τ 0 7 = 1) (hF : frO σ τ) : IM τ A := by
  obtain ⟨a0, a1, a2, a3, a4⟩ := h
  have e8 : τ 0 8 = σ 0 8 := hF _ _ (by decide) (by decide) (by decide)
  have e9 : τ 0 9 = σ 0 9 := hF _ _ (by decide) (by decide) (by decide)
  have e10 : τ 0 10 = σ 0 10 := hF _ _ (by decide) (by decide) (by decide)
  refine ⟨a0.eq hw (fun i z => hF _ _ (by decide) (by decide) (by omega)) (fun k i z => hF k i (by omega) (by omega) (by omega)), ⟨Or.inr h7, fun _ => hO⟩, ⟨by rw [e8]; exact a2.1, fun z => ?_⟩, ⟨by rw [e9]; exact a3.1, fun z => ?_⟩, ⟨by rw [e10]; exact a4.1, fun z => ?_⟩⟩
  · exact (a2.2 (by omega)).eq (fun k i z => hF k i (by omega) (by omega) (by omega))
  · exact (a3.2 (by omega)).eq (hF _ _ (by decide) (by decide) (by decide)) (fun k i z1 z2 => hF k i (by omega) (by omega) (by omega))
  · exact (a4.2 (by omega)).eq (hF _ _ (by decide) (by decide) (by decide)) (fun k i z1 z2 => hF k i (by omega) (by omega) (by omega))
theorem IM.s {σ τ : fs_S} {A : ab} (h : IM σ A) (hw : awf A) (hA : AC τ A.1 (S4 A.1)) (hO : OV τ A.1) (h7 : τ 0 7 = 1) (h8 : τ 0 8 = 1) (hF : frS σ τ) : IM τ A := by
  obtain ⟨a0, a1, a2, a3, a4⟩ := h
  have e9 : τ 0 9 = σ 0 9 := hF _ _ (by decide) (by decide)
  have e10 : τ 0 10 = σ 0 10 := hF _ _ (by decide) (by decide)
  refine ⟨a0.eq hw (fun i z => hF _ _ (by decide) (by omega)) (fun k i z => hF k i (by omega) (by omega)), ⟨Or.inr h7, fun _ => hO⟩, ⟨Or.inr h8, fun _ => hA⟩, ⟨by rw [e9]; exact a3.1, fun z => ?_⟩, ⟨by rw [e10]; exact a4.1, fun z => ?_⟩⟩
  · exact (a3.2 (by omega)).eq (hF _ _ (by decide) (by decide)) (fun k i z1 z2 => hF k i (by omega) (by omega))
  · exact (a4.2 (by omega)).eq (hF _ _ (by decide) (by decide)) (fun k i z1 z2 => hF k i (by omega) (by omega))
theorem IM.l {σ τ : fs_S} {A : ab} (h : IM σ A) (hw : awf A) (hV : LV τ A.1) (hO : OV τ A.1) (h7 : τ 0 7 = 1) (h9 : τ 0 9 = 1) (hF : frP σ τ) : IM τ A := by
  obtain ⟨a0, a1, a2, a3, a4⟩ := h
  have e8 : τ 0 8 = σ 0 8 := hF _ _ (by decide) (by decide)
  have e10 : τ 0 10 = σ 0 10 := hF _ _ (by decide) (by decide)
  refine ⟨a0.eq hw (fun i z => hF _ _ (by decide) (by omega)) (fun k i z => hF k i (by omega) (by omega)), ⟨Or.inr h7, fun _ => hO⟩, ⟨by rw [e8]; exact a2.1, fun z => ?_⟩, ⟨Or.inr h9, fun _ => hV⟩, ⟨by rw [e10]; exact a4.1, fun z => ?_⟩⟩
  · exact (a2.2 (by omega)).eq (fun k i z => hF k i (by omega) (by omega))
  · exact (a4.2 (by omega)).eq (hF _ _ (by decide) (by decide)) (fun k i z1 z2 => hF k i (by omega) (by omega))
theorem IM.g {σ τ : fs_S} {A : ab} (h : IM σ A) (hw : awf A) (hT : TV τ A.1 A.2.2.1.1 A.2.2.1.2) (hO : OV τ A.1) (h7 : τ 0 7 = 1) (h10 : τ 0 10 = 1) (hF : frG σ τ) : IM τ A := by
  obtain ⟨a0, a1, a2, a3, a4⟩ := h
  have e8 : τ 0 8 = σ 0 8 := hF _ _ (by decide) (by decide) (by decide)
  have e9 : τ 0 9 = σ 0 9 := hF _ _ (by decide) (by decide) (by decide)
  refine ⟨a0.eq hw (fun i z => hF _ _ (by decide) (by decide) (by omega)) (fun k i z => hF k i (by omega) (by omega) (by omega)), ⟨Or.inr h7, fun _ => hO⟩, ⟨by rw [e8]; exact a2.1, fun z => ?_⟩, ⟨by rw [e9]; exact a3.1, fun z => ?_⟩, ⟨Or.inr h10, fun _ => hT⟩⟩
  · exact (a2.2 (by omega)).eq (fun k i z => hF k i (by omega) (by omega) (by omega))
  · exact (a3.2 (by omega)).eq (hF _ _ (by decide) (by decide) (by decide)) (fun k i z1 z2 => hF k i (by omega) (by omega) (by omega))
/-- what a call of the model gives: the answer, the next state, and the class's cells as they were -/
abbrev Q_M (σ : fs_S) (v : Int) (A' : ab) : fs_Q := fun x τ => x = some v ∧ IM τ A' ∧ frC σ τ
set_option maxRecDepth 100000 in
set_option maxHeartbeats 3000000 in
theorem cM_count {σ : fs_S} {A : ab} {w : Int} (hI : IM σ A) (hw : awf A) (hww : rg w) : fs_C mX7_count 5 [.inr 0, .inl w] σ (Q_M σ (aCount A w) A) := by
  refine fs_C.intro [some (.inr 0), some (.inl w)] fs_oX7_count (Nat.le_of_ble_eq_true rfl) rfl ?_
  obtain ⟨⟨c1, c2, ⟨c3, c3'⟩, c4⟩, a1, a2, a3, a4⟩ := id hI
  have k0 := (c4 0 (by omega) (by omega)).1
  have k1 := (c4 1 (by omega) (by omega)).1
  have r0 := (hw.2.2.2 0 (by omega) (by omega)).1
  have r1 := (hw.2.2.2 1 (by omega) (by omega)).1
  refine fr_iload_n 1 dX7_count_0 rfl rfl ?_
  rcases (by omega : (w = 0 ∨ w = 1 ∨ w = 2 ∨ w = 3 ∨ w = 4 ∨ w = 5 ∨ w = 6 ∨ w = 7) ∨ (w ≠ 0 ∧ w ≠ 1 ∧ w ≠ 2 ∧ w ≠ 3 ∧ w ≠ 4 ∧ w ≠ 5 ∧ w ≠ 6 ∧ w ≠ 7)) with (rfl | rfl | rfl | rfl | rfl | rfl | rfl | rfl) | hd1
  · refine fr_tblIn 48 dX7_count_1 (by decide) (by decide) (by decide) rfl rfl ?_
    refine fr_aload_n 49 dX7_count_48 rfl rfl ?_
    refine fr_geti 52 0 dX7_count_49 rfl fs_kX7_104 rfl fs_l0 rfl ?_
    refine fr_iret dX7_count_52 rfl ?_
    exact ⟨congrArg some c1.1, hI, fun _ _ _ => rfl⟩
  · refine fr_tblIn 53 dX7_count_1 (by decide) (by decide) (by decide) rfl rfl ?_
    refine fr_aload_n 54 dX7_count_53 rfl rfl ?_
    refine fr_callVv 57 (M2 := mX7_listTuples) [] dX7_count_54 rfl fs_mX7_202 fs_oX7_listTuples fs_iX7_listTuples fs_l0 rfl rfl (fs_Γ_rm (d := 3) (by decide)) (Nat.le_of_ble_eq_true rfl) rfl ?_
    refine (cM_listTuples hw.1 c1 a1.1 a1.2 a3.1 a3.2).mono ?_
    rintro _ τ ⟨rfl, hV, hO, h7, h9, hF⟩
    refine ⟨rfl, ?_⟩
    refine fr_aload_n 58 dX7_count_57 rfl rfl ?_
    refine fr_geti 61 23 dX7_count_58 rfl fs_kX7_199 rfl fs_l0 rfl ?_
    refine fr_iret dX7_count_61 rfl ?_
    exact ⟨congrArg some hV.2.2.1, hI.l hw hV hO h7 h9 (fun k i z1 z2 => hF k i (by omega) z2), fun k i z => hF k i (by omega) (by omega)⟩
  · refine fr_tblIn 62 dX7_count_1 (by decide) (by decide) (by decide) rfl rfl ?_
    refine fr_aload_n 63 dX7_count_62 rfl rfl ?_
    refine fr_callVi 66 (M2 := mX7_allEntries) [] dX7_count_63 rfl fs_mX7_237 fs_oX7_allEntries fs_iX7_allEntries fs_l0 rfl rfl (fs_Γ_rm (d := 4) (by decide)) (Nat.le_of_ble_eq_true rfl) rfl ?_
    refine (cM_allEntries hw.1 c1 a1.1 a1.2 a3.1 a3.2).mono ?_
    rintro _ τ ⟨rfl, hq⟩
    refine ⟨_, rfl, ?_⟩
    refine fr_iret dX7_count_66 rfl ?_
    rcases hq with rfl | ⟨hV, hO, h7, h9, hF⟩
    · exact ⟨rfl, hI, fun _ _ _ => rfl⟩
    · exact ⟨rfl, hI.l hw hV hO h7 h9 (fun k i z1 z2 => hF k i (by omega) z2), fun k i z => hF k i (by omega) (by omega)⟩
  · refine fr_tblIn 67 dX7_count_1 (by decide) (by decide) (by decide) rfl rfl ?_
    refine fr_aload_n 68 dX7_count_67 rfl rfl ?_
    refine fr_geti 71 5 dX7_count_68 rfl fs_kX7_22 rfl fs_l0 rfl ?_
    refine fr_iret dX7_count_71 rfl ?_
    exact ⟨congrArg some c3, hI, fun _ _ _ => rfl⟩
  · refine fr_tblIn 72 dX7_count_1 (by decide) (by decide) (by decide) rfl rfl ?_
    refine fr_aload_n 73 dX7_count_72 rfl rfl ?_
    refine fr_geti 76 6 dX7_count_73 rfl fs_kX7_26 rfl fs_l0 rfl ?_
    refine fr_iret dX7_count_76 rfl ?_
    exact ⟨congrArg some c3', hI, fun _ _ _ => rfl⟩
  · refine fr_tblIn 77 dX7_count_1 (by decide) (by decide) (by decide) rfl rfl ?_
    refine fr_aload_n 78 dX7_count_77 rfl rfl ?_
    refine fr_callVi 81 (M2 := mX7_idleOnes) [] dX7_count_78 rfl fs_mX7_241 fs_oX7_idleOnes fs_iX7_idleOnes fs_l0 rfl rfl (fs_Γ_rm (d := 4) (by decide)) (Nat.le_of_ble_eq_true rfl) rfl ?_
    refine (cM_idleOnes hw.1 c1 a1.1 a1.2 a2.1 a2.2).mono ?_
    rintro _ τ ⟨rfl, hq⟩
    refine ⟨_, rfl, ?_⟩
    refine fr_iret dX7_count_81 rfl ?_
    rcases hq with rfl | ⟨hA, hO, h7, h8, hF⟩
    · exact ⟨rfl, hI, fun _ _ _ => rfl⟩
    · exact ⟨rfl, hI.s hw hA hO h7 h8 hF, fun k i z => hF k i (by omega) (by omega)⟩
  · refine fr_tblIn 82 dX7_count_1 (by decide) (by decide) (by decide) rfl rfl ?_
    refine fr_aload_n 83 dX7_count_82 rfl rfl ?_
    refine fr_callVi 86 (M2 := mX7_coveredOnes) [] dX7_count_83 rfl fs_mX7_244 fs_oX7_coveredOnes fs_iX7_coveredOnes fs_l0 rfl rfl (fs_Γ_rm (d := 2) (by decide)) (Nat.le_of_ble_eq_true rfl) rfl ?_
    refine (cM_coveredOnes hw.1 c1).ci ?_
    refine fr_iret dX7_count_86 rfl ?_
    exact ⟨rfl, hI, fun _ _ _ => rfl⟩
  · refine fr_tblIn 87 dX7_count_1 (by decide) (by decide) (by decide) rfl rfl ?_
    refine fr_aload_n 88 dX7_count_87 rfl rfl ?_
    refine fr_getr 91 25 dX7_count_88 rfl fs_kX7_90 fs_l0 rfl ?_
    refine fr_iconst 92 dX7_count_91 rfl ?_
    refine fr_zald 93 dX7_count_92 rfl fs_l25 (by omega) ?_
    refine fr_if_eq 100 96 dX7_count_93 rfl rfl (by omega) (fun h93 => ?_) (fun h93 => ?_)
    · refine fr_iconst 101 dX7_count_100 rfl ?_
      refine fr_aload_n 102 dX7_count_101 rfl rfl ?_
      refine fr_getr 105 25 dX7_count_102 rfl fs_kX7_90 fs_l0 rfl ?_
      refine fr_iconst 106 dX7_count_105 rfl ?_
      refine fr_zald 107 dX7_count_106 rfl fs_l25 (by omega) ?_
      refine fr_if_eq 114 110 dX7_count_107 rfl rfl (by omega) (fun h107 => ?_) (fun h107 => ?_)
      · refine fr_iconst 115 dX7_count_114 rfl ?_
        refine fr_iadd 116 dX7_count_115 rfl ?_
        refine fr_iret dX7_count_116 rfl ?_
        exact ⟨congrArg some (show _ = (A.2.2.2 0).1 + 2 * (A.2.2.2 1).1 by omega), hI, fun _ _ _ => rfl⟩
      · refine fr_iconst 111 dX7_count_110 rfl ?_
        refine fr_goto 115 dX7_count_111 rfl ?_
        refine fr_iadd 116 dX7_count_115 rfl ?_
        refine fr_iret dX7_count_116 rfl ?_
        exact ⟨congrArg some (show _ = (A.2.2.2 0).1 + 2 * (A.2.2.2 1).1 by omega), hI, fun _ _ _ => rfl⟩
    · refine fr_iconst 97 dX7_count_96 rfl ?_
      refine fr_goto 101 dX7_count_97 rfl ?_
      refine fr_aload_n 102 dX7_count_101 rfl rfl ?_
      refine fr_getr 105 25 dX7_count_102 rfl fs_kX7_90 fs_l0 rfl ?_
      refine fr_iconst 106 dX7_count_105 rfl ?_
      refine fr_zald 107 dX7_count_106 rfl fs_l25 (by omega) ?_
      refine fr_if_eq 114 110 dX7_count_107 rfl rfl (by omega) (fun h107 => ?_) (fun h107 => ?_)
      · refine fr_iconst 115 dX7_count_114 rfl ?_
        refine fr_iadd 116 dX7_count_115 rfl ?_
        refine fr_iret dX7_count_116 rfl ?_
        exact ⟨congrArg some (show _ = (A.2.2.2 0).1 + 2 * (A.2.2.2 1).1 by omega), hI, fun _ _ _ => rfl⟩
      · refine fr_iconst 111 dX7_count_110 rfl ?_
        refine fr_goto 115 dX7_count_111 rfl ?_
        refine fr_iadd 116 dX7_count_115 rfl ?_
        refine fr_iret dX7_count_116 rfl ?_
        exact ⟨congrArg some (show _ = (A.2.2.2 0).1 + 2 * (A.2.2.2 1).1 by omega), hI, fun _ _ _ => rfl⟩
  · refine fr_tblOut 117 dX7_count_1 (by omega) (by omega) rfl ?_
    refine fr_bipush 119 dX7_count_117 rfl (by decide) ?_
    refine fr_iret dX7_count_119 rfl ?_
    refine ⟨congrArg some ?_, hI, fun _ _ _ => rfl⟩
    unfold aCount
    rw [if_neg (by omega), if_neg (by omega), if_neg (by omega), if_neg (by omega), if_neg (by omega), if_neg (by omega), if_neg (by omega), if_neg (by omega)]
