/-! ===== the model's object, converted ===== -/
theorem cv_tree34 {P : Nat → Prop} (c0 : P 0) (c1 : P 1) (c2 : P 2) (c3 : P 3) (c4 : P 4) (c5 : P 5) (c6 : P 6) (c7 : P 7) (c8 : P 8) (c9 : P 9) (c10 : P 10) (c11 : P 11) (c12 : P 12) (c13 : P 13) (c14 : P 14) (c15 : P 15) (c16 : P 16) (c17 : P 17) (c18 : P 18) (c19 : P 19) (c20 : P 20) (c21 : P 21) (c22 : P 22) (c23 : P 23) (c24 : P 24) (c25 : P 25) (c26 : P 26) (c27 : P 27) (c28 : P 28) (c29 : P 29) (c30 : P 30) (c31 : P 31) (c32 : P 32) (c33 : P 33) : ∀ i : Nat, i < 34 → P i := by
  intro i hi
  by_cases h0_34 : i < 17
  · by_cases h0_17 : i < 8
    · by_cases h0_8 : i < 4
      · by_cases h0_4 : i < 2
        · by_cases h0_2 : i < 1
          · have e : i = 0 := by omega
            subst e; exact c0
          · have e : i = 1 := by omega
            subst e; exact c1
        · by_cases h2_4 : i < 3
          · have e : i = 2 := by omega
            subst e; exact c2
          · have e : i = 3 := by omega
            subst e; exact c3
      · by_cases h4_8 : i < 6
        · by_cases h4_6 : i < 5
          · have e : i = 4 := by omega
            subst e; exact c4
          · have e : i = 5 := by omega
            subst e; exact c5
        · by_cases h6_8 : i < 7
          · have e : i = 6 := by omega
            subst e; exact c6
          · have e : i = 7 := by omega
            subst e; exact c7
    · by_cases h8_17 : i < 12
      · by_cases h8_12 : i < 10
        · by_cases h8_10 : i < 9
          · have e : i = 8 := by omega
            subst e; exact c8
          · have e : i = 9 := by omega
            subst e; exact c9
        · by_cases h10_12 : i < 11
          · have e : i = 10 := by omega
            subst e; exact c10
          · have e : i = 11 := by omega
            subst e; exact c11
      · by_cases h12_17 : i < 14
        · by_cases h12_14 : i < 13
          · have e : i = 12 := by omega
            subst e; exact c12
          · have e : i = 13 := by omega
            subst e; exact c13
        · by_cases h14_17 : i < 15
          · have e : i = 14 := by omega
            subst e; exact c14
          · by_cases h15_17 : i < 16
            · have e : i = 15 := by omega
              subst e; exact c15
            · have e : i = 16 := by omega
              subst e; exact c16
  · by_cases h17_34 : i < 25
    · by_cases h17_25 : i < 21
      · by_cases h17_21 : i < 19
        · by_cases h17_19 : i < 18
          · have e : i = 17 := by omega
            subst e; exact c17
          · have e : i = 18 := by omega
            subst e; exact c18
        · by_cases h19_21 : i < 20
          · have e : i = 19 := by omega
            subst e; exact c19
          · have e : i = 20 := by omega
            subst e; exact c20
      · by_cases h21_25 : i < 23
        · by_cases h21_23 : i < 22
          · have e : i = 21 := by omega
            subst e; exact c21
          · have e : i = 22 := by omega
            subst e; exact c22
        · by_cases h23_25 : i < 24
          · have e : i = 23 := by omega
            subst e; exact c23
          · have e : i = 24 := by omega
            subst e; exact c24
    · by_cases h25_34 : i < 29
      · by_cases h25_29 : i < 27
        · by_cases h25_27 : i < 26
          · have e : i = 25 := by omega
            subst e; exact c25
          · have e : i = 26 := by omega
            subst e; exact c26
        · by_cases h27_29 : i < 28
          · have e : i = 27 := by omega
            subst e; exact c27
          · have e : i = 28 := by omega
            subst e; exact c28
      · by_cases h29_34 : i < 31
        · by_cases h29_31 : i < 30
          · have e : i = 29 := by omega
            subst e; exact c29
          · have e : i = 30 := by omega
            subst e; exact c30
        · by_cases h31_34 : i < 32
          · have e : i = 31 := by omega
            subst e; exact c31
          · by_cases h32_34 : i < 33
            · have e : i = 32 := by omega
              subst e; exact c32
            · have e : i = 33 := by omega
              subst e; exact c33
theorem cv_of {D : va_G} {q ci : Nat} {fs fs' : List Value} {H : Heap} (h : va_at D fs_cl (q, .inr (ci, fs)) H) (hf : ∀ r, fs_cl[ci]? = some r → ∀ j, j < r.2.2 → vp_V fs j = vp_V fs' j) : va_at D fs_cl (q, .inr (ci, fs')) H := by
  obtain ⟨r, hr, ht⟩ := h
  exact ⟨r, hr, ht.to (hf r hr)⟩
theorem vp_map (l : List (Option Int)) (f : Nat → Option Int → Value) (j : Nat) {o : Option Int} (h : l[j]? = some o) : vp_V (l.mapIdx f) j = f j o := by
  unfold vp_V
  rw [List.getD_eq_getElem?_getD, List.getElem?_mapIdx, h]
  rfl
def lX7 : List (Option Int) := [none, some 1, some 2, some 3, some 4, none, none, none, none, none, none, some 5, some 6, some 7, some 8, some 9, some 10, some 11, some 12, some 13, some 14, some 15, some 16, none, some 17, none, some 18, some 19, some 20, some 21, some 22, some 23, some 24, some 25]
set_option maxRecDepth 100000 in
set_option maxHeartbeats 200000 in
theorem cv_f7 {b : Nat} {sa : Int → Nat} : ∀ j : Nat, j < 34 → vp_V (fX7 b 87) j = vp_V (lX7.mapIdx (fs_fld (adF b sa) (σ0 ((0 : Nat) : Int)))) j := by
  have ea : ∀ i : Nat, i < 113 → adF b sa (i : Int) = b + piL.getD i 0 := adF_at b sa
  have vi : ∀ (j : Nat) (x : Int), lX7[j]? = some none → σ0 ((0 : Nat) : Int) (j : Int) = x → vp_V (lX7.mapIdx (fs_fld (adF b sa) (σ0 ((0 : Nat) : Int)))) j = .int (Int32.ofInt x) := fun j x h e => by
    rw [vp_map _ _ j h]
    show Value.int (Int32.ofInt (σ0 ((0 : Nat) : Int) (j : Int))) = _
    rw [e]
  have vr : ∀ (j k : Nat), lX7[j]? = some (some (k : Int)) → k < 113 → vp_V (lX7.mapIdx (fs_fld (adF b sa) (σ0 ((0 : Nat) : Int)))) j = .ref (b + piL.getD k 0) := fun j k h hk => by
    rw [vp_map _ _ j h]
    show Value.ref (adF b sa (k : Int)) = _
    rw [ea k hk]
  refine cv_tree34 ?_ ?_ ?_ ?_ ?_ ?_ ?_ ?_ ?_ ?_ ?_ ?_ ?_ ?_ ?_ ?_ ?_ ?_ ?_ ?_ ?_ ?_ ?_ ?_ ?_ ?_ ?_ ?_ ?_ ?_ ?_ ?_ ?_ ?_
  · rw [vi 0 0 rfl (by decide), ← fs_zero]; rfl
  · rw [vr 1 1 rfl (by decide)]; rfl
  · rw [vr 2 2 rfl (by decide)]; rfl
  · rw [vr 3 3 rfl (by decide)]; rfl
  · rw [vr 4 4 rfl (by decide)]; rfl
  · rw [vi 5 2 rfl (by decide)]; rfl
  · rw [vi 6 6 rfl (by decide)]; rfl
  · rw [vi 7 0 rfl (by decide), ← fs_zero]; rfl
  · rw [vi 8 0 rfl (by decide), ← fs_zero]; rfl
  · rw [vi 9 0 rfl (by decide), ← fs_zero]; rfl
  · rw [vi 10 0 rfl (by decide), ← fs_zero]; rfl
  · rw [vr 11 5 rfl (by decide)]; rfl
  · rw [vr 12 6 rfl (by decide)]; rfl
  · rw [vr 13 7 rfl (by decide)]; rfl
  · rw [vr 14 8 rfl (by decide)]; rfl
  · rw [vr 15 9 rfl (by decide)]; rfl
  · rw [vr 16 10 rfl (by decide)]; rfl
  · rw [vr 17 11 rfl (by decide)]; rfl
  · rw [vr 18 12 rfl (by decide)]; rfl
  · rw [vr 19 13 rfl (by decide)]; rfl
  · rw [vr 20 14 rfl (by decide)]; rfl
  · rw [vr 21 15 rfl (by decide)]; rfl
  · rw [vr 22 16 rfl (by decide)]; rfl
  · rw [vi 23 0 rfl (by decide), ← fs_zero]; rfl
  · rw [vr 24 17 rfl (by decide)]; rfl
  · rw [vi 25 0 rfl (by decide), ← fs_zero]; rfl
  · rw [vr 26 18 rfl (by decide)]; rfl
  · rw [vr 27 19 rfl (by decide)]; rfl
  · rw [vr 28 20 rfl (by decide)]; rfl
  · rw [vr 29 21 rfl (by decide)]; rfl
  · rw [vr 30 22 rfl (by decide)]; rfl
  · rw [vr 31 23 rfl (by decide)]; rfl
  · rw [vr 32 24 rfl (by decide)]; rfl
  · rw [vr 33 25 rfl (by decide)]; rfl
theorem cv_o7 {D : va_G} {cs : Nat → ClassId} {b : Nat} {sa : Int → Nat} {H : Heap} (h : va_at D fs_cl (b + 87, .inr (7, fX7 b 87)) H) : cvC D cs b sa H 0 87 := by
  have := cv_of (fs' := lX7.mapIdx (fs_fld (adF b sa) (σ0 ((0 : Nat) : Int)))) h (fun r hr j hj => by cases hr; exact cv_f7 j hj)
  exact this
