/-! ===== from the stretch of cells to the cells by number (written by gen/gconv.py) ===== -/
def piL : List Nat := [87, 88, 89, 90, 91, 92, 93, 94, 95, 96, 97, 98, 99, 100, 101, 102, 103, 104, 105, 106, 107, 108, 109, 110, 111, 112, 0, 1, 2, 7, 12, 13, 14, 15, 3, 4, 5, 6, 8, 9, 10, 11, 16, 17, 18, 19, 20, 21, 22, 23, 24, 25, 26, 31, 27, 28, 29, 30, 32, 33, 34, 35, 36, 37, 38, 39, 40, 41, 42, 47, 43, 44, 45, 46, 48, 49, 50, 51, 52, 68, 84, 85, 86, 53, 54, 59, 64, 65, 66, 67, 55, 56, 57, 58, 60, 61, 62, 63, 69, 70, 75, 80, 81, 82, 83, 71, 72, 73, 74, 76, 77, 78, 79]
def adF (b : Nat) (sa : Int → Nat) : Int → Nat := fun k => if 1000 ≤ k then sa k else b + piL.getD k.toNat 0
def adG (b : Nat) (sa : Int → Nat) : Int → Nat := fun k => if 1000 ≤ k then sa k else b + k.toNat
theorem adG_ok (b : Nat) (sa : Int → Nat) : gad b (adG b sa) := fun i hi => by
  unfold adG
  rw [if_neg (by omega)]
  omega
def σ0 : fs_S := fun k i => if k = 0 ∧ i = 5 then 2 else if k = 0 ∧ i = 6 then 6 else if k = 48 ∧ i = 0 then 1 else if k = 62 ∧ i = 0 then 1 else if k = 62 ∧ i = 8 then -1 else if k = 74 ∧ i = 0 then 2 else if k = 74 ∧ i = 1 then 6 else if k = 81 then gr i else 0
theorem piL_lt : ∀ i : Nat, i < 113 → piL.getD i 0 < 113 := by decide +kernel
theorem piL_inj : ∀ i : Nat, i < 113 → ∀ j : Nat, j < 113 → piL.getD i 0 = piL.getD j 0 → i = j := by decide +kernel
theorem adF_at (b : Nat) (sa : Int → Nat) (i : Nat) (h : i < 113) : adF b sa (i : Int) = b + piL.getD i 0 := by
  unfold adF
  rw [if_neg (by omega)]
  rfl
def classE (cs : Nat → ClassId) (b : Nat) : List va_E := [] ++ .inr (6, fX6 b 0) :: bX6 cs b 0
theorem classE_len (cs : Nat → ClassId) (b : Nat) : (classE cs b).length = 87 := rfl
def wE (cs : Nat → ClassId) (b : Nat) : List va_E := classE cs b ++ .inr (7, fX7 b 87) :: bX7 cs b 87
theorem cv_i {D : va_G} {q n : Nat} {c : ClassId} {H : Heap} {g : Int → Int} (h : va_at D fs_cl (q, .inl (c, n, .inl fun _ => 0)) H) (hg : ∀ j, g j = 0) : va_at D fs_cl (q, .inl (c, n, .inl fun i => Int32.ofInt (g (i : Int)))) H := by
  have e : (fun i : Nat => Int32.ofInt (g (i : Int))) = fun _ => 0 := funext fun i => by rw [hg]; rfl
  rw [e]
  exact h
theorem cv_u {D : va_G} {q n : Nat} {c : ClassId} {H : Heap} {f : Nat → Int32} {g : Int → Int} (h : va_at D fs_cl (q, .inl (c, n, .inl f)) H) (hg : ∀ j, j < n → f j = Int32.ofInt (g (j : Int))) : va_at D fs_cl (q, .inl (c, n, .inl fun i => Int32.ofInt (g (i : Int)))) H := by
  show H[q]? = some (vp_cell c (n, .inl fun i => Int32.ofInt (g (i : Int))))
  have h2 : H[q]? = some (vp_cell c (n, .inl f)) := h
  rw [h2, vp_cell_i, vp_cell_i]
  exact congrArg some (arrV_cg (fun j hj => by rw [hg j hj]))
theorem cv_r {D : va_G} {q n : Nat} {c : ClassId} {H : Heap} {f g : Nat → Option Nat} (h : va_at D fs_cl (q, .inl (c, n, .inr (.inr (.inr (.inr f))))) H) (hg : ∀ j, j < n → f j = g j) : va_at D fs_cl (q, .inl (c, n, .inr (.inr (.inr (.inr g))))) H := by
  show H[q]? = some (vp_cell c (n, .inr (.inr (.inr (.inr g)))))
  have h2 : H[q]? = some (vp_cell c (n, .inr (.inr (.inr (.inr f))))) := h
  rw [h2, vp_cell_q, vp_cell_q]
  exact congrArg some (arrV_cg (fun j hj => by rw [hg j hj]))
theorem gP_l {D : va_G} {b : Nat} {A B : List va_E} {H : Heap} (h : va_P D fs_cl (zi b (A ++ B)) H) : va_P D fs_cl (zi b A) H ∧ va_P D fs_cl (zi (b + A.length) B) H := by
  refine ⟨fun k q hq => ?_, fun k q hq => ?_⟩
  · obtain ⟨e, he, rfl⟩ := zi_inv hq
    have hk := (List.getElem?_eq_some_iff.mp he).1
    exact h k _ (zi_at (by rw [List.getElem?_append_left hk]; exact he))
  · obtain ⟨e, he, rfl⟩ := zi_inv hq
    have := h (A.length + k) _ (zi_at (by rw [List.getElem?_append_right (by omega), show A.length + k - A.length = k by omega]; exact he))
    rw [← Nat.add_assoc] at this
    exact this
theorem gP_r {D : va_G} {b n : Nat} {A B : List va_E} {H : Heap} (h : va_P D fs_cl (zi (b + 1) (A ++ B)) H) (hn : 1 + A.length = n) : va_P D fs_cl (zi (b + 1) A) H ∧ va_P D fs_cl (zi (b + n) B) H := by
  obtain ⟨h1, h2⟩ := gP_l h
  rw [Nat.add_assoc, hn] at h2
  exact ⟨h1, h2⟩
theorem gP_c {D : va_G} {b : Nat} {e : va_E} {B : List va_E} {H : Heap} (h : va_P D fs_cl (zi b (e :: B)) H) : va_at D fs_cl (b, e) H ∧ va_P D fs_cl (zi (b + 1) B) H := by
  have := gP_l (A := [e]) h
  exact ⟨this.1 0 (b, e) rfl, this.2⟩
theorem gP_i {D : va_G} {b o i p : Nat} {es : List va_E} {e : va_E} {H : Heap} (h : va_P D fs_cl (zi (b + o) es) H) (he : es[i]? = some e) (hp : o + i = p) : va_at D fs_cl (b + p, e) H := by
  have := h i _ (zi_at he)
  rw [Nat.add_assoc, hp] at this
  exact this
theorem σ0_z {k : Int} (h0 : k ≠ 0) (h1 : k ≠ 48) (h2 : k ≠ 62) (h3 : k ≠ 74) (h4 : k ≠ 81) (j : Int) : σ0 k j = 0 := by
  unfold σ0
  rw [if_neg (fun z => h0 z.1), if_neg (fun z => h0 z.1), if_neg (fun z => h1 z.1), if_neg (fun z => h2 z.1), if_neg (fun z => h2 z.1), if_neg (fun z => h3 z.1), if_neg (fun z => h3 z.1), if_neg h4]
def cvC (D : va_G) (cs : Nat → ClassId) (b : Nat) (sa : Int → Nat) (H : Heap) (i p : Nat) : Prop := va_at D fs_cl (b + p, fs_cell (adF b sa) cs (fs_L[i]?.getD (.inl (0, []))) (σ0 (i : Int))) H
set_option maxRecDepth 100000 in
set_option maxHeartbeats 3000000 in
theorem cv_tree {P : Nat → Prop} (c0 : P 0) (c1 : P 1) (c2 : P 2) (c3 : P 3) (c4 : P 4) (c5 : P 5) (c6 : P 6) (c7 : P 7) (c8 : P 8) (c9 : P 9) (c10 : P 10) (c11 : P 11) (c12 : P 12) (c13 : P 13) (c14 : P 14) (c15 : P 15) (c16 : P 16) (c17 : P 17) (c18 : P 18) (c19 : P 19) (c20 : P 20) (c21 : P 21) (c22 : P 22) (c23 : P 23) (c24 : P 24) (c25 : P 25) (c26 : P 26) (c27 : P 27) (c28 : P 28) (c29 : P 29) (c30 : P 30) (c31 : P 31) (c32 : P 32) (c33 : P 33) (c34 : P 34) (c35 : P 35) (c36 : P 36) (c37 : P 37) (c38 : P 38) (c39 : P 39) (c40 : P 40) (c41 : P 41) (c42 : P 42) (c43 : P 43) (c44 : P 44) (c45 : P 45) (c46 : P 46) (c47 : P 47) (c48 : P 48) (c49 : P 49) (c50 : P 50) (c51 : P 51) (c52 : P 52) (c53 : P 53) (c54 : P 54) (c55 : P 55) (c56 : P 56) (c57 : P 57) (c58 : P 58) (c59 : P 59) (c60 : P 60) (c61 : P 61) (c62 : P 62) (c63 : P 63) (c64 : P 64) (c65 : P 65) (c66 : P 66) (c67 : P 67) (c68 : P 68) (c69 : P 69) (c70 : P 70) (c71 : P 71) (c72 : P 72) (c73 : P 73) (c74 : P 74) (c75 : P 75) (c76 : P 76) (c77 : P 77) (c78 : P 78) (c79 : P 79) (c80 : P 80) (c81 : P 81) (c82 : P 82) (c83 : P 83) (c84 : P 84) (c85 : P 85) (c86 : P 86) (c87 : P 87) (c88 : P 88) (c89 : P 89) (c90 : P 90) (c91 : P 91) (c92 : P 92) (c93 : P 93) (c94 : P 94) (c95 : P 95) (c96 : P 96) (c97 : P 97) (c98 : P 98) (c99 : P 99) (c100 : P 100) (c101 : P 101) (c102 : P 102) (c103 : P 103) (c104 : P 104) (c105 : P 105) (c106 : P 106) (c107 : P 107) (c108 : P 108) (c109 : P 109) (c110 : P 110) (c111 : P 111) (c112 : P 112) : ∀ i : Nat, i < 113 → P i := by
  intro i hi
  by_cases h0_113 : i < 56
  · by_cases h0_56 : i < 28
    · by_cases h0_28 : i < 14
      · by_cases h0_14 : i < 7
        · by_cases h0_7 : i < 3
          · by_cases h0_3 : i < 1
            · have e : i = 0 := by omega
              subst e; exact c0
            · by_cases h1_3 : i < 2
              · have e : i = 1 := by omega
                subst e; exact c1
              · have e : i = 2 := by omega
                subst e; exact c2
          · by_cases h3_7 : i < 5
            · by_cases h3_5 : i < 4
              · have e : i = 3 := by omega
                subst e; exact c3
              · have e : i = 4 := by omega
                subst e; exact c4
            · by_cases h5_7 : i < 6
              · have e : i = 5 := by omega
                subst e; exact c5
              · have e : i = 6 := by omega
                subst e; exact c6
        · by_cases h7_14 : i < 10
          · by_cases h7_10 : i < 8
            · have e : i = 7 := by omega
              subst e; exact c7
            · by_cases h8_10 : i < 9
              · have e : i = 8 := by omega
                subst e; exact c8
              · have e : i = 9 := by omega
                subst e; exact c9
          · by_cases h10_14 : i < 12
            · by_cases h10_12 : i < 11
              · have e : i = 10 := by omega
                subst e; exact c10
              · have e : i = 11 := by omega
                subst e; exact c11
            · by_cases h12_14 : i < 13
              · have e : i = 12 := by omega
                subst e; exact c12
              · have e : i = 13 := by omega
                subst e; exact c13
      · by_cases h14_28 : i < 21
        · by_cases h14_21 : i < 17
          · by_cases h14_17 : i < 15
            · have e : i = 14 := by omega
              subst e; exact c14
            · by_cases h15_17 : i < 16
              · have e : i = 15 := by omega
                subst e; exact c15
              · have e : i = 16 := by omega
                subst e; exact c16
          · by_cases h17_21 : i < 19
            · by_cases h17_19 : i < 18
              · have e : i = 17 := by omega
                subst e; exact c17
              · have e : i = 18 := by omega
                subst e; exact c18
            · by_cases h19_21 : i < 20
              · have e : i = 19 := by omega
                subst e; exact c19
              · have e : i = 20 := by omega
                subst e; exact c20
        · by_cases h21_28 : i < 24
          · by_cases h21_24 : i < 22
            · have e : i = 21 := by omega
              subst e; exact c21
            · by_cases h22_24 : i < 23
              · have e : i = 22 := by omega
                subst e; exact c22
              · have e : i = 23 := by omega
                subst e; exact c23
          · by_cases h24_28 : i < 26
            · by_cases h24_26 : i < 25
              · have e : i = 24 := by omega
                subst e; exact c24
              · have e : i = 25 := by omega
                subst e; exact c25
            · by_cases h26_28 : i < 27
              · have e : i = 26 := by omega
                subst e; exact c26
              · have e : i = 27 := by omega
                subst e; exact c27
    · by_cases h28_56 : i < 42
      · by_cases h28_42 : i < 35
        · by_cases h28_35 : i < 31
          · by_cases h28_31 : i < 29
            · have e : i = 28 := by omega
              subst e; exact c28
            · by_cases h29_31 : i < 30
              · have e : i = 29 := by omega
                subst e; exact c29
              · have e : i = 30 := by omega
                subst e; exact c30
          · by_cases h31_35 : i < 33
            · by_cases h31_33 : i < 32
              · have e : i = 31 := by omega
                subst e; exact c31
              · have e : i = 32 := by omega
                subst e; exact c32
            · by_cases h33_35 : i < 34
              · have e : i = 33 := by omega
                subst e; exact c33
              · have e : i = 34 := by omega
                subst e; exact c34
        · by_cases h35_42 : i < 38
          · by_cases h35_38 : i < 36
            · have e : i = 35 := by omega
              subst e; exact c35
            · by_cases h36_38 : i < 37
              · have e : i = 36 := by omega
                subst e; exact c36
              · have e : i = 37 := by omega
                subst e; exact c37
          · by_cases h38_42 : i < 40
            · by_cases h38_40 : i < 39
              · have e : i = 38 := by omega
                subst e; exact c38
              · have e : i = 39 := by omega
                subst e; exact c39
            · by_cases h40_42 : i < 41
              · have e : i = 40 := by omega
                subst e; exact c40
              · have e : i = 41 := by omega
                subst e; exact c41
      · by_cases h42_56 : i < 49
        · by_cases h42_49 : i < 45
          · by_cases h42_45 : i < 43
            · have e : i = 42 := by omega
              subst e; exact c42
            · by_cases h43_45 : i < 44
              · have e : i = 43 := by omega
                subst e; exact c43
              · have e : i = 44 := by omega
                subst e; exact c44
          · by_cases h45_49 : i < 47
            · by_cases h45_47 : i < 46
              · have e : i = 45 := by omega
                subst e; exact c45
              · have e : i = 46 := by omega
                subst e; exact c46
            · by_cases h47_49 : i < 48
              · have e : i = 47 := by omega
                subst e; exact c47
              · have e : i = 48 := by omega
                subst e; exact c48
        · by_cases h49_56 : i < 52
          · by_cases h49_52 : i < 50
            · have e : i = 49 := by omega
              subst e; exact c49
            · by_cases h50_52 : i < 51
              · have e : i = 50 := by omega
                subst e; exact c50
              · have e : i = 51 := by omega
                subst e; exact c51
          · by_cases h52_56 : i < 54
            · by_cases h52_54 : i < 53
              · have e : i = 52 := by omega
                subst e; exact c52
              · have e : i = 53 := by omega
                subst e; exact c53
            · by_cases h54_56 : i < 55
              · have e : i = 54 := by omega
                subst e; exact c54
              · have e : i = 55 := by omega
                subst e; exact c55
  · by_cases h56_113 : i < 84
    · by_cases h56_84 : i < 70
      · by_cases h56_70 : i < 63
        · by_cases h56_63 : i < 59
          · by_cases h56_59 : i < 57
            · have e : i = 56 := by omega
              subst e; exact c56
            · by_cases h57_59 : i < 58
              · have e : i = 57 := by omega
                subst e; exact c57
              · have e : i = 58 := by omega
                subst e; exact c58
          · by_cases h59_63 : i < 61
            · by_cases h59_61 : i < 60
              · have e : i = 59 := by omega
                subst e; exact c59
              · have e : i = 60 := by omega
                subst e; exact c60
            · by_cases h61_63 : i < 62
              · have e : i = 61 := by omega
                subst e; exact c61
              · have e : i = 62 := by omega
                subst e; exact c62
        · by_cases h63_70 : i < 66
          · by_cases h63_66 : i < 64
            · have e : i = 63 := by omega
              subst e; exact c63
            · by_cases h64_66 : i < 65
              · have e : i = 64 := by omega
                subst e; exact c64
              · have e : i = 65 := by omega
                subst e; exact c65
          · by_cases h66_70 : i < 68
            · by_cases h66_68 : i < 67
              · have e : i = 66 := by omega
                subst e; exact c66
              · have e : i = 67 := by omega
                subst e; exact c67
            · by_cases h68_70 : i < 69
              · have e : i = 68 := by omega
                subst e; exact c68
              · have e : i = 69 := by omega
                subst e; exact c69
      · by_cases h70_84 : i < 77
        · by_cases h70_77 : i < 73
          · by_cases h70_73 : i < 71
            · have e : i = 70 := by omega
              subst e; exact c70
            · by_cases h71_73 : i < 72
              · have e : i = 71 := by omega
                subst e; exact c71
              · have e : i = 72 := by omega
                subst e; exact c72
          · by_cases h73_77 : i < 75
            · by_cases h73_75 : i < 74
              · have e : i = 73 := by omega
                subst e; exact c73
              · have e : i = 74 := by omega
                subst e; exact c74
            · by_cases h75_77 : i < 76
              · have e : i = 75 := by omega
                subst e; exact c75
              · have e : i = 76 := by omega
                subst e; exact c76
        · by_cases h77_84 : i < 80
          · by_cases h77_80 : i < 78
            · have e : i = 77 := by omega
              subst e; exact c77
            · by_cases h78_80 : i < 79
              · have e : i = 78 := by omega
                subst e; exact c78
              · have e : i = 79 := by omega
                subst e; exact c79
          · by_cases h80_84 : i < 82
            · by_cases h80_82 : i < 81
              · have e : i = 80 := by omega
                subst e; exact c80
              · have e : i = 81 := by omega
                subst e; exact c81
            · by_cases h82_84 : i < 83
              · have e : i = 82 := by omega
                subst e; exact c82
              · have e : i = 83 := by omega
                subst e; exact c83
    · by_cases h84_113 : i < 98
      · by_cases h84_98 : i < 91
        · by_cases h84_91 : i < 87
          · by_cases h84_87 : i < 85
            · have e : i = 84 := by omega
              subst e; exact c84
            · by_cases h85_87 : i < 86
              · have e : i = 85 := by omega
                subst e; exact c85
              · have e : i = 86 := by omega
                subst e; exact c86
          · by_cases h87_91 : i < 89
            · by_cases h87_89 : i < 88
              · have e : i = 87 := by omega
                subst e; exact c87
              · have e : i = 88 := by omega
                subst e; exact c88
            · by_cases h89_91 : i < 90
              · have e : i = 89 := by omega
                subst e; exact c89
              · have e : i = 90 := by omega
                subst e; exact c90
        · by_cases h91_98 : i < 94
          · by_cases h91_94 : i < 92
            · have e : i = 91 := by omega
              subst e; exact c91
            · by_cases h92_94 : i < 93
              · have e : i = 92 := by omega
                subst e; exact c92
              · have e : i = 93 := by omega
                subst e; exact c93
          · by_cases h94_98 : i < 96
            · by_cases h94_96 : i < 95
              · have e : i = 94 := by omega
                subst e; exact c94
              · have e : i = 95 := by omega
                subst e; exact c95
            · by_cases h96_98 : i < 97
              · have e : i = 96 := by omega
                subst e; exact c96
              · have e : i = 97 := by omega
                subst e; exact c97
      · by_cases h98_113 : i < 105
        · by_cases h98_105 : i < 101
          · by_cases h98_101 : i < 99
            · have e : i = 98 := by omega
              subst e; exact c98
            · by_cases h99_101 : i < 100
              · have e : i = 99 := by omega
                subst e; exact c99
              · have e : i = 100 := by omega
                subst e; exact c100
          · by_cases h101_105 : i < 103
            · by_cases h101_103 : i < 102
              · have e : i = 101 := by omega
                subst e; exact c101
              · have e : i = 102 := by omega
                subst e; exact c102
            · by_cases h103_105 : i < 104
              · have e : i = 103 := by omega
                subst e; exact c103
              · have e : i = 104 := by omega
                subst e; exact c104
        · by_cases h105_113 : i < 109
          · by_cases h105_109 : i < 107
            · by_cases h105_107 : i < 106
              · have e : i = 105 := by omega
                subst e; exact c105
              · have e : i = 106 := by omega
                subst e; exact c106
            · by_cases h107_109 : i < 108
              · have e : i = 107 := by omega
                subst e; exact c107
              · have e : i = 108 := by omega
                subst e; exact c108
          · by_cases h109_113 : i < 111
            · by_cases h109_111 : i < 110
              · have e : i = 109 := by omega
                subst e; exact c109
              · have e : i = 110 := by omega
                subst e; exact c110
            · by_cases h111_113 : i < 112
              · have e : i = 111 := by omega
                subst e; exact c111
              · have e : i = 112 := by omega
                subst e; exact c112
