/-! ===== all cells ===== -/
set_option maxRecDepth 100000 in
set_option maxHeartbeats 1000000 in
theorem cv_all {D : va_G} {cs : Nat → ClassId} {b : Nat} {sa : Int → Nat} {H : Heap} (hP : va_P D fs_cl (zi b (wE cs b)) H) : ∀ i : Nat, i < 113 → cvC D cs b sa H i (piL.getD i 0) := by
  obtain ⟨h6, h8, hd, h7⟩ := cv_w1 hP
  obtain ⟨h8, h1bx⟩ := cw0 h8
  obtain ⟨h8, h1x⟩ := cw1 h8
  obtain ⟨h8, hix⟩ := cw2 h8
  obtain ⟨h8, h0x⟩ := cw3 h8
  obtain ⟨h8, h5x⟩ := cw4 h8
  obtain ⟨h8, h4x⟩ := cw5 h8
  obtain ⟨h8, h2x⟩ := cw6 h8
  obtain ⟨h8, h3x⟩ := cw7 h8
  obtain ⟨c27, c28, c34, c35, c36, c37, c29, c38, c39, c40, c41, c30, c31, c32, c33⟩ := cvb_3 (sa := sa) h3x
  obtain ⟨c42, c43, c44, c45, c46, c47⟩ := cvb_2 (sa := sa) h2x
  obtain ⟨c48, c49, c50, c51, c52, c54, c55, c56, c57, c53, c58, c59, c60, c61⟩ := cvb_4 (sa := sa) h4x
  obtain ⟨c62, c63, c64, c65, c66, c67, c68, c70, c71, c72, c73, c69⟩ := cvb_5 (sa := sa) h5x
  obtain ⟨c74, c75, c76⟩ := cvb_0 (sa := sa) h0x
  have c77 := cvb_i (sa := sa) hix
  obtain ⟨c78, c83, c84, c90, c91, c92, c93, c85, c94, c95, c96, c97, c86, c87, c88, c89⟩ := cvb_1 (sa := sa) h1x
  obtain ⟨c79, c98, c99, c105, c106, c107, c108, c100, c109, c110, c111, c112, c101, c102, c103, c104⟩ := cvb_1b (sa := sa) h1bx
  obtain ⟨c80, c81, c82⟩ := cvb_d (sa := sa) hd
  obtain ⟨c0, c1, c2, c3, c4, c5, c6, c7, c8, c9, c10, c11, c12, c13, c14, c15, c16, c17, c18, c19, c20, c21, c22, c23, c24, c25⟩ := cvb_7 (sa := sa) h7
  have c26 := cvb_6 (cs := cs) (sa := sa) h6
  clear hP h7 h6 h8 hd h1bx h1x hix h0x h5x h4x h2x h3x
  refine cv_tree (P := fun i => cvC D cs b sa H i (piL.getD i 0)) ?_ ?_ ?_ ?_ ?_ ?_ ?_ ?_ ?_ ?_ ?_ ?_ ?_ ?_ ?_ ?_ ?_ ?_ ?_ ?_ ?_ ?_ ?_ ?_ ?_ ?_ ?_ ?_ ?_ ?_ ?_ ?_ ?_ ?_ ?_ ?_ ?_ ?_ ?_ ?_ ?_ ?_ ?_ ?_ ?_ ?_ ?_ ?_ ?_ ?_ ?_ ?_ ?_ ?_ ?_ ?_ ?_ ?_ ?_ ?_ ?_ ?_ ?_ ?_ ?_ ?_ ?_ ?_ ?_ ?_ ?_ ?_ ?_ ?_ ?_ ?_ ?_ ?_ ?_ ?_ ?_ ?_ ?_ ?_ ?_ ?_ ?_ ?_ ?_ ?_ ?_ ?_ ?_ ?_ ?_ ?_ ?_ ?_ ?_ ?_ ?_ ?_ ?_ ?_ ?_ ?_ ?_ ?_ ?_ ?_ ?_ ?_ ?_
  · exact c0
  · exact c1
  · exact c2
  · exact c3
  · exact c4
  · exact c5
  · exact c6
  · exact c7
  · exact c8
  · exact c9
  · exact c10
  · exact c11
  · exact c12
  · exact c13
  · exact c14
  · exact c15
  · exact c16
  · exact c17
  · exact c18
  · exact c19
  · exact c20
  · exact c21
  · exact c22
  · exact c23
  · exact c24
  · exact c25
  · exact c26
  · exact c27
  · exact c28
  · exact c29
  · exact c30
  · exact c31
  · exact c32
  · exact c33
  · exact c34
  · exact c35
  · exact c36
  · exact c37
  · exact c38
  · exact c39
  · exact c40
  · exact c41
  · exact c42
  · exact c43
  · exact c44
  · exact c45
  · exact c46
  · exact c47
  · exact c48
  · exact c49
  · exact c50
  · exact c51
  · exact c52
  · exact c53
  · exact c54
  · exact c55
  · exact c56
  · exact c57
  · exact c58
  · exact c59
  · exact c60
  · exact c61
  · exact c62
  · exact c63
  · exact c64
  · exact c65
  · exact c66
  · exact c67
  · exact c68
  · exact c69
  · exact c70
  · exact c71
  · exact c72
  · exact c73
  · exact c74
  · exact c75
  · exact c76
  · exact c77
  · exact c78
  · exact c79
  · exact c80
  · exact c81
  · exact c82
  · exact c83
  · exact c84
  · exact c85
  · exact c86
  · exact c87
  · exact c88
  · exact c89
  · exact c90
  · exact c91
  · exact c92
  · exact c93
  · exact c94
  · exact c95
  · exact c96
  · exact c97
  · exact c98
  · exact c99
  · exact c100
  · exact c101
  · exact c102
  · exact c103
  · exact c104
  · exact c105
  · exact c106
  · exact c107
  · exact c108
  · exact c109
  · exact c110
  · exact c111
  · exact c112
theorem cv_P {D : va_G} {cs : Nat → ClassId} {b : Nat} {sa : Int → Nat} {H : Heap} (hP : va_P D fs_cl (zi b (wE cs b)) H) : va_P D fs_cl (fs_ws (adF b sa) cs σ0) H := by
  intro k q hq
  have hk : k < fs_N := by
    have := (List.getElem?_eq_some_iff.mp hq).1
    rw [fs_ws_len] at this
    exact this
  unfold fs_ws at hq
  rw [List.getElem?_map, List.getElem?_range hk, Option.map_some] at hq
  cases hq
  rw [adF_at b sa k hk]
  exact cv_all hP k hk
theorem cv_D {cs : Nat → ClassId} {b : Nat} {sa : Int → Nat} {σ : fs_S} : va_D (fs_A (adF b sa)) (fs_ws (adF b sa) cs σ) := by
  have key : ∀ (k : Nat) (q : Nat × va_E), (fs_ws (adF b sa) cs σ)[k]? = some q → k < 113 ∧ q.1 = b + piL.getD k 0 := by
    intro k q hq
    have hk : k < fs_N := by
      have := (List.getElem?_eq_some_iff.mp hq).1
      rw [fs_ws_len] at this
      exact this
    unfold fs_ws at hq
    rw [List.getElem?_map, List.getElem?_range hk, Option.map_some] at hq
    cases hq
    exact ⟨hk, adF_at b sa k hk⟩
  refine ⟨fun i j x y hi hj h => ?_, fun k q hq => ?_⟩
  · obtain ⟨a1, a2⟩ := key i x hi
    obtain ⟨b1, b2⟩ := key j y hj
    exact piL_inj i a1 j b1 (by omega)
  · obtain ⟨a1, a2⟩ := key k q hq
    exact ⟨k, a1, by rw [a2, adF_at b sa k a1]⟩
theorem fsA_gA {b : Nat} {sa : Int → Nat} {q : Nat} (h : fs_A (adF b sa) q) : gA b q := by
  obtain ⟨i, hi, rfl⟩ := h
  rw [adF_at b sa i hi]
  exact Nat.le_add_right _ _
theorem gSt_fs {U : State} {b : Nat} {sa : Int → Nat} (h : gSt U b (adG b sa)) : fs_St U (adF b sa) := by
  refine ⟨fun j q hq => ?_, h.2.1⟩
  obtain ⟨h1, h2⟩ := h.1 j q hq
  have e1 : adF b sa (1000 + (j : Int)) = sa (1000 + (j : Int)) := if_pos (by omega)
  have e2 : adG b sa (1000 + (j : Int)) = sa (1000 + (j : Int)) := if_pos (by omega)
  rw [e2] at h1 h2
  rw [e1]
  exact ⟨h1.narrow (fun q hq => fsA_gA hq), h2.narrow (fun q hq => fsA_gA hq)⟩
