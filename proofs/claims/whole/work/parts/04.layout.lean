/-- the classes whose objects the world holds -/
abbrev fs_cl : List vw_C := [(RX0, TX0, 12), (RX1, TX1, 4), (RX2, TX2, 2), (RX3, TX3, 7), (RX4, TX4, 9), (RX5, TX5, 12), (RX6, TX6, 9), (RX7, TX7, 34)]
abbrev fs_K : Type := (Nat × List (Option Int)) ⊕ ((Nat × Bool) ⊕ (Nat × Bool × Int))
/-- the cells, by their numbers: an object (class, what each field holds: a cell, or a number), a row of numbers, a row of cells -/
def fs_L : List fs_K := [
  .inl (7, [none, some 1, some 2, some 3, some 4, none, none, none, none, none, none, some 5, some 6, some 7, some 8, some 9, some 10, some 11, some 12, some 13, some 14, some 15, some 16, none, some 17, none, some 18, some 19, some 20, some 21, some 22, some 23, some 24, some 25]),
  .inr (.inl (68, false)),
  .inr (.inl (68, false)),
  .inr (.inl (16, false)),
  .inr (.inl (16, false)),
  .inr (.inl (16, false)),
  .inr (.inl (256, false)),
  .inr (.inl (256, false)),
  .inr (.inl (256, false)),
  .inr (.inl (4, false)),
  .inr (.inl (16, false)),
  .inr (.inl (16, true)),
  .inr (.inl (11, false)),
  .inr (.inl (448, false)),
  .inr (.inl (1029, false)),
  .inr (.inl (1029, false)),
  .inr (.inl (1029, false)),
  .inr (.inl (16, false)),
  .inr (.inl (2044, false)),
  .inr (.inl (2044, false)),
  .inr (.inl (511, false)),
  .inr (.inl (511, false)),
  .inr (.inl (511, false)),
  .inr (.inl (511, false)),
  .inr (.inl (326, false)),
  .inr (.inl (2, true)),
  .inl (6, [some 27, some 42, some 48, some 62, some 74, some 77, some 80, some 81, some 82]),
  .inl (3, [none, some 28, some 29, some 30, some 31, some 32, some 33]),
  .inr (.inr (4, false, 34)),
  .inr (.inr (4, false, 38)),
  .inr (.inl (16, false)),
  .inr (.inl (16, false)),
  .inr (.inl (16, false)),
  .inr (.inl (16, false)),
  .inr (.inl (16, false)),
  .inr (.inl (16, false)),
  .inr (.inl (16, false)),
  .inr (.inl (16, false)),
  .inr (.inl (16, false)),
  .inr (.inl (16, false)),
  .inr (.inl (16, false)),
  .inr (.inl (16, false)),
  .inl (2, [some 43, some 27]),
  .inr (.inr (4, false, 44)),
  .inr (.inl (128, false)),
  .inr (.inl (128, false)),
  .inr (.inl (128, false)),
  .inr (.inl (128, false)),
  .inl (4, [none, none, some 49, some 50, some 51, some 52, some 53, some 27, some 42]),
  .inr (.inl (16, false)),
  .inr (.inl (16, true)),
  .inr (.inl (4, false)),
  .inr (.inr (4, false, 54)),
  .inr (.inr (4, false, 58)),
  .inr (.inl (64, false)),
  .inr (.inl (64, false)),
  .inr (.inl (64, false)),
  .inr (.inl (64, false)),
  .inr (.inl (64, false)),
  .inr (.inl (64, false)),
  .inr (.inl (64, false)),
  .inr (.inl (64, false)),
  .inl (5, [none, none, some 63, some 64, some 65, some 66, some 67, some 68, none, none, some 69, some 27]),
  .inr (.inl (1029, false)),
  .inr (.inl (1029, false)),
  .inr (.inl (1029, false)),
  .inr (.inl (1029, false)),
  .inr (.inl (2048, false)),
  .inr (.inr (4, false, 70)),
  .inr (.inl (16, false)),
  .inr (.inl (7, false)),
  .inr (.inl (7, false)),
  .inr (.inl (7, false)),
  .inr (.inl (7, false)),
  .inl (0, [none, none, none, none, none, none, none, none, none, some 75, some 42, some 76]),
  .inr (.inl (4, false)),
  .inr (.inl (4, false)),
  .inr (.inr (2, true, 78)),
  .inl (1, [none, none, none, some 83]),
  .inl (1, [none, none, none, some 98]),
  .inr (.inl (4, false)),
  .inr (.inl (4, false)),
  .inr (.inl (4, false)),
  .inl (3, [none, some 84, some 85, some 86, some 87, some 88, some 89]),
  .inr (.inr (4, false, 90)),
  .inr (.inr (4, false, 94)),
  .inr (.inl (16, false)),
  .inr (.inl (16, false)),
  .inr (.inl (16, false)),
  .inr (.inl (16, false)),
  .inr (.inl (16, false)),
  .inr (.inl (16, false)),
  .inr (.inl (16, false)),
  .inr (.inl (16, false)),
  .inr (.inl (16, false)),
  .inr (.inl (16, false)),
  .inr (.inl (16, false)),
  .inr (.inl (16, false)),
  .inl (3, [none, some 99, some 100, some 101, some 102, some 103, some 104]),
  .inr (.inr (4, false, 105)),
  .inr (.inr (4, false, 109)),
  .inr (.inl (16, false)),
  .inr (.inl (16, false)),
  .inr (.inl (16, false)),
  .inr (.inl (16, false)),
  .inr (.inl (16, false)),
  .inr (.inl (16, false)),
  .inr (.inl (16, false)),
  .inr (.inl (16, false)),
  .inr (.inl (16, false)),
  .inr (.inl (16, false)),
  .inr (.inl (16, false)),
  .inr (.inl (16, false))]
def fs_N : Nat := 113
theorem fs_N_eq : fs_L.length = fs_N := by decide +kernel
def fs_lay (k : Int) : Option fs_K := if k < 0 then none else fs_L[k.toNat]?
theorem fs_l0 : fs_lay 0 = some (.inl (7, [none, some 1, some 2, some 3, some 4, none, none, none, none, none, none, some 5, some 6, some 7, some 8, some 9, some 10, some 11, some 12, some 13, some 14, some 15, some 16, none, some 17, none, some 18, some 19, some 20, some 21, some 22, some 23, some 24, some 25])) := rfl
theorem fs_l1 : fs_lay 1 = some (.inr (.inl (68, false))) := rfl
theorem fs_l2 : fs_lay 2 = some (.inr (.inl (68, false))) := rfl
theorem fs_l3 : fs_lay 3 = some (.inr (.inl (16, false))) := rfl
theorem fs_l4 : fs_lay 4 = some (.inr (.inl (16, false))) := rfl
theorem fs_l5 : fs_lay 5 = some (.inr (.inl (16, false))) := rfl
theorem fs_l6 : fs_lay 6 = some (.inr (.inl (256, false))) := rfl
theorem fs_l7 : fs_lay 7 = some (.inr (.inl (256, false))) := rfl
theorem fs_l8 : fs_lay 8 = some (.inr (.inl (256, false))) := rfl
theorem fs_l9 : fs_lay 9 = some (.inr (.inl (4, false))) := rfl
theorem fs_l10 : fs_lay 10 = some (.inr (.inl (16, false))) := rfl
theorem fs_l11 : fs_lay 11 = some (.inr (.inl (16, true))) := rfl
theorem fs_l12 : fs_lay 12 = some (.inr (.inl (11, false))) := rfl
theorem fs_l13 : fs_lay 13 = some (.inr (.inl (448, false))) := rfl
theorem fs_l14 : fs_lay 14 = some (.inr (.inl (1029, false))) := rfl
theorem fs_l15 : fs_lay 15 = some (.inr (.inl (1029, false))) := rfl
theorem fs_l16 : fs_lay 16 = some (.inr (.inl (1029, false))) := rfl
theorem fs_l17 : fs_lay 17 = some (.inr (.inl (16, false))) := rfl
theorem fs_l18 : fs_lay 18 = some (.inr (.inl (2044, false))) := rfl
theorem fs_l19 : fs_lay 19 = some (.inr (.inl (2044, false))) := rfl
theorem fs_l20 : fs_lay 20 = some (.inr (.inl (511, false))) := rfl
theorem fs_l21 : fs_lay 21 = some (.inr (.inl (511, false))) := rfl
theorem fs_l22 : fs_lay 22 = some (.inr (.inl (511, false))) := rfl
theorem fs_l23 : fs_lay 23 = some (.inr (.inl (511, false))) := rfl
theorem fs_l24 : fs_lay 24 = some (.inr (.inl (326, false))) := rfl
theorem fs_l25 : fs_lay 25 = some (.inr (.inl (2, true))) := rfl
theorem fs_l26 : fs_lay 26 = some (.inl (6, [some 27, some 42, some 48, some 62, some 74, some 77, some 80, some 81, some 82])) := rfl
theorem fs_l27 : fs_lay 27 = some (.inl (3, [none, some 28, some 29, some 30, some 31, some 32, some 33])) := rfl
theorem fs_l28 : fs_lay 28 = some (.inr (.inr (4, false, 34))) := rfl
theorem fs_l29 : fs_lay 29 = some (.inr (.inr (4, false, 38))) := rfl
theorem fs_l30 : fs_lay 30 = some (.inr (.inl (16, false))) := rfl
theorem fs_l31 : fs_lay 31 = some (.inr (.inl (16, false))) := rfl
theorem fs_l32 : fs_lay 32 = some (.inr (.inl (16, false))) := rfl
theorem fs_l33 : fs_lay 33 = some (.inr (.inl (16, false))) := rfl
theorem fs_l34 : fs_lay 34 = some (.inr (.inl (16, false))) := rfl
theorem fs_l35 : fs_lay 35 = some (.inr (.inl (16, false))) := rfl
theorem fs_l36 : fs_lay 36 = some (.inr (.inl (16, false))) := rfl
theorem fs_l37 : fs_lay 37 = some (.inr (.inl (16, false))) := rfl
theorem fs_l38 : fs_lay 38 = some (.inr (.inl (16, false))) := rfl
theorem fs_l39 : fs_lay 39 = some (.inr (.inl (16, false))) := rfl
theorem fs_l40 : fs_lay 40 = some (.inr (.inl (16, false))) := rfl
theorem fs_l41 : fs_lay 41 = some (.inr (.inl (16, false))) := rfl
theorem fs_l42 : fs_lay 42 = some (.inl (2, [some 43, some 27])) := rfl
theorem fs_l43 : fs_lay 43 = some (.inr (.inr (4, false, 44))) := rfl
theorem fs_l44 : fs_lay 44 = some (.inr (.inl (128, false))) := rfl
theorem fs_l45 : fs_lay 45 = some (.inr (.inl (128, false))) := rfl
theorem fs_l46 : fs_lay 46 = some (.inr (.inl (128, false))) := rfl
theorem fs_l47 : fs_lay 47 = some (.inr (.inl (128, false))) := rfl
theorem fs_l48 : fs_lay 48 = some (.inl (4, [none, none, some 49, some 50, some 51, some 52, some 53, some 27, some 42])) := rfl
theorem fs_l49 : fs_lay 49 = some (.inr (.inl (16, false))) := rfl
theorem fs_l50 : fs_lay 50 = some (.inr (.inl (16, true))) := rfl
theorem fs_l51 : fs_lay 51 = some (.inr (.inl (4, false))) := rfl
theorem fs_l52 : fs_lay 52 = some (.inr (.inr (4, false, 54))) := rfl
theorem fs_l53 : fs_lay 53 = some (.inr (.inr (4, false, 58))) := rfl
theorem fs_l54 : fs_lay 54 = some (.inr (.inl (64, false))) := rfl
theorem fs_l55 : fs_lay 55 = some (.inr (.inl (64, false))) := rfl
theorem fs_l56 : fs_lay 56 = some (.inr (.inl (64, false))) := rfl
theorem fs_l57 : fs_lay 57 = some (.inr (.inl (64, false))) := rfl
theorem fs_l58 : fs_lay 58 = some (.inr (.inl (64, false))) := rfl
theorem fs_l59 : fs_lay 59 = some (.inr (.inl (64, false))) := rfl
theorem fs_l60 : fs_lay 60 = some (.inr (.inl (64, false))) := rfl
theorem fs_l61 : fs_lay 61 = some (.inr (.inl (64, false))) := rfl
theorem fs_l62 : fs_lay 62 = some (.inl (5, [none, none, some 63, some 64, some 65, some 66, some 67, some 68, none, none, some 69, some 27])) := rfl
theorem fs_l63 : fs_lay 63 = some (.inr (.inl (1029, false))) := rfl
theorem fs_l64 : fs_lay 64 = some (.inr (.inl (1029, false))) := rfl
theorem fs_l65 : fs_lay 65 = some (.inr (.inl (1029, false))) := rfl
theorem fs_l66 : fs_lay 66 = some (.inr (.inl (1029, false))) := rfl
theorem fs_l67 : fs_lay 67 = some (.inr (.inl (2048, false))) := rfl
theorem fs_l68 : fs_lay 68 = some (.inr (.inr (4, false, 70))) := rfl
theorem fs_l69 : fs_lay 69 = some (.inr (.inl (16, false))) := rfl
theorem fs_l70 : fs_lay 70 = some (.inr (.inl (7, false))) := rfl
theorem fs_l71 : fs_lay 71 = some (.inr (.inl (7, false))) := rfl
theorem fs_l72 : fs_lay 72 = some (.inr (.inl (7, false))) := rfl
theorem fs_l73 : fs_lay 73 = some (.inr (.inl (7, false))) := rfl
theorem fs_l74 : fs_lay 74 = some (.inl (0, [none, none, none, none, none, none, none, none, none, some 75, some 42, some 76])) := rfl
theorem fs_l75 : fs_lay 75 = some (.inr (.inl (4, false))) := rfl
theorem fs_l76 : fs_lay 76 = some (.inr (.inl (4, false))) := rfl
theorem fs_l77 : fs_lay 77 = some (.inr (.inr (2, true, 78))) := rfl
theorem fs_l78 : fs_lay 78 = some (.inl (1, [none, none, none, some 83])) := rfl
theorem fs_l79 : fs_lay 79 = some (.inl (1, [none, none, none, some 98])) := rfl
theorem fs_l80 : fs_lay 80 = some (.inr (.inl (4, false))) := rfl
theorem fs_l81 : fs_lay 81 = some (.inr (.inl (4, false))) := rfl
theorem fs_l82 : fs_lay 82 = some (.inr (.inl (4, false))) := rfl
theorem fs_l83 : fs_lay 83 = some (.inl (3, [none, some 84, some 85, some 86, some 87, some 88, some 89])) := rfl
theorem fs_l84 : fs_lay 84 = some (.inr (.inr (4, false, 90))) := rfl
theorem fs_l85 : fs_lay 85 = some (.inr (.inr (4, false, 94))) := rfl
theorem fs_l86 : fs_lay 86 = some (.inr (.inl (16, false))) := rfl
theorem fs_l87 : fs_lay 87 = some (.inr (.inl (16, false))) := rfl
theorem fs_l88 : fs_lay 88 = some (.inr (.inl (16, false))) := rfl
theorem fs_l89 : fs_lay 89 = some (.inr (.inl (16, false))) := rfl
theorem fs_l90 : fs_lay 90 = some (.inr (.inl (16, false))) := rfl
theorem fs_l91 : fs_lay 91 = some (.inr (.inl (16, false))) := rfl
theorem fs_l92 : fs_lay 92 = some (.inr (.inl (16, false))) := rfl
theorem fs_l93 : fs_lay 93 = some (.inr (.inl (16, false))) := rfl
theorem fs_l94 : fs_lay 94 = some (.inr (.inl (16, false))) := rfl
theorem fs_l95 : fs_lay 95 = some (.inr (.inl (16, false))) := rfl
theorem fs_l96 : fs_lay 96 = some (.inr (.inl (16, false))) := rfl
theorem fs_l97 : fs_lay 97 = some (.inr (.inl (16, false))) := rfl
theorem fs_l98 : fs_lay 98 = some (.inl (3, [none, some 99, some 100, some 101, some 102, some 103, some 104])) := rfl
theorem fs_l99 : fs_lay 99 = some (.inr (.inr (4, false, 105))) := rfl
theorem fs_l100 : fs_lay 100 = some (.inr (.inr (4, false, 109))) := rfl
theorem fs_l101 : fs_lay 101 = some (.inr (.inl (16, false))) := rfl
theorem fs_l102 : fs_lay 102 = some (.inr (.inl (16, false))) := rfl
theorem fs_l103 : fs_lay 103 = some (.inr (.inl (16, false))) := rfl
theorem fs_l104 : fs_lay 104 = some (.inr (.inl (16, false))) := rfl
theorem fs_l105 : fs_lay 105 = some (.inr (.inl (16, false))) := rfl
theorem fs_l106 : fs_lay 106 = some (.inr (.inl (16, false))) := rfl
theorem fs_l107 : fs_lay 107 = some (.inr (.inl (16, false))) := rfl
theorem fs_l108 : fs_lay 108 = some (.inr (.inl (16, false))) := rfl
theorem fs_l109 : fs_lay 109 = some (.inr (.inl (16, false))) := rfl
theorem fs_l110 : fs_lay 110 = some (.inr (.inl (16, false))) := rfl
theorem fs_l111 : fs_lay 111 = some (.inr (.inl (16, false))) := rfl
theorem fs_l112 : fs_lay 112 = some (.inr (.inl (16, false))) := rfl
theorem fs_f34 (f : Int) (h : 0 ≤ f ∧ f < 4) : fs_lay (34 + f) = some (.inr (.inl (16, false))) := by
  obtain ⟨h1, h2⟩ := h
  rcases (by omega : f = 0 ∨ f = 1 ∨ f = 2 ∨ f = 3) with rfl | rfl | rfl | rfl <;> rfl
theorem fs_f38 (f : Int) (h : 0 ≤ f ∧ f < 4) : fs_lay (38 + f) = some (.inr (.inl (16, false))) := by
  obtain ⟨h1, h2⟩ := h
  rcases (by omega : f = 0 ∨ f = 1 ∨ f = 2 ∨ f = 3) with rfl | rfl | rfl | rfl <;> rfl
theorem fs_f44 (f : Int) (h : 0 ≤ f ∧ f < 4) : fs_lay (44 + f) = some (.inr (.inl (128, false))) := by
  obtain ⟨h1, h2⟩ := h
  rcases (by omega : f = 0 ∨ f = 1 ∨ f = 2 ∨ f = 3) with rfl | rfl | rfl | rfl <;> rfl
theorem fs_f54 (f : Int) (h : 0 ≤ f ∧ f < 4) : fs_lay (54 + f) = some (.inr (.inl (64, false))) := by
  obtain ⟨h1, h2⟩ := h
  rcases (by omega : f = 0 ∨ f = 1 ∨ f = 2 ∨ f = 3) with rfl | rfl | rfl | rfl <;> rfl
theorem fs_f58 (f : Int) (h : 0 ≤ f ∧ f < 4) : fs_lay (58 + f) = some (.inr (.inl (64, false))) := by
  obtain ⟨h1, h2⟩ := h
  rcases (by omega : f = 0 ∨ f = 1 ∨ f = 2 ∨ f = 3) with rfl | rfl | rfl | rfl <;> rfl
theorem fs_f70 (f : Int) (h : 0 ≤ f ∧ f < 4) : fs_lay (70 + f) = some (.inr (.inl (7, false))) := by
  obtain ⟨h1, h2⟩ := h
  rcases (by omega : f = 0 ∨ f = 1 ∨ f = 2 ∨ f = 3) with rfl | rfl | rfl | rfl <;> rfl
theorem fs_f90 (f : Int) (h : 0 ≤ f ∧ f < 4) : fs_lay (90 + f) = some (.inr (.inl (16, false))) := by
  obtain ⟨h1, h2⟩ := h
  rcases (by omega : f = 0 ∨ f = 1 ∨ f = 2 ∨ f = 3) with rfl | rfl | rfl | rfl <;> rfl
theorem fs_f94 (f : Int) (h : 0 ≤ f ∧ f < 4) : fs_lay (94 + f) = some (.inr (.inl (16, false))) := by
  obtain ⟨h1, h2⟩ := h
  rcases (by omega : f = 0 ∨ f = 1 ∨ f = 2 ∨ f = 3) with rfl | rfl | rfl | rfl <;> rfl
theorem fs_f105 (f : Int) (h : 0 ≤ f ∧ f < 4) : fs_lay (105 + f) = some (.inr (.inl (16, false))) := by
  obtain ⟨h1, h2⟩ := h
  rcases (by omega : f = 0 ∨ f = 1 ∨ f = 2 ∨ f = 3) with rfl | rfl | rfl | rfl <;> rfl
theorem fs_f109 (f : Int) (h : 0 ≤ f ∧ f < 4) : fs_lay (109 + f) = some (.inr (.inl (16, false))) := by
  obtain ⟨h1, h2⟩ := h
  rcases (by omega : f = 0 ∨ f = 1 ∨ f = 2 ∨ f = 3) with rfl | rfl | rfl | rfl <;> rfl
def fs_stL : List (String × String × List Int) := [("FieldSorter", "GREATEST", [63, 63, 63, 3]), ("FieldSorter", "WIDTH", [6, 6, 6, 2]), ("FieldSorter$Survey", "REST", [1048576, 16384, 256, 4, 1]), ("FieldSorter$Tuples", "SHIFT", [8, 5, 2, 0]), ("FieldSorter$Tuples", "LENGTH_MASK", [7, 7, 7, 3])]
/-- the words that every method has: those of the tables that any later state keeps -/
def fs_tbl : List Cond := lw_tbl.filter goodWord
theorem fs_tm {w : Cond} (i : Nat) (h : lw_tbl[i]? = some w) (hg : goodWord w = true) : w ∈ fs_tbl := List.mem_filter.mpr ⟨List.mem_of_getElem? h, hg⟩
theorem fs_inX0 : ∀ w ∈ u_ws RX0 TX0 12, w ∈ fs_tbl := by
  have h : ∀ w ∈ u_ws RX0 TX0 12, w ∈ lw_tbl ∧ goodWord w = true := by decide +kernel
  exact fun w hw => List.mem_filter.mpr (h w hw)
theorem fs_inX1 : ∀ w ∈ u_ws RX1 TX1 4, w ∈ fs_tbl := by
  have h : ∀ w ∈ u_ws RX1 TX1 4, w ∈ lw_tbl ∧ goodWord w = true := by decide +kernel
  exact fun w hw => List.mem_filter.mpr (h w hw)
theorem fs_inX2 : ∀ w ∈ u_ws RX2 TX2 2, w ∈ fs_tbl := by
  have h : ∀ w ∈ u_ws RX2 TX2 2, w ∈ lw_tbl ∧ goodWord w = true := by decide +kernel
  exact fun w hw => List.mem_filter.mpr (h w hw)
theorem fs_inX3 : ∀ w ∈ u_ws RX3 TX3 7, w ∈ fs_tbl := by
  have h : ∀ w ∈ u_ws RX3 TX3 7, w ∈ lw_tbl ∧ goodWord w = true := by decide +kernel
  exact fun w hw => List.mem_filter.mpr (h w hw)
theorem fs_inX4 : ∀ w ∈ u_ws RX4 TX4 9, w ∈ fs_tbl := by
  have h : ∀ w ∈ u_ws RX4 TX4 9, w ∈ lw_tbl ∧ goodWord w = true := by decide +kernel
  exact fun w hw => List.mem_filter.mpr (h w hw)
theorem fs_inX5 : ∀ w ∈ u_ws RX5 TX5 12, w ∈ fs_tbl := by
  have h : ∀ w ∈ u_ws RX5 TX5 12, w ∈ lw_tbl ∧ goodWord w = true := by decide +kernel
  exact fun w hw => List.mem_filter.mpr (h w hw)
theorem fs_inX6 : ∀ w ∈ u_ws RX6 TX6 9, w ∈ fs_tbl := by
  have h : ∀ w ∈ u_ws RX6 TX6 9, w ∈ lw_tbl ∧ goodWord w = true := by decide +kernel
  exact fun w hw => List.mem_filter.mpr (h w hw)
theorem fs_inX7 : ∀ w ∈ u_ws RX7 TX7 34, w ∈ fs_tbl := by
  have h : ∀ w ∈ u_ws RX7 TX7 34, w ∈ lw_tbl ∧ goodWord w = true := by decide +kernel
  exact fun w hw => List.mem_filter.mpr (h w hw)
/-- links between nest mates: kept beside the words -/
def fs_nest : List Cond := [.methodLinkNest "FieldSorter" 9 ⟨"FieldSorter$Rules", "<init>", "()V"⟩ "FieldSorter", .methodLinkNest "FieldSorter" 56 ⟨"FieldSorter$Image", "<init>", "()V"⟩ "FieldSorter", .methodLinkNest "FieldSorter$Image" 22 ⟨"FieldSorter$Rules", "<init>", "()V"⟩ "FieldSorter", .fieldLinkNest "FieldSorter$Parts" 24 "FieldSorter" "GREATEST" "[I" "FieldSorter", .fieldLinkNest "FieldSorter$Survey" 60 "FieldSorter" "GREATEST" "[I" "FieldSorter", .methodLinkNest "FieldSorter$Survey" 74 ⟨"FieldSorter", "lowestBit", "(I)I"⟩ "FieldSorter", .fieldLinkNest "FieldSorter$Rules" 60 "FieldSorter" "WIDTH" "[I" "FieldSorter", .fieldLinkNest "FieldSorter$Tuples" 79 "FieldSorter" "WIDTH" "[I" "FieldSorter", .fieldLinkNest "FieldSorter$Cutter" 89 "FieldSorter" "GREATEST" "[I" "FieldSorter", .fieldLinkNest "FieldSorter$Cutter" 92 "FieldSorter" "WIDTH" "[I" "FieldSorter"]
theorem fs_nest_in : ∀ w ∈ fs_nest, w ∈ lw_tbl := by decide +kernel
/-- a field that a class links under a number: class and slot -/
def fs_F (own : String) (idx ci f : Nat) : Prop := ∃ (C : String) (T : u_T) (N : Nat), fs_cl[ci]? = some (C, T, N) ∧ f < N ∧ Cond.fieldLink own idx (T f).1 (T f).2.1 (T f).2.2.1 ∈ fs_tbl
/-- .. and that may be written, of this type -/
def fs_P (ci f : Nat) (ty : FieldType) : Prop := ∃ (C : String) (T : u_T) (N : Nat), fs_cl[ci]? = some (C, T, N) ∧ (T f).2.2.2 = false ∧ parseFieldDescriptor (T f).2.2.1 = some ty
theorem fs_pX0_0 : fs_P 0 0 .int := ⟨RX0, TX0, 12, rfl, rfl, by decide +kernel⟩
theorem fs_pX0_1 : fs_P 0 1 .int := ⟨RX0, TX0, 12, rfl, rfl, by decide +kernel⟩
theorem fs_pX0_2 : fs_P 0 2 .int := ⟨RX0, TX0, 12, rfl, rfl, by decide +kernel⟩
theorem fs_pX0_3 : fs_P 0 3 .int := ⟨RX0, TX0, 12, rfl, rfl, by decide +kernel⟩
theorem fs_pX0_4 : fs_P 0 4 .int := ⟨RX0, TX0, 12, rfl, rfl, by decide +kernel⟩
theorem fs_pX0_5 : fs_P 0 5 .int := ⟨RX0, TX0, 12, rfl, rfl, by decide +kernel⟩
theorem fs_pX0_6 : fs_P 0 6 .int := ⟨RX0, TX0, 12, rfl, rfl, by decide +kernel⟩
theorem fs_pX0_7 : fs_P 0 7 .int := ⟨RX0, TX0, 12, rfl, rfl, by decide +kernel⟩
theorem fs_pX0_8 : fs_P 0 8 .int := ⟨RX0, TX0, 12, rfl, rfl, by decide +kernel⟩
theorem fs_pX1_0 : fs_P 1 0 .boolean := ⟨RX1, TX1, 4, rfl, rfl, by decide +kernel⟩
theorem fs_pX1_1 : fs_P 1 1 .int := ⟨RX1, TX1, 4, rfl, rfl, by decide +kernel⟩
theorem fs_pX1_2 : fs_P 1 2 .int := ⟨RX1, TX1, 4, rfl, rfl, by decide +kernel⟩
theorem fs_pX3_0 : fs_P 3 0 .int := ⟨RX3, TX3, 7, rfl, rfl, by decide +kernel⟩
theorem fs_pX4_0 : fs_P 4 0 .boolean := ⟨RX4, TX4, 9, rfl, rfl, by decide +kernel⟩
theorem fs_pX4_1 : fs_P 4 1 .int := ⟨RX4, TX4, 9, rfl, rfl, by decide +kernel⟩
theorem fs_pX5_0 : fs_P 5 0 .boolean := ⟨RX5, TX5, 12, rfl, rfl, by decide +kernel⟩
theorem fs_pX5_1 : fs_P 5 1 .int := ⟨RX5, TX5, 12, rfl, rfl, by decide +kernel⟩
theorem fs_pX5_8 : fs_P 5 8 .int := ⟨RX5, TX5, 12, rfl, rfl, by decide +kernel⟩
theorem fs_pX5_9 : fs_P 5 9 .int := ⟨RX5, TX5, 12, rfl, rfl, by decide +kernel⟩
theorem fs_pX7_0 : fs_P 7 0 .int := ⟨RX7, TX7, 34, rfl, rfl, by decide +kernel⟩
theorem fs_pX7_5 : fs_P 7 5 .int := ⟨RX7, TX7, 34, rfl, rfl, by decide +kernel⟩
theorem fs_pX7_6 : fs_P 7 6 .int := ⟨RX7, TX7, 34, rfl, rfl, by decide +kernel⟩
theorem fs_pX7_7 : fs_P 7 7 .boolean := ⟨RX7, TX7, 34, rfl, rfl, by decide +kernel⟩
theorem fs_pX7_8 : fs_P 7 8 .boolean := ⟨RX7, TX7, 34, rfl, rfl, by decide +kernel⟩
theorem fs_pX7_9 : fs_P 7 9 .boolean := ⟨RX7, TX7, 34, rfl, rfl, by decide +kernel⟩
theorem fs_pX7_10 : fs_P 7 10 .boolean := ⟨RX7, TX7, 34, rfl, rfl, by decide +kernel⟩
theorem fs_pX7_23 : fs_P 7 23 .int := ⟨RX7, TX7, 34, rfl, rfl, by decide +kernel⟩
theorem fs_pX7_25 : fs_P 7 25 .int := ⟨RX7, TX7, 34, rfl, rfl, by decide +kernel⟩
theorem fs_kX3_9 : fs_F RX3 9 3 0 := ⟨RX3, TX3, 7, rfl, by decide, fs_tm 85 (by decide +kernel) rfl⟩
theorem fs_kX6_84 : fs_F RX6 84 3 0 := ⟨RX3, TX3, 7, rfl, by decide, fs_tm 86 (by decide +kernel) rfl⟩
theorem fs_kX5_65 : fs_F RX5 65 3 0 := ⟨RX3, TX3, 7, rfl, by decide, fs_tm 87 (by decide +kernel) rfl⟩
theorem fs_kX2_28 : fs_F RX2 28 3 0 := ⟨RX3, TX3, 7, rfl, by decide, fs_tm 88 (by decide +kernel) rfl⟩
theorem fs_kX4_89 : fs_F RX4 89 3 0 := ⟨RX3, TX3, 7, rfl, by decide, fs_tm 89 (by decide +kernel) rfl⟩
theorem fs_kX3_17 : fs_F RX3 17 3 1 := ⟨RX3, TX3, 7, rfl, by decide, fs_tm 90 (by decide +kernel) rfl⟩
theorem fs_kX2_37 : fs_F RX2 37 3 1 := ⟨RX3, TX3, 7, rfl, by decide, fs_tm 91 (by decide +kernel) rfl⟩
theorem fs_kX6_279 : fs_F RX6 279 3 1 := ⟨RX3, TX3, 7, rfl, by decide, fs_tm 92 (by decide +kernel) rfl⟩
theorem fs_kX3_20 : fs_F RX3 20 3 2 := ⟨RX3, TX3, 7, rfl, by decide, fs_tm 93 (by decide +kernel) rfl⟩
theorem fs_kX2_40 : fs_F RX2 40 3 2 := ⟨RX3, TX3, 7, rfl, by decide, fs_tm 94 (by decide +kernel) rfl⟩
theorem fs_kX6_283 : fs_F RX6 283 3 2 := ⟨RX3, TX3, 7, rfl, by decide, fs_tm 95 (by decide +kernel) rfl⟩
theorem fs_kX3_23 : fs_F RX3 23 3 3 := ⟨RX3, TX3, 7, rfl, by decide, fs_tm 96 (by decide +kernel) rfl⟩
theorem fs_kX6_102 : fs_F RX6 102 3 3 := ⟨RX3, TX3, 7, rfl, by decide, fs_tm 97 (by decide +kernel) rfl⟩
theorem fs_kX3_27 : fs_F RX3 27 3 4 := ⟨RX3, TX3, 7, rfl, by decide, fs_tm 98 (by decide +kernel) rfl⟩
theorem fs_kX4_81 : fs_F RX4 81 3 4 := ⟨RX3, TX3, 7, rfl, by decide, fs_tm 99 (by decide +kernel) rfl⟩
theorem fs_kX6_108 : fs_F RX6 108 3 4 := ⟨RX3, TX3, 7, rfl, by decide, fs_tm 100 (by decide +kernel) rfl⟩
theorem fs_kX3_30 : fs_F RX3 30 3 5 := ⟨RX3, TX3, 7, rfl, by decide, fs_tm 101 (by decide +kernel) rfl⟩
theorem fs_kX5_68 : fs_F RX5 68 3 5 := ⟨RX3, TX3, 7, rfl, by decide, fs_tm 102 (by decide +kernel) rfl⟩
theorem fs_kX2_34 : fs_F RX2 34 3 5 := ⟨RX3, TX3, 7, rfl, by decide, fs_tm 103 (by decide +kernel) rfl⟩
theorem fs_kX4_86 : fs_F RX4 86 3 5 := ⟨RX3, TX3, 7, rfl, by decide, fs_tm 104 (by decide +kernel) rfl⟩
theorem fs_kX6_276 : fs_F RX6 276 3 5 := ⟨RX3, TX3, 7, rfl, by decide, fs_tm 105 (by decide +kernel) rfl⟩
theorem fs_kX3_33 : fs_F RX3 33 3 6 := ⟨RX3, TX3, 7, rfl, by decide, fs_tm 106 (by decide +kernel) rfl⟩
theorem fs_kX6_105 : fs_F RX6 105 3 6 := ⟨RX3, TX3, 7, rfl, by decide, fs_tm 107 (by decide +kernel) rfl⟩
theorem fs_kX2_11 : fs_F RX2 11 2 0 := ⟨RX2, TX2, 2, rfl, by decide, fs_tm 131 (by decide +kernel) rfl⟩
theorem fs_kX0_85 : fs_F RX0 85 2 0 := ⟨RX2, TX2, 2, rfl, by decide, fs_tm 132 (by decide +kernel) rfl⟩
theorem fs_kX2_16 : fs_F RX2 16 2 1 := ⟨RX2, TX2, 2, rfl, by decide, fs_tm 133 (by decide +kernel) rfl⟩
theorem fs_kX4_9 : fs_F RX4 9 4 0 := ⟨RX4, TX4, 9, rfl, by decide, fs_tm 146 (by decide +kernel) rfl⟩
theorem fs_kX6_272 : fs_F RX6 272 4 0 := ⟨RX4, TX4, 9, rfl, by decide, fs_tm 147 (by decide +kernel) rfl⟩
theorem fs_kX4_15 : fs_F RX4 15 4 1 := ⟨RX4, TX4, 9, rfl, by decide, fs_tm 148 (by decide +kernel) rfl⟩
theorem fs_kX6_151 : fs_F RX6 151 4 1 := ⟨RX4, TX4, 9, rfl, by decide, fs_tm 149 (by decide +kernel) rfl⟩
theorem fs_kX4_19 : fs_F RX4 19 4 2 := ⟨RX4, TX4, 9, rfl, by decide, fs_tm 150 (by decide +kernel) rfl⟩
theorem fs_kX6_137 : fs_F RX6 137 4 2 := ⟨RX4, TX4, 9, rfl, by decide, fs_tm 151 (by decide +kernel) rfl⟩
theorem fs_kX4_23 : fs_F RX4 23 4 3 := ⟨RX4, TX4, 9, rfl, by decide, fs_tm 152 (by decide +kernel) rfl⟩
theorem fs_kX6_147 : fs_F RX6 147 4 3 := ⟨RX4, TX4, 9, rfl, by decide, fs_tm 153 (by decide +kernel) rfl⟩
theorem fs_kX4_27 : fs_F RX4 27 4 4 := ⟨RX4, TX4, 9, rfl, by decide, fs_tm 154 (by decide +kernel) rfl⟩
theorem fs_kX4_32 : fs_F RX4 32 4 5 := ⟨RX4, TX4, 9, rfl, by decide, fs_tm 155 (by decide +kernel) rfl⟩
theorem fs_kX4_35 : fs_F RX4 35 4 6 := ⟨RX4, TX4, 9, rfl, by decide, fs_tm 156 (by decide +kernel) rfl⟩
theorem fs_kX4_38 : fs_F RX4 38 4 7 := ⟨RX4, TX4, 9, rfl, by decide, fs_tm 157 (by decide +kernel) rfl⟩
theorem fs_kX4_42 : fs_F RX4 42 4 8 := ⟨RX4, TX4, 9, rfl, by decide, fs_tm 158 (by decide +kernel) rfl⟩
theorem fs_kX5_9 : fs_F RX5 9 5 0 := ⟨RX5, TX5, 12, rfl, by decide, fs_tm 186 (by decide +kernel) rfl⟩
theorem fs_kX6_275 : fs_F RX6 275 5 0 := ⟨RX5, TX5, 12, rfl, by decide, fs_tm 187 (by decide +kernel) rfl⟩
theorem fs_kX5_15 : fs_F RX5 15 5 1 := ⟨RX5, TX5, 12, rfl, by decide, fs_tm 188 (by decide +kernel) rfl⟩
theorem fs_kX6_170 : fs_F RX6 170 5 1 := ⟨RX5, TX5, 12, rfl, by decide, fs_tm 189 (by decide +kernel) rfl⟩
theorem fs_kX5_19 : fs_F RX5 19 5 2 := ⟨RX5, TX5, 12, rfl, by decide, fs_tm 190 (by decide +kernel) rfl⟩
theorem fs_kX6_171 : fs_F RX6 171 5 2 := ⟨RX5, TX5, 12, rfl, by decide, fs_tm 191 (by decide +kernel) rfl⟩
theorem fs_kX5_23 : fs_F RX5 23 5 3 := ⟨RX5, TX5, 12, rfl, by decide, fs_tm 192 (by decide +kernel) rfl⟩
theorem fs_kX6_174 : fs_F RX6 174 5 3 := ⟨RX5, TX5, 12, rfl, by decide, fs_tm 193 (by decide +kernel) rfl⟩
theorem fs_kX5_26 : fs_F RX5 26 5 4 := ⟨RX5, TX5, 12, rfl, by decide, fs_tm 194 (by decide +kernel) rfl⟩
theorem fs_kX6_177 : fs_F RX6 177 5 4 := ⟨RX5, TX5, 12, rfl, by decide, fs_tm 195 (by decide +kernel) rfl⟩
theorem fs_kX5_29 : fs_F RX5 29 5 5 := ⟨RX5, TX5, 12, rfl, by decide, fs_tm 196 (by decide +kernel) rfl⟩
theorem fs_kX5_32 : fs_F RX5 32 5 6 := ⟨RX5, TX5, 12, rfl, by decide, fs_tm 197 (by decide +kernel) rfl⟩
theorem fs_kX5_37 : fs_F RX5 37 5 7 := ⟨RX5, TX5, 12, rfl, by decide, fs_tm 198 (by decide +kernel) rfl⟩
theorem fs_kX5_40 : fs_F RX5 40 5 8 := ⟨RX5, TX5, 12, rfl, by decide, fs_tm 199 (by decide +kernel) rfl⟩
theorem fs_kX6_187 : fs_F RX6 187 5 8 := ⟨RX5, TX5, 12, rfl, by decide, fs_tm 200 (by decide +kernel) rfl⟩
theorem fs_kX5_43 : fs_F RX5 43 5 9 := ⟨RX5, TX5, 12, rfl, by decide, fs_tm 201 (by decide +kernel) rfl⟩
theorem fs_kX6_190 : fs_F RX6 190 5 9 := ⟨RX5, TX5, 12, rfl, by decide, fs_tm 202 (by decide +kernel) rfl⟩
theorem fs_kX5_46 : fs_F RX5 46 5 10 := ⟨RX5, TX5, 12, rfl, by decide, fs_tm 203 (by decide +kernel) rfl⟩
theorem fs_kX5_49 : fs_F RX5 49 5 11 := ⟨RX5, TX5, 12, rfl, by decide, fs_tm 204 (by decide +kernel) rfl⟩
theorem fs_kX0_9 : fs_F RX0 9 0 0 := ⟨RX0, TX0, 12, rfl, by decide, fs_tm 236 (by decide +kernel) rfl⟩
theorem fs_kX6_193 : fs_F RX6 193 0 0 := ⟨RX0, TX0, 12, rfl, by decide, fs_tm 237 (by decide +kernel) rfl⟩
theorem fs_kX0_15 : fs_F RX0 15 0 1 := ⟨RX0, TX0, 12, rfl, by decide, fs_tm 238 (by decide +kernel) rfl⟩
theorem fs_kX6_196 : fs_F RX6 196 0 1 := ⟨RX0, TX0, 12, rfl, by decide, fs_tm 239 (by decide +kernel) rfl⟩
theorem fs_kX0_18 : fs_F RX0 18 0 2 := ⟨RX0, TX0, 12, rfl, by decide, fs_tm 240 (by decide +kernel) rfl⟩
theorem fs_kX6_202 : fs_F RX6 202 0 2 := ⟨RX0, TX0, 12, rfl, by decide, fs_tm 241 (by decide +kernel) rfl⟩
theorem fs_kX0_21 : fs_F RX0 21 0 3 := ⟨RX0, TX0, 12, rfl, by decide, fs_tm 242 (by decide +kernel) rfl⟩
theorem fs_kX6_205 : fs_F RX6 205 0 3 := ⟨RX0, TX0, 12, rfl, by decide, fs_tm 243 (by decide +kernel) rfl⟩
theorem fs_kX0_24 : fs_F RX0 24 0 4 := ⟨RX0, TX0, 12, rfl, by decide, fs_tm 244 (by decide +kernel) rfl⟩
theorem fs_kX6_208 : fs_F RX6 208 0 4 := ⟨RX0, TX0, 12, rfl, by decide, fs_tm 245 (by decide +kernel) rfl⟩
theorem fs_kX0_27 : fs_F RX0 27 0 5 := ⟨RX0, TX0, 12, rfl, by decide, fs_tm 246 (by decide +kernel) rfl⟩
theorem fs_kX6_211 : fs_F RX6 211 0 5 := ⟨RX0, TX0, 12, rfl, by decide, fs_tm 247 (by decide +kernel) rfl⟩
theorem fs_kX0_30 : fs_F RX0 30 0 6 := ⟨RX0, TX0, 12, rfl, by decide, fs_tm 248 (by decide +kernel) rfl⟩
theorem fs_kX6_214 : fs_F RX6 214 0 6 := ⟨RX0, TX0, 12, rfl, by decide, fs_tm 249 (by decide +kernel) rfl⟩
theorem fs_kX0_33 : fs_F RX0 33 0 7 := ⟨RX0, TX0, 12, rfl, by decide, fs_tm 250 (by decide +kernel) rfl⟩
theorem fs_kX6_217 : fs_F RX6 217 0 7 := ⟨RX0, TX0, 12, rfl, by decide, fs_tm 251 (by decide +kernel) rfl⟩
theorem fs_kX0_36 : fs_F RX0 36 0 8 := ⟨RX0, TX0, 12, rfl, by decide, fs_tm 252 (by decide +kernel) rfl⟩
theorem fs_kX6_226 : fs_F RX6 226 0 8 := ⟨RX0, TX0, 12, rfl, by decide, fs_tm 253 (by decide +kernel) rfl⟩
theorem fs_kX0_39 : fs_F RX0 39 0 9 := ⟨RX0, TX0, 12, rfl, by decide, fs_tm 254 (by decide +kernel) rfl⟩
theorem fs_kX6_223 : fs_F RX6 223 0 9 := ⟨RX0, TX0, 12, rfl, by decide, fs_tm 255 (by decide +kernel) rfl⟩
theorem fs_kX0_46 : fs_F RX0 46 0 10 := ⟨RX0, TX0, 12, rfl, by decide, fs_tm 256 (by decide +kernel) rfl⟩
theorem fs_kX0_43 : fs_F RX0 43 0 11 := ⟨RX0, TX0, 12, rfl, by decide, fs_tm 257 (by decide +kernel) rfl⟩
theorem fs_kX1_7 : fs_F RX1 7 1 0 := ⟨RX1, TX1, 4, rfl, by decide, fs_tm 292 (by decide +kernel) rfl⟩
theorem fs_kX6_243 : fs_F RX6 243 1 0 := ⟨RX1, TX1, 4, rfl, by decide, fs_tm 293 (by decide +kernel) rfl⟩
theorem fs_kX1_13 : fs_F RX1 13 1 1 := ⟨RX1, TX1, 4, rfl, by decide, fs_tm 294 (by decide +kernel) rfl⟩
theorem fs_kX6_241 : fs_F RX6 241 1 1 := ⟨RX1, TX1, 4, rfl, by decide, fs_tm 295 (by decide +kernel) rfl⟩
theorem fs_kX1_17 : fs_F RX1 17 1 2 := ⟨RX1, TX1, 4, rfl, by decide, fs_tm 296 (by decide +kernel) rfl⟩
theorem fs_kX6_242 : fs_F RX6 242 1 2 := ⟨RX1, TX1, 4, rfl, by decide, fs_tm 297 (by decide +kernel) rfl⟩
theorem fs_kX1_23 : fs_F RX1 23 1 3 := ⟨RX1, TX1, 4, rfl, by decide, fs_tm 298 (by decide +kernel) rfl⟩
theorem fs_kX6_237 : fs_F RX6 237 1 3 := ⟨RX1, TX1, 4, rfl, by decide, fs_tm 299 (by decide +kernel) rfl⟩
theorem fs_kX6_263 : Cond.fieldLink RX6 263 "FieldSorter" "GREATEST" "[I" ∈ fs_tbl := fs_tm 313 (by decide +kernel) rfl
theorem fs_kX6_10 : fs_F RX6 10 6 0 := ⟨RX6, TX6, 9, rfl, by decide, fs_tm 315 (by decide +kernel) rfl⟩
theorem fs_kX6_21 : fs_F RX6 21 6 1 := ⟨RX6, TX6, 9, rfl, by decide, fs_tm 316 (by decide +kernel) rfl⟩
theorem fs_kX6_30 : fs_F RX6 30 6 2 := ⟨RX6, TX6, 9, rfl, by decide, fs_tm 317 (by decide +kernel) rfl⟩
theorem fs_kX6_37 : fs_F RX6 37 6 3 := ⟨RX6, TX6, 9, rfl, by decide, fs_tm 318 (by decide +kernel) rfl⟩
theorem fs_kX6_46 : fs_F RX6 46 6 4 := ⟨RX6, TX6, 9, rfl, by decide, fs_tm 319 (by decide +kernel) rfl⟩
theorem fs_kX6_52 : fs_F RX6 52 6 5 := ⟨RX6, TX6, 9, rfl, by decide, fs_tm 320 (by decide +kernel) rfl⟩
theorem fs_kX6_57 : fs_F RX6 57 6 6 := ⟨RX6, TX6, 9, rfl, by decide, fs_tm 321 (by decide +kernel) rfl⟩
theorem fs_kX6_61 : fs_F RX6 61 6 7 := ⟨RX6, TX6, 9, rfl, by decide, fs_tm 322 (by decide +kernel) rfl⟩
theorem fs_kX6_64 : fs_F RX6 64 6 8 := ⟨RX6, TX6, 9, rfl, by decide, fs_tm 323 (by decide +kernel) rfl⟩
theorem fs_kX4_67 : Cond.fieldLink RX4 67 "FieldSorter$Survey" "REST" "[I" ∈ fs_tbl := fs_tm 472 (by decide +kernel) rfl
theorem fs_kX6_157 : Cond.fieldLink RX6 157 "FieldSorter" "WIDTH" "[I" ∈ fs_tbl := fs_tm 525 (by decide +kernel) rfl
theorem fs_kX5_53 : Cond.fieldLink RX5 53 "FieldSorter$Tuples" "SHIFT" "[I" ∈ fs_tbl := fs_tm 574 (by decide +kernel) rfl
theorem fs_kX5_56 : Cond.fieldLink RX5 56 "FieldSorter$Tuples" "LENGTH_MASK" "[I" ∈ fs_tbl := fs_tm 580 (by decide +kernel) rfl
theorem fs_kX7_104 : fs_F RX7 104 7 0 := ⟨RX7, TX7, 34, rfl, by decide, fs_tm 696 (by decide +kernel) rfl⟩
theorem fs_kX7_7 : fs_F RX7 7 7 1 := ⟨RX7, TX7, 34, rfl, by decide, fs_tm 697 (by decide +kernel) rfl⟩
theorem fs_kX7_13 : fs_F RX7 13 7 2 := ⟨RX7, TX7, 34, rfl, by decide, fs_tm 698 (by decide +kernel) rfl⟩
theorem fs_kX7_16 : fs_F RX7 16 7 3 := ⟨RX7, TX7, 34, rfl, by decide, fs_tm 699 (by decide +kernel) rfl⟩
theorem fs_kX7_19 : fs_F RX7 19 7 4 := ⟨RX7, TX7, 34, rfl, by decide, fs_tm 700 (by decide +kernel) rfl⟩
theorem fs_kX7_22 : fs_F RX7 22 7 5 := ⟨RX7, TX7, 34, rfl, by decide, fs_tm 701 (by decide +kernel) rfl⟩
theorem fs_kX7_26 : fs_F RX7 26 7 6 := ⟨RX7, TX7, 34, rfl, by decide, fs_tm 702 (by decide +kernel) rfl⟩
theorem fs_kX7_111 : fs_F RX7 111 7 7 := ⟨RX7, TX7, 34, rfl, by decide, fs_tm 703 (by decide +kernel) rfl⟩
theorem fs_kX7_115 : fs_F RX7 115 7 8 := ⟨RX7, TX7, 34, rfl, by decide, fs_tm 704 (by decide +kernel) rfl⟩
theorem fs_kX7_118 : fs_F RX7 118 7 9 := ⟨RX7, TX7, 34, rfl, by decide, fs_tm 705 (by decide +kernel) rfl⟩
theorem fs_kX7_121 : fs_F RX7 121 7 10 := ⟨RX7, TX7, 34, rfl, by decide, fs_tm 706 (by decide +kernel) rfl⟩
theorem fs_kX7_29 : fs_F RX7 29 7 11 := ⟨RX7, TX7, 34, rfl, by decide, fs_tm 707 (by decide +kernel) rfl⟩
theorem fs_kX7_32 : fs_F RX7 32 7 12 := ⟨RX7, TX7, 34, rfl, by decide, fs_tm 708 (by decide +kernel) rfl⟩
theorem fs_kX7_35 : fs_F RX7 35 7 13 := ⟨RX7, TX7, 34, rfl, by decide, fs_tm 709 (by decide +kernel) rfl⟩
theorem fs_kX7_38 : fs_F RX7 38 7 14 := ⟨RX7, TX7, 34, rfl, by decide, fs_tm 710 (by decide +kernel) rfl⟩
theorem fs_kX7_41 : fs_F RX7 41 7 15 := ⟨RX7, TX7, 34, rfl, by decide, fs_tm 711 (by decide +kernel) rfl⟩
theorem fs_kX7_44 : fs_F RX7 44 7 16 := ⟨RX7, TX7, 34, rfl, by decide, fs_tm 712 (by decide +kernel) rfl⟩
theorem fs_kX7_47 : fs_F RX7 47 7 17 := ⟨RX7, TX7, 34, rfl, by decide, fs_tm 713 (by decide +kernel) rfl⟩
theorem fs_kX7_51 : fs_F RX7 51 7 18 := ⟨RX7, TX7, 34, rfl, by decide, fs_tm 714 (by decide +kernel) rfl⟩
theorem fs_kX7_54 : fs_F RX7 54 7 19 := ⟨RX7, TX7, 34, rfl, by decide, fs_tm 715 (by decide +kernel) rfl⟩
theorem fs_kX7_57 : fs_F RX7 57 7 20 := ⟨RX7, TX7, 34, rfl, by decide, fs_tm 716 (by decide +kernel) rfl⟩
theorem fs_kX7_60 : fs_F RX7 60 7 21 := ⟨RX7, TX7, 34, rfl, by decide, fs_tm 717 (by decide +kernel) rfl⟩
theorem fs_kX7_63 : fs_F RX7 63 7 22 := ⟨RX7, TX7, 34, rfl, by decide, fs_tm 718 (by decide +kernel) rfl⟩
theorem fs_kX7_199 : fs_F RX7 199 7 23 := ⟨RX7, TX7, 34, rfl, by decide, fs_tm 719 (by decide +kernel) rfl⟩
theorem fs_kX7_66 : fs_F RX7 66 7 24 := ⟨RX7, TX7, 34, rfl, by decide, fs_tm 720 (by decide +kernel) rfl⟩
theorem fs_kX7_221 : fs_F RX7 221 7 25 := ⟨RX7, TX7, 34, rfl, by decide, fs_tm 721 (by decide +kernel) rfl⟩
theorem fs_kX7_69 : fs_F RX7 69 7 26 := ⟨RX7, TX7, 34, rfl, by decide, fs_tm 722 (by decide +kernel) rfl⟩
theorem fs_kX7_72 : fs_F RX7 72 7 27 := ⟨RX7, TX7, 34, rfl, by decide, fs_tm 723 (by decide +kernel) rfl⟩
theorem fs_kX7_75 : fs_F RX7 75 7 28 := ⟨RX7, TX7, 34, rfl, by decide, fs_tm 724 (by decide +kernel) rfl⟩
theorem fs_kX7_78 : fs_F RX7 78 7 29 := ⟨RX7, TX7, 34, rfl, by decide, fs_tm 725 (by decide +kernel) rfl⟩
theorem fs_kX7_81 : fs_F RX7 81 7 30 := ⟨RX7, TX7, 34, rfl, by decide, fs_tm 726 (by decide +kernel) rfl⟩
theorem fs_kX7_84 : fs_F RX7 84 7 31 := ⟨RX7, TX7, 34, rfl, by decide, fs_tm 727 (by decide +kernel) rfl⟩
theorem fs_kX7_87 : fs_F RX7 87 7 32 := ⟨RX7, TX7, 34, rfl, by decide, fs_tm 728 (by decide +kernel) rfl⟩
theorem fs_kX7_90 : fs_F RX7 90 7 33 := ⟨RX7, TX7, 34, rfl, by decide, fs_tm 729 (by decide +kernel) rfl⟩
abbrev fs_Me : Type := MethodName × ByteArray × Nat × Option FieldType
abbrev mX6_init : fs_Me := (yX6_init, cX6_init, 2, none)
abbrev mX3_init : fs_Me := (yX3_init, cX3_init, 1, none)
abbrev mX2_init : fs_Me := (yX2_init, cX2_init, 2, none)
abbrev mX4_init : fs_Me := (yX4_init, cX4_init, 3, none)
abbrev mX5_init : fs_Me := (yX5_init, cX5_init, 2, none)
abbrev mX0_init : fs_Me := (yX0_init, cX0_init, 2, none)
abbrev mX1_init : fs_Me := (yX1_init, cX1_init, 1, none)
abbrev mX6_clearDraft : fs_Me := (yX6_clearDraft, cX6_clearDraft, 2, none)
abbrev mX6_draft : fs_Me := (yX6_draft, cX6_draft, 4, some .int)
abbrev mX6_isField : fs_Me := (yX6_isField, cX6_isField, 1, some .boolean)
abbrev mX6_isNumber : fs_Me := (yX6_isNumber, cX6_isNumber, 2, some .boolean)
abbrev mX6_rule : fs_Me := (yX6_rule, cX6_rule, 3, some .int)
abbrev mX6_isRank : fs_Me := (yX6_isRank, cX6_isRank, 1, some .boolean)
abbrev mX6_isAction : fs_Me := (yX6_isAction, cX6_isAction, 1, some .boolean)
abbrev mX3_add : fs_Me := (yX3_add, cX3_add, 6, none)
abbrev mX6_rulesChanged : fs_Me := (yX6_rulesChanged, cX6_rulesChanged, 1, none)
abbrev mX3_sort : fs_Me := (yX3_sort, cX3_sort, 4, none)
abbrev mX3_isAhead : fs_Me := (yX3_isAhead, cX3_isAhead, 3, some .boolean)
abbrev mX2_build : fs_Me := (yX2_build, cX2_build, 3, none)
abbrev mX2_fillNumbers : fs_Me := (yX2_fillNumbers, cX2_fillNumbers, 7, none)
abbrev mX6_drop : fs_Me := (yX6_drop, cX6_drop, 2, some .int)
abbrev mX3_has : fs_Me := (yX3_has, cX3_has, 2, some .boolean)
abbrev mX3_remove : fs_Me := (yX3_remove, cX3_remove, 3, none)
abbrev mX3_copyRule : fs_Me := (yX3_copyRule, cX3_copyRule, 5, none)
abbrev mX6_rank : fs_Me := (yX6_rank, cX6_rank, 3, some .int)
abbrev mX6_told : fs_Me := (yX6_told, cX6_told, 3, some .int)
abbrev mX6_toldBound : fs_Me := (yX6_toldBound, cX6_toldBound, 4, some .int)
abbrev mX6_first : fs_Me := (yX6_first, cX6_first, 5, some .int)
abbrev mX6_isPacket : fs_Me := (yX6_isPacket, cX6_isPacket, 4, some .boolean)
abbrev mX6_setPacket : fs_Me := (yX6_setPacket, cX6_setPacket, 5, none)
abbrev mX2_fitting : fs_Me := (yX2_fitting, cX2_fitting, 4, some .int)
abbrev mX2_all : fs_Me := (yX2_all, cX2_all, 1, some .int)
abbrev mX2_ofNumber : fs_Me := (yX2_ofNumber, cX2_ofNumber, 3, some .int)
abbrev mX6_lowestBit : fs_Me := (yX6_lowestBit, cX6_lowestBit, 1, some .int)
abbrev mJ6_bitCount_0f7a4 : fs_Me := (yJ6_bitCount_0f7a4, cJ6_bitCount_0f7a4, 1, some .int)
abbrev mX6_ruleAt : fs_Me := (yX6_ruleAt, cX6_ruleAt, 2, some .int)
abbrev mX6_wins : fs_Me := (yX6_wins, cX6_wins, 2, some .int)
abbrev mX4_refresh : fs_Me := (yX4_refresh, cX4_refresh, 2, none)
abbrev mX4_gatherRuns : fs_Me := (yX4_gatherRuns, cX4_gatherRuns, 5, none)
abbrev mX4_sweep : fs_Me := (yX4_sweep, cX4_sweep, 8, none)
abbrev mX4_tally : fs_Me := (yX4_tally, cX4_tally, 5, none)
abbrev mX4_actionAt : fs_Me := (yX4_actionAt, cX4_actionAt, 2, some .int)
abbrev mX6_overlap : fs_Me := (yX6_overlap, cX6_overlap, 5, some .int)
abbrev mX3_shared : fs_Me := (yX3_shared, cX3_shared, 6, some .int)
abbrev mJ9_max_7cf53 : fs_Me := (yJ9_max_7cf53, cJ9_max_7cf53, 2, some .int)
abbrev mJ9_min_7cf53 : fs_Me := (yJ9_min_7cf53, cJ9_min_7cf53, 2, some .int)
abbrev mX6_covered : fs_Me := (yX6_covered, cX6_covered, 2, some .int)
abbrev mX3_coverOf : fs_Me := (yX3_coverOf, cX3_coverOf, 3, some .int)
abbrev mX3_holds : fs_Me := (yX3_holds, cX3_holds, 4, some .boolean)
abbrev mX6_idle : fs_Me := (yX6_idle, cX6_idle, 2, some .int)
abbrev mX6_packets : fs_Me := (yX6_packets, cX6_packets, 2, some .int)
abbrev mX4_wonByAction : fs_Me := (yX4_wonByAction, cX4_wonByAction, 4, some .int)
abbrev mX6_split : fs_Me := (yX6_split, cX6_split, 5, some .int)
abbrev mX3_prefixesOf : fs_Me := (yX3_prefixesOf, cX3_prefixesOf, 5, some .int)
abbrev mX3_prefixesWithin : fs_Me := (yX3_prefixesWithin, cX3_prefixesWithin, 7, some .int)
abbrev mX6_prefix : fs_Me := (yX6_prefix, cX6_prefix, 6, some .int)
abbrev mX3_prefixValue : fs_Me := (yX3_prefixValue, cX3_prefixValue, 6, some .int)
abbrev mX3_prefixLength : fs_Me := (yX3_prefixLength, cX3_prefixLength, 7, some .int)
abbrev mX6_tuple : fs_Me := (yX6_tuple, cX6_tuple, 3, some .int)
abbrev mX5_refresh : fs_Me := (yX5_refresh, cX5_refresh, 2, none)
abbrev mJ7_fill_53178 : fs_Me := (yJ7_fill_53178, cJ7_fill_53178, 4, none)
abbrev mX5_countPieces : fs_Me := (yX5_countPieces, cX5_countPieces, 4, none)
abbrev mX5_enter : fs_Me := (yX5_enter, cX5_enter, 6, none)
abbrev mX5_put : fs_Me := (yX5_put, cX5_put, 5, none)
abbrev mX5_lengthIn : fs_Me := (yX5_lengthIn, cX5_lengthIn, 3, some .int)
abbrev mX6_probe : fs_Me := (yX6_probe, cX6_probe, 6, some .int)
abbrev mX5_search : fs_Me := (yX5_search, cX5_search, 4, none)
abbrev mX5_packetKey : fs_Me := (yX5_packetKey, cX5_packetKey, 5, some .int)
abbrev mX3_takes : fs_Me := (yX3_takes, cX3_takes, 4, some .boolean)
abbrev mX5_firstWithKey : fs_Me := (yX5_firstWithKey, cX5_firstWithKey, 3, some .int)
abbrev mX6_grow : fs_Me := (yX6_grow, cX6_grow, 4, some .int)
abbrev mX6_tree : fs_Me := (yX6_tree, cX6_tree, 2, some .int)
abbrev mX0_measure : fs_Me := (yX0_measure, cX0_measure, 1, none)
abbrev mX0_visit : fs_Me := (yX0_visit, cX0_visit, 5, none)
abbrev mX0_cutField : fs_Me := (yX0_cutField, cX0_cutField, 12, some .int)
abbrev mX0_addLeaf : fs_Me := (yX0_addLeaf, cX0_addLeaf, 2, none)
abbrev mX6_walk : fs_Me := (yX6_walk, cX6_walk, 8, some .int)
abbrev mX0_descend : fs_Me := (yX0_descend, cX0_descend, 5, some .int)
abbrev mX6_lookedAt : fs_Me := (yX6_lookedAt, cX6_lookedAt, 3, some .int)
abbrev mX6_image : fs_Me := (yX6_image, cX6_image, 3, some .int)
abbrev mX3_copyFrom : fs_Me := (yX3_copyFrom, cX3_copyFrom, 3, none)
abbrev mX6_restore : fs_Me := (yX6_restore, cX6_restore, 3, some .int)
abbrev mX6_count : fs_Me := (yX6_count, cX6_count, 2, some .int)
abbrev mX6_countTuples : fs_Me := (yX6_countTuples, cX6_countTuples, 1, some .int)
abbrev mX6_countEntries : fs_Me := (yX6_countEntries, cX6_countEntries, 3, some .int)
abbrev mX6_countIdle : fs_Me := (yX6_countIdle, cX6_countIdle, 3, some .int)
abbrev mX6_countCovered : fs_Me := (yX6_countCovered, cX6_countCovered, 3, some .int)
abbrev mX6_keptImages : fs_Me := (yX6_keptImages, cX6_keptImages, 3, some .int)
abbrev mX7_init : fs_Me := (yX7_init, cX7_init, 1, none)
abbrev mX7_clearDraft : fs_Me := (yX7_clearDraft, cX7_clearDraft, 2, none)
abbrev mX7_most : fs_Me := (yX7_most, cX7_most, 1, some .int)
abbrev mX7_width : fs_Me := (yX7_width, cX7_width, 1, some .int)
abbrev mX7_draft : fs_Me := (yX7_draft, cX7_draft, 4, some .int)
abbrev mX7_isField : fs_Me := (yX7_isField, cX7_isField, 1, some .boolean)
abbrev mX7_in : fs_Me := (yX7_in, cX7_in, 3, some .boolean)
abbrev mX7_rule : fs_Me := (yX7_rule, cX7_rule, 4, some .int)
abbrev mX7_change : fs_Me := (yX7_change, cX7_change, 1, none)
abbrev mX7_drop : fs_Me := (yX7_drop, cX7_drop, 4, some .int)
abbrev mX7_isRule : fs_Me := (yX7_isRule, cX7_isRule, 2, some .boolean)
abbrev mX7_rank : fs_Me := (yX7_rank, cX7_rank, 3, some .int)
abbrev mX7_aheadOf : fs_Me := (yX7_aheadOf, cX7_aheadOf, 4, some .int)
abbrev mX7_isAhead : fs_Me := (yX7_isAhead, cX7_isAhead, 3, some .boolean)
abbrev mX7_told : fs_Me := (yX7_told, cX7_told, 4, some .int)
abbrev mX7_first : fs_Me := (yX7_first, cX7_first, 6, some .int)
abbrev mX7_isPacket : fs_Me := (yX7_isPacket, cX7_isPacket, 4, some .boolean)
abbrev mX7_fitting : fs_Me := (yX7_fitting, cX7_fitting, 5, some .int)
abbrev mX7_order : fs_Me := (yX7_order, cX7_order, 3, none)
abbrev mX7_takersOf : fs_Me := (yX7_takersOf, cX7_takersOf, 7, some .int)
abbrev mX7_lowest : fs_Me := (yX7_lowest, cX7_lowest, 2, some .int)
abbrev mX7_has : fs_Me := (yX7_has, cX7_has, 2, some .boolean)
abbrev mX7_wins : fs_Me := (yX7_wins, cX7_wins, 2, some .int)
abbrev mX7_sweep : fs_Me := (yX7_sweep, cX7_sweep, 8, none)
abbrev mX7_layStretches : fs_Me := (yX7_layStretches, cX7_layStretches, 3, none)
abbrev mX7_meet : fs_Me := (yX7_meet, cX7_meet, 6, none)
abbrev mX7_overlap : fs_Me := (yX7_overlap, cX7_overlap, 7, some .int)
abbrev mX7_covered : fs_Me := (yX7_covered, cX7_covered, 2, some .int)
abbrev mX7_coverOf : fs_Me := (yX7_coverOf, cX7_coverOf, 4, some .int)
abbrev mX7_isWithin : fs_Me := (yX7_isWithin, cX7_isWithin, 5, some .boolean)
abbrev mX7_idle : fs_Me := (yX7_idle, cX7_idle, 2, some .int)
abbrev mX7_packets : fs_Me := (yX7_packets, cX7_packets, 2, some .int)
abbrev mX7_split : fs_Me := (yX7_split, cX7_split, 3, some .int)
abbrev mX7_prefixes : fs_Me := (yX7_prefixes, cX7_prefixes, 4, some .int)
abbrev mX7_valueOf : fs_Me := (yX7_valueOf, cX7_valueOf, 7, some .int)
abbrev mX7_lengthAt : fs_Me := (yX7_lengthAt, cX7_lengthAt, 5, some .int)
abbrev mX7_prefix : fs_Me := (yX7_prefix, cX7_prefix, 6, some .int)
abbrev mX7_tuple : fs_Me := (yX7_tuple, cX7_tuple, 3, some .int)
abbrev mX7_listTuples : fs_Me := (yX7_listTuples, cX7_listTuples, 3, none)
abbrev mX7_ofLength : fs_Me := (yX7_ofLength, cX7_ofLength, 8, some .int)
abbrev mX7_membersOf : fs_Me := (yX7_membersOf, cX7_membersOf, 4, some .int)
abbrev mX7_entriesOf : fs_Me := (yX7_entriesOf, cX7_entriesOf, 5, some .int)
abbrev mX7_lengthIn : fs_Me := (yX7_lengthIn, cX7_lengthIn, 2, some .int)
abbrev mX7_entries : fs_Me := (yX7_entries, cX7_entries, 4, some .int)
abbrev mX7_bits : fs_Me := (yX7_bits, cX7_bits, 3, some .int)
abbrev mX7_probe : fs_Me := (yX7_probe, cX7_probe, 10, some .int)
abbrev mX7_codeOf : fs_Me := (yX7_codeOf, cX7_codeOf, 6, some .int)
abbrev mX7_lengthOf : fs_Me := (yX7_lengthOf, cX7_lengthOf, 7, some .int)
abbrev mX7_grow : fs_Me := (yX7_grow, cX7_grow, 4, some .int)
abbrev mX7_tree : fs_Me := (yX7_tree, cX7_tree, 9, some .int)
abbrev mX7_growTree : fs_Me := (yX7_growTree, cX7_growTree, 2, none)
abbrev mX7_cutOf : fs_Me := (yX7_cutOf, cX7_cutOf, 10, some .int)
abbrev mX7_halved : fs_Me := (yX7_halved, cX7_halved, 7, some .int)
abbrev mX7_addBelow : fs_Me := (yX7_addBelow, cX7_addBelow, 7, none)
abbrev mX7_walk : fs_Me := (yX7_walk, cX7_walk, 10, some .int)
abbrev mX7_looked : fs_Me := (yX7_looked, cX7_looked, 5, some .int)
abbrev mX7_image : fs_Me := (yX7_image, cX7_image, 4, some .int)
abbrev mX7_restore : fs_Me := (yX7_restore, cX7_restore, 4, some .int)
abbrev mX7_count : fs_Me := (yX7_count, cX7_count, 2, some .int)
abbrev mX7_allEntries : fs_Me := (yX7_allEntries, cX7_allEntries, 3, some .int)
abbrev mX7_idleOnes : fs_Me := (yX7_idleOnes, cX7_idleOnes, 3, some .int)
abbrev mX7_coveredOnes : fs_Me := (yX7_coveredOnes, cX7_coveredOnes, 3, some .int)
/-- a method that can be called: its code is a word, its class is set up, so many arguments -/
def fs_Ok (M : fs_Me) (n : Nat) : Prop := (M.2.2.1 ≤ 45 ∧ plainName M.1.cls = true) ∧ Cond.code M.1 M.2.1 M.2.2.1 M.2.2.2 ∈ fs_tbl ∧ Cond.initialized M.1.cls ∈ fs_tbl ∧ M.1.cls ≠ "java/lang/invoke/MethodHandle" ∧ M.1.cls ≠ "java/lang/invoke/VarHandle" ∧ (parseMethodDescriptor M.1.desc).map (fun d => d.parameters.length) = some n
theorem fs_oX6_init : fs_Ok mX6_init 0 := ⟨⟨by decide, by decide +kernel⟩, fs_tm 73 (by decide +kernel) rfl, fs_tm 58 (by decide +kernel) rfl, by decide +kernel, by decide +kernel, by decide +kernel⟩
theorem fs_oX3_init : fs_Ok mX3_init 0 := ⟨⟨by decide, by decide +kernel⟩, fs_tm 81 (by decide +kernel) rfl, fs_tm 59 (by decide +kernel) rfl, by decide +kernel, by decide +kernel, by decide +kernel⟩
theorem fs_oX2_init : fs_Ok mX2_init 1 := ⟨⟨by decide, by decide +kernel⟩, fs_tm 128 (by decide +kernel) rfl, fs_tm 60 (by decide +kernel) rfl, by decide +kernel, by decide +kernel, by decide +kernel⟩
theorem fs_oX4_init : fs_Ok mX4_init 2 := ⟨⟨by decide, by decide +kernel⟩, fs_tm 143 (by decide +kernel) rfl, fs_tm 61 (by decide +kernel) rfl, by decide +kernel, by decide +kernel, by decide +kernel⟩
theorem fs_oX5_init : fs_Ok mX5_init 1 := ⟨⟨by decide, by decide +kernel⟩, fs_tm 183 (by decide +kernel) rfl, fs_tm 62 (by decide +kernel) rfl, by decide +kernel, by decide +kernel, by decide +kernel⟩
theorem fs_oX0_init : fs_Ok mX0_init 1 := ⟨⟨by decide, by decide +kernel⟩, fs_tm 234 (by decide +kernel) rfl, fs_tm 63 (by decide +kernel) rfl, by decide +kernel, by decide +kernel, by decide +kernel⟩
theorem fs_oX1_init : fs_Ok mX1_init 0 := ⟨⟨by decide, by decide +kernel⟩, fs_tm 288 (by decide +kernel) rfl, fs_tm 64 (by decide +kernel) rfl, by decide +kernel, by decide +kernel, by decide +kernel⟩
theorem fs_oX6_clearDraft : fs_Ok mX6_clearDraft 0 := ⟨⟨by decide, by decide +kernel⟩, fs_tm 312 (by decide +kernel) rfl, fs_tm 58 (by decide +kernel) rfl, by decide +kernel, by decide +kernel, by decide +kernel⟩
theorem fs_oX6_draft : fs_Ok mX6_draft 3 := ⟨⟨by decide, by decide +kernel⟩, fs_tm 346 (by decide +kernel) rfl, fs_tm 58 (by decide +kernel) rfl, by decide +kernel, by decide +kernel, by decide +kernel⟩
theorem fs_oX6_isField : fs_Ok mX6_isField 1 := ⟨⟨by decide, by decide +kernel⟩, fs_tm 349 (by decide +kernel) rfl, fs_tm 58 (by decide +kernel) rfl, by decide +kernel, by decide +kernel, by decide +kernel⟩
theorem fs_oX6_isNumber : fs_Ok mX6_isNumber 2 := ⟨⟨by decide, by decide +kernel⟩, fs_tm 352 (by decide +kernel) rfl, fs_tm 58 (by decide +kernel) rfl, by decide +kernel, by decide +kernel, by decide +kernel⟩
theorem fs_oX6_rule : fs_Ok mX6_rule 2 := ⟨⟨by decide, by decide +kernel⟩, fs_tm 356 (by decide +kernel) rfl, fs_tm 58 (by decide +kernel) rfl, by decide +kernel, by decide +kernel, by decide +kernel⟩
theorem fs_oX6_isRank : fs_Ok mX6_isRank 1 := ⟨⟨by decide, by decide +kernel⟩, fs_tm 359 (by decide +kernel) rfl, fs_tm 58 (by decide +kernel) rfl, by decide +kernel, by decide +kernel, by decide +kernel⟩
theorem fs_oX6_isAction : fs_Ok mX6_isAction 1 := ⟨⟨by decide, by decide +kernel⟩, fs_tm 362 (by decide +kernel) rfl, fs_tm 58 (by decide +kernel) rfl, by decide +kernel, by decide +kernel, by decide +kernel⟩
theorem fs_oX3_add : fs_Ok mX3_add 4 := ⟨⟨by decide, by decide +kernel⟩, fs_tm 366 (by decide +kernel) rfl, fs_tm 59 (by decide +kernel) rfl, by decide +kernel, by decide +kernel, by decide +kernel⟩
theorem fs_oX6_rulesChanged : fs_Ok mX6_rulesChanged 0 := ⟨⟨by decide, by decide +kernel⟩, fs_tm 370 (by decide +kernel) rfl, fs_tm 58 (by decide +kernel) rfl, by decide +kernel, by decide +kernel, by decide +kernel⟩
theorem fs_oX3_sort : fs_Ok mX3_sort 0 := ⟨⟨by decide, by decide +kernel⟩, fs_tm 374 (by decide +kernel) rfl, fs_tm 59 (by decide +kernel) rfl, by decide +kernel, by decide +kernel, by decide +kernel⟩
theorem fs_oX3_isAhead : fs_Ok mX3_isAhead 2 := ⟨⟨by decide, by decide +kernel⟩, fs_tm 378 (by decide +kernel) rfl, fs_tm 59 (by decide +kernel) rfl, by decide +kernel, by decide +kernel, by decide +kernel⟩
theorem fs_oX2_build : fs_Ok mX2_build 0 := ⟨⟨by decide, by decide +kernel⟩, fs_tm 382 (by decide +kernel) rfl, fs_tm 60 (by decide +kernel) rfl, by decide +kernel, by decide +kernel, by decide +kernel⟩
theorem fs_oX2_fillNumbers : fs_Ok mX2_fillNumbers 2 := ⟨⟨by decide, by decide +kernel⟩, fs_tm 386 (by decide +kernel) rfl, fs_tm 60 (by decide +kernel) rfl, by decide +kernel, by decide +kernel, by decide +kernel⟩
theorem fs_oX6_drop : fs_Ok mX6_drop 1 := ⟨⟨by decide, by decide +kernel⟩, fs_tm 391 (by decide +kernel) rfl, fs_tm 58 (by decide +kernel) rfl, by decide +kernel, by decide +kernel, by decide +kernel⟩
theorem fs_oX3_has : fs_Ok mX3_has 1 := ⟨⟨by decide, by decide +kernel⟩, fs_tm 395 (by decide +kernel) rfl, fs_tm 59 (by decide +kernel) rfl, by decide +kernel, by decide +kernel, by decide +kernel⟩
theorem fs_oX3_remove : fs_Ok mX3_remove 1 := ⟨⟨by decide, by decide +kernel⟩, fs_tm 399 (by decide +kernel) rfl, fs_tm 59 (by decide +kernel) rfl, by decide +kernel, by decide +kernel, by decide +kernel⟩
theorem fs_oX3_copyRule : fs_Ok mX3_copyRule 3 := ⟨⟨by decide, by decide +kernel⟩, fs_tm 404 (by decide +kernel) rfl, fs_tm 59 (by decide +kernel) rfl, by decide +kernel, by decide +kernel, by decide +kernel⟩
theorem fs_oX6_rank : fs_Ok mX6_rank 2 := ⟨⟨by decide, by decide +kernel⟩, fs_tm 408 (by decide +kernel) rfl, fs_tm 58 (by decide +kernel) rfl, by decide +kernel, by decide +kernel, by decide +kernel⟩
theorem fs_oX6_told : fs_Ok mX6_told 2 := ⟨⟨by decide, by decide +kernel⟩, fs_tm 412 (by decide +kernel) rfl, fs_tm 58 (by decide +kernel) rfl, by decide +kernel, by decide +kernel, by decide +kernel⟩
theorem fs_oX6_toldBound : fs_Ok mX6_toldBound 2 := ⟨⟨by decide, by decide +kernel⟩, fs_tm 416 (by decide +kernel) rfl, fs_tm 58 (by decide +kernel) rfl, by decide +kernel, by decide +kernel, by decide +kernel⟩
theorem fs_oX6_first : fs_Ok mX6_first 4 := ⟨⟨by decide, by decide +kernel⟩, fs_tm 420 (by decide +kernel) rfl, fs_tm 58 (by decide +kernel) rfl, by decide +kernel, by decide +kernel, by decide +kernel⟩
theorem fs_oX6_isPacket : fs_Ok mX6_isPacket 4 := ⟨⟨by decide, by decide +kernel⟩, fs_tm 423 (by decide +kernel) rfl, fs_tm 58 (by decide +kernel) rfl, by decide +kernel, by decide +kernel, by decide +kernel⟩
theorem fs_oX6_setPacket : fs_Ok mX6_setPacket 4 := ⟨⟨by decide, by decide +kernel⟩, fs_tm 427 (by decide +kernel) rfl, fs_tm 58 (by decide +kernel) rfl, by decide +kernel, by decide +kernel, by decide +kernel⟩
theorem fs_oX2_fitting : fs_Ok mX2_fitting 1 := ⟨⟨by decide, by decide +kernel⟩, fs_tm 431 (by decide +kernel) rfl, fs_tm 60 (by decide +kernel) rfl, by decide +kernel, by decide +kernel, by decide +kernel⟩
theorem fs_oX2_all : fs_Ok mX2_all 0 := ⟨⟨by decide, by decide +kernel⟩, fs_tm 435 (by decide +kernel) rfl, fs_tm 60 (by decide +kernel) rfl, by decide +kernel, by decide +kernel, by decide +kernel⟩
theorem fs_oX2_ofNumber : fs_Ok mX2_ofNumber 2 := ⟨⟨by decide, by decide +kernel⟩, fs_tm 439 (by decide +kernel) rfl, fs_tm 60 (by decide +kernel) rfl, by decide +kernel, by decide +kernel, by decide +kernel⟩
theorem fs_oX6_lowestBit : fs_Ok mX6_lowestBit 1 := ⟨⟨by decide, by decide +kernel⟩, fs_tm 442 (by decide +kernel) rfl, fs_tm 58 (by decide +kernel) rfl, by decide +kernel, by decide +kernel, by decide +kernel⟩
theorem fs_oJ6_bitCount_0f7a4 : fs_Ok mJ6_bitCount_0f7a4 1 := ⟨⟨by decide, by decide +kernel⟩, fs_tm 445 (by decide +kernel) rfl, fs_tm 66 (by decide +kernel) rfl, by decide +kernel, by decide +kernel, by decide +kernel⟩
theorem fs_oX6_ruleAt : fs_Ok mX6_ruleAt 1 := ⟨⟨by decide, by decide +kernel⟩, fs_tm 452 (by decide +kernel) rfl, fs_tm 58 (by decide +kernel) rfl, by decide +kernel, by decide +kernel, by decide +kernel⟩
theorem fs_oX6_wins : fs_Ok mX6_wins 1 := ⟨⟨by decide, by decide +kernel⟩, fs_tm 456 (by decide +kernel) rfl, fs_tm 58 (by decide +kernel) rfl, by decide +kernel, by decide +kernel, by decide +kernel⟩
theorem fs_oX4_refresh : fs_Ok mX4_refresh 0 := ⟨⟨by decide, by decide +kernel⟩, fs_tm 460 (by decide +kernel) rfl, fs_tm 61 (by decide +kernel) rfl, by decide +kernel, by decide +kernel, by decide +kernel⟩
theorem fs_oX4_gatherRuns : fs_Ok mX4_gatherRuns 1 := ⟨⟨by decide, by decide +kernel⟩, fs_tm 464 (by decide +kernel) rfl, fs_tm 61 (by decide +kernel) rfl, by decide +kernel, by decide +kernel, by decide +kernel⟩
theorem fs_oX4_sweep : fs_Ok mX4_sweep 3 := ⟨⟨by decide, by decide +kernel⟩, fs_tm 471 (by decide +kernel) rfl, fs_tm 61 (by decide +kernel) rfl, by decide +kernel, by decide +kernel, by decide +kernel⟩
theorem fs_oX4_tally : fs_Ok mX4_tally 2 := ⟨⟨by decide, by decide +kernel⟩, fs_tm 477 (by decide +kernel) rfl, fs_tm 61 (by decide +kernel) rfl, by decide +kernel, by decide +kernel, by decide +kernel⟩
theorem fs_oX4_actionAt : fs_Ok mX4_actionAt 1 := ⟨⟨by decide, by decide +kernel⟩, fs_tm 482 (by decide +kernel) rfl, fs_tm 61 (by decide +kernel) rfl, by decide +kernel, by decide +kernel, by decide +kernel⟩
theorem fs_oX6_overlap : fs_Ok mX6_overlap 2 := ⟨⟨by decide, by decide +kernel⟩, fs_tm 486 (by decide +kernel) rfl, fs_tm 58 (by decide +kernel) rfl, by decide +kernel, by decide +kernel, by decide +kernel⟩
theorem fs_oX3_shared : fs_Ok mX3_shared 3 := ⟨⟨by decide, by decide +kernel⟩, fs_tm 490 (by decide +kernel) rfl, fs_tm 59 (by decide +kernel) rfl, by decide +kernel, by decide +kernel, by decide +kernel⟩
theorem fs_oX6_covered : fs_Ok mX6_covered 1 := ⟨⟨by decide, by decide +kernel⟩, fs_tm 500 (by decide +kernel) rfl, fs_tm 58 (by decide +kernel) rfl, by decide +kernel, by decide +kernel, by decide +kernel⟩
theorem fs_oX3_coverOf : fs_Ok mX3_coverOf 1 := ⟨⟨by decide, by decide +kernel⟩, fs_tm 504 (by decide +kernel) rfl, fs_tm 59 (by decide +kernel) rfl, by decide +kernel, by decide +kernel, by decide +kernel⟩
theorem fs_oX3_holds : fs_Ok mX3_holds 2 := ⟨⟨by decide, by decide +kernel⟩, fs_tm 508 (by decide +kernel) rfl, fs_tm 59 (by decide +kernel) rfl, by decide +kernel, by decide +kernel, by decide +kernel⟩
theorem fs_oX6_idle : fs_Ok mX6_idle 1 := ⟨⟨by decide, by decide +kernel⟩, fs_tm 512 (by decide +kernel) rfl, fs_tm 58 (by decide +kernel) rfl, by decide +kernel, by decide +kernel, by decide +kernel⟩
theorem fs_oX6_packets : fs_Ok mX6_packets 1 := ⟨⟨by decide, by decide +kernel⟩, fs_tm 516 (by decide +kernel) rfl, fs_tm 58 (by decide +kernel) rfl, by decide +kernel, by decide +kernel, by decide +kernel⟩
theorem fs_oX4_wonByAction : fs_Ok mX4_wonByAction 1 := ⟨⟨by decide, by decide +kernel⟩, fs_tm 520 (by decide +kernel) rfl, fs_tm 61 (by decide +kernel) rfl, by decide +kernel, by decide +kernel, by decide +kernel⟩
theorem fs_oX6_split : fs_Ok mX6_split 2 := ⟨⟨by decide, by decide +kernel⟩, fs_tm 524 (by decide +kernel) rfl, fs_tm 58 (by decide +kernel) rfl, by decide +kernel, by decide +kernel, by decide +kernel⟩
theorem fs_oX3_prefixesOf : fs_Ok mX3_prefixesOf 3 := ⟨⟨by decide, by decide +kernel⟩, fs_tm 530 (by decide +kernel) rfl, fs_tm 59 (by decide +kernel) rfl, by decide +kernel, by decide +kernel, by decide +kernel⟩
theorem fs_oX3_prefixesWithin : fs_Ok mX3_prefixesWithin 3 := ⟨⟨by decide, by decide +kernel⟩, fs_tm 534 (by decide +kernel) rfl, fs_tm 59 (by decide +kernel) rfl, by decide +kernel, by decide +kernel, by decide +kernel⟩
theorem fs_oX6_prefix : fs_Ok mX6_prefix 4 := ⟨⟨by decide, by decide +kernel⟩, fs_tm 539 (by decide +kernel) rfl, fs_tm 58 (by decide +kernel) rfl, by decide +kernel, by decide +kernel, by decide +kernel⟩
theorem fs_oX3_prefixValue : fs_Ok mX3_prefixValue 3 := ⟨⟨by decide, by decide +kernel⟩, fs_tm 543 (by decide +kernel) rfl, fs_tm 59 (by decide +kernel) rfl, by decide +kernel, by decide +kernel, by decide +kernel⟩
theorem fs_oX3_prefixLength : fs_Ok mX3_prefixLength 3 := ⟨⟨by decide, by decide +kernel⟩, fs_tm 547 (by decide +kernel) rfl, fs_tm 59 (by decide +kernel) rfl, by decide +kernel, by decide +kernel, by decide +kernel⟩
theorem fs_oX6_tuple : fs_Ok mX6_tuple 2 := ⟨⟨by decide, by decide +kernel⟩, fs_tm 552 (by decide +kernel) rfl, fs_tm 58 (by decide +kernel) rfl, by decide +kernel, by decide +kernel, by decide +kernel⟩
theorem fs_oX5_refresh : fs_Ok mX5_refresh 0 := ⟨⟨by decide, by decide +kernel⟩, fs_tm 556 (by decide +kernel) rfl, fs_tm 62 (by decide +kernel) rfl, by decide +kernel, by decide +kernel, by decide +kernel⟩
theorem fs_oJ7_fill_53178 : fs_Ok mJ7_fill_53178 2 := ⟨⟨by decide, by decide +kernel⟩, fs_tm 559 (by decide +kernel) rfl, fs_tm 68 (by decide +kernel) rfl, by decide +kernel, by decide +kernel, by decide +kernel⟩
theorem fs_oX5_countPieces : fs_Ok mX5_countPieces 1 := ⟨⟨by decide, by decide +kernel⟩, fs_tm 563 (by decide +kernel) rfl, fs_tm 62 (by decide +kernel) rfl, by decide +kernel, by decide +kernel, by decide +kernel⟩
theorem fs_oX5_enter : fs_Ok mX5_enter 4 := ⟨⟨by decide, by decide +kernel⟩, fs_tm 569 (by decide +kernel) rfl, fs_tm 62 (by decide +kernel) rfl, by decide +kernel, by decide +kernel, by decide +kernel⟩
theorem fs_oX5_put : fs_Ok mX5_put 3 := ⟨⟨by decide, by decide +kernel⟩, fs_tm 573 (by decide +kernel) rfl, fs_tm 62 (by decide +kernel) rfl, by decide +kernel, by decide +kernel, by decide +kernel⟩
theorem fs_oX5_lengthIn : fs_Ok mX5_lengthIn 2 := ⟨⟨by decide, by decide +kernel⟩, fs_tm 579 (by decide +kernel) rfl, fs_tm 62 (by decide +kernel) rfl, by decide +kernel, by decide +kernel, by decide +kernel⟩
theorem fs_oX6_probe : fs_Ok mX6_probe 5 := ⟨⟨by decide, by decide +kernel⟩, fs_tm 585 (by decide +kernel) rfl, fs_tm 58 (by decide +kernel) rfl, by decide +kernel, by decide +kernel, by decide +kernel⟩
theorem fs_oX5_search : fs_Ok mX5_search 1 := ⟨⟨by decide, by decide +kernel⟩, fs_tm 589 (by decide +kernel) rfl, fs_tm 62 (by decide +kernel) rfl, by decide +kernel, by decide +kernel, by decide +kernel⟩
theorem fs_oX5_packetKey : fs_Ok mX5_packetKey 2 := ⟨⟨by decide, by decide +kernel⟩, fs_tm 593 (by decide +kernel) rfl, fs_tm 62 (by decide +kernel) rfl, by decide +kernel, by decide +kernel, by decide +kernel⟩
theorem fs_oX3_takes : fs_Ok mX3_takes 3 := ⟨⟨by decide, by decide +kernel⟩, fs_tm 597 (by decide +kernel) rfl, fs_tm 59 (by decide +kernel) rfl, by decide +kernel, by decide +kernel, by decide +kernel⟩
theorem fs_oX5_firstWithKey : fs_Ok mX5_firstWithKey 1 := ⟨⟨by decide, by decide +kernel⟩, fs_tm 602 (by decide +kernel) rfl, fs_tm 62 (by decide +kernel) rfl, by decide +kernel, by decide +kernel, by decide +kernel⟩
theorem fs_oX6_grow : fs_Ok mX6_grow 2 := ⟨⟨by decide, by decide +kernel⟩, fs_tm 606 (by decide +kernel) rfl, fs_tm 58 (by decide +kernel) rfl, by decide +kernel, by decide +kernel, by decide +kernel⟩
theorem fs_oX6_tree : fs_Ok mX6_tree 1 := ⟨⟨by decide, by decide +kernel⟩, fs_tm 610 (by decide +kernel) rfl, fs_tm 58 (by decide +kernel) rfl, by decide +kernel, by decide +kernel, by decide +kernel⟩
theorem fs_oX0_measure : fs_Ok mX0_measure 0 := ⟨⟨by decide, by decide +kernel⟩, fs_tm 614 (by decide +kernel) rfl, fs_tm 63 (by decide +kernel) rfl, by decide +kernel, by decide +kernel, by decide +kernel⟩
theorem fs_oX0_visit : fs_Ok mX0_visit 2 := ⟨⟨by decide, by decide +kernel⟩, fs_tm 620 (by decide +kernel) rfl, fs_tm 63 (by decide +kernel) rfl, by decide +kernel, by decide +kernel, by decide +kernel⟩
theorem fs_oX0_cutField : fs_Ok mX0_cutField 2 := ⟨⟨by decide, by decide +kernel⟩, fs_tm 625 (by decide +kernel) rfl, fs_tm 63 (by decide +kernel) rfl, by decide +kernel, by decide +kernel, by decide +kernel⟩
theorem fs_oX0_addLeaf : fs_Ok mX0_addLeaf 1 := ⟨⟨by decide, by decide +kernel⟩, fs_tm 631 (by decide +kernel) rfl, fs_tm 63 (by decide +kernel) rfl, by decide +kernel, by decide +kernel, by decide +kernel⟩
theorem fs_oX6_walk : fs_Ok mX6_walk 5 := ⟨⟨by decide, by decide +kernel⟩, fs_tm 635 (by decide +kernel) rfl, fs_tm 58 (by decide +kernel) rfl, by decide +kernel, by decide +kernel, by decide +kernel⟩
theorem fs_oX0_descend : fs_Ok mX0_descend 1 := ⟨⟨by decide, by decide +kernel⟩, fs_tm 639 (by decide +kernel) rfl, fs_tm 63 (by decide +kernel) rfl, by decide +kernel, by decide +kernel, by decide +kernel⟩
theorem fs_oX6_lookedAt : fs_Ok mX6_lookedAt 2 := ⟨⟨by decide, by decide +kernel⟩, fs_tm 643 (by decide +kernel) rfl, fs_tm 58 (by decide +kernel) rfl, by decide +kernel, by decide +kernel, by decide +kernel⟩
theorem fs_oX6_image : fs_Ok mX6_image 1 := ⟨⟨by decide, by decide +kernel⟩, fs_tm 647 (by decide +kernel) rfl, fs_tm 58 (by decide +kernel) rfl, by decide +kernel, by decide +kernel, by decide +kernel⟩
theorem fs_oX3_copyFrom : fs_Ok mX3_copyFrom 1 := ⟨⟨by decide, by decide +kernel⟩, fs_tm 651 (by decide +kernel) rfl, fs_tm 59 (by decide +kernel) rfl, by decide +kernel, by decide +kernel, by decide +kernel⟩
theorem fs_oX6_restore : fs_Ok mX6_restore 1 := ⟨⟨by decide, by decide +kernel⟩, fs_tm 655 (by decide +kernel) rfl, fs_tm 58 (by decide +kernel) rfl, by decide +kernel, by decide +kernel, by decide +kernel⟩
theorem fs_oX6_count : fs_Ok mX6_count 1 := ⟨⟨by decide, by decide +kernel⟩, fs_tm 659 (by decide +kernel) rfl, fs_tm 58 (by decide +kernel) rfl, by decide +kernel, by decide +kernel, by decide +kernel⟩
theorem fs_oX6_countTuples : fs_Ok mX6_countTuples 0 := ⟨⟨by decide, by decide +kernel⟩, fs_tm 663 (by decide +kernel) rfl, fs_tm 58 (by decide +kernel) rfl, by decide +kernel, by decide +kernel, by decide +kernel⟩
theorem fs_oX6_countEntries : fs_Ok mX6_countEntries 0 := ⟨⟨by decide, by decide +kernel⟩, fs_tm 667 (by decide +kernel) rfl, fs_tm 58 (by decide +kernel) rfl, by decide +kernel, by decide +kernel, by decide +kernel⟩
theorem fs_oX6_countIdle : fs_Ok mX6_countIdle 0 := ⟨⟨by decide, by decide +kernel⟩, fs_tm 671 (by decide +kernel) rfl, fs_tm 58 (by decide +kernel) rfl, by decide +kernel, by decide +kernel, by decide +kernel⟩
theorem fs_oX6_countCovered : fs_Ok mX6_countCovered 0 := ⟨⟨by decide, by decide +kernel⟩, fs_tm 675 (by decide +kernel) rfl, fs_tm 58 (by decide +kernel) rfl, by decide +kernel, by decide +kernel, by decide +kernel⟩
theorem fs_oX6_keptImages : fs_Ok mX6_keptImages 0 := ⟨⟨by decide, by decide +kernel⟩, fs_tm 679 (by decide +kernel) rfl, fs_tm 58 (by decide +kernel) rfl, by decide +kernel, by decide +kernel, by decide +kernel⟩
theorem fs_oX7_init : fs_Ok mX7_init 0 := ⟨⟨by decide, by decide +kernel⟩, fs_tm 684 (by decide +kernel) rfl, fs_tm 65 (by decide +kernel) rfl, by decide +kernel, by decide +kernel, by decide +kernel⟩
theorem fs_oX7_clearDraft : fs_Ok mX7_clearDraft 0 := ⟨⟨by decide, by decide +kernel⟩, fs_tm 689 (by decide +kernel) rfl, fs_tm 65 (by decide +kernel) rfl, by decide +kernel, by decide +kernel, by decide +kernel⟩
theorem fs_oX7_most : fs_Ok mX7_most 1 := ⟨⟨by decide, by decide +kernel⟩, fs_tm 692 (by decide +kernel) rfl, fs_tm 65 (by decide +kernel) rfl, by decide +kernel, by decide +kernel, by decide +kernel⟩
theorem fs_oX7_width : fs_Ok mX7_width 1 := ⟨⟨by decide, by decide +kernel⟩, fs_tm 695 (by decide +kernel) rfl, fs_tm 65 (by decide +kernel) rfl, by decide +kernel, by decide +kernel, by decide +kernel⟩
theorem fs_oX7_draft : fs_Ok mX7_draft 3 := ⟨⟨by decide, by decide +kernel⟩, fs_tm 802 (by decide +kernel) rfl, fs_tm 65 (by decide +kernel) rfl, by decide +kernel, by decide +kernel, by decide +kernel⟩
theorem fs_oX7_isField : fs_Ok mX7_isField 1 := ⟨⟨by decide, by decide +kernel⟩, fs_tm 805 (by decide +kernel) rfl, fs_tm 65 (by decide +kernel) rfl, by decide +kernel, by decide +kernel, by decide +kernel⟩
theorem fs_oX7_in : fs_Ok mX7_in 3 := ⟨⟨by decide, by decide +kernel⟩, fs_tm 808 (by decide +kernel) rfl, fs_tm 65 (by decide +kernel) rfl, by decide +kernel, by decide +kernel, by decide +kernel⟩
theorem fs_oX7_rule : fs_Ok mX7_rule 2 := ⟨⟨by decide, by decide +kernel⟩, fs_tm 812 (by decide +kernel) rfl, fs_tm 65 (by decide +kernel) rfl, by decide +kernel, by decide +kernel, by decide +kernel⟩
theorem fs_oX7_change : fs_Ok mX7_change 0 := ⟨⟨by decide, by decide +kernel⟩, fs_tm 816 (by decide +kernel) rfl, fs_tm 65 (by decide +kernel) rfl, by decide +kernel, by decide +kernel, by decide +kernel⟩
theorem fs_oX7_drop : fs_Ok mX7_drop 1 := ⟨⟨by decide, by decide +kernel⟩, fs_tm 820 (by decide +kernel) rfl, fs_tm 65 (by decide +kernel) rfl, by decide +kernel, by decide +kernel, by decide +kernel⟩
theorem fs_oX7_isRule : fs_Ok mX7_isRule 1 := ⟨⟨by decide, by decide +kernel⟩, fs_tm 824 (by decide +kernel) rfl, fs_tm 65 (by decide +kernel) rfl, by decide +kernel, by decide +kernel, by decide +kernel⟩
theorem fs_oX7_rank : fs_Ok mX7_rank 2 := ⟨⟨by decide, by decide +kernel⟩, fs_tm 828 (by decide +kernel) rfl, fs_tm 65 (by decide +kernel) rfl, by decide +kernel, by decide +kernel, by decide +kernel⟩
theorem fs_oX7_aheadOf : fs_Ok mX7_aheadOf 1 := ⟨⟨by decide, by decide +kernel⟩, fs_tm 832 (by decide +kernel) rfl, fs_tm 65 (by decide +kernel) rfl, by decide +kernel, by decide +kernel, by decide +kernel⟩
theorem fs_oX7_isAhead : fs_Ok mX7_isAhead 2 := ⟨⟨by decide, by decide +kernel⟩, fs_tm 836 (by decide +kernel) rfl, fs_tm 65 (by decide +kernel) rfl, by decide +kernel, by decide +kernel, by decide +kernel⟩
theorem fs_oX7_told : fs_Ok mX7_told 2 := ⟨⟨by decide, by decide +kernel⟩, fs_tm 840 (by decide +kernel) rfl, fs_tm 65 (by decide +kernel) rfl, by decide +kernel, by decide +kernel, by decide +kernel⟩
theorem fs_oX7_first : fs_Ok mX7_first 4 := ⟨⟨by decide, by decide +kernel⟩, fs_tm 844 (by decide +kernel) rfl, fs_tm 65 (by decide +kernel) rfl, by decide +kernel, by decide +kernel, by decide +kernel⟩
theorem fs_oX7_isPacket : fs_Ok mX7_isPacket 4 := ⟨⟨by decide, by decide +kernel⟩, fs_tm 847 (by decide +kernel) rfl, fs_tm 65 (by decide +kernel) rfl, by decide +kernel, by decide +kernel, by decide +kernel⟩
theorem fs_oX7_fitting : fs_Ok mX7_fitting 4 := ⟨⟨by decide, by decide +kernel⟩, fs_tm 851 (by decide +kernel) rfl, fs_tm 65 (by decide +kernel) rfl, by decide +kernel, by decide +kernel, by decide +kernel⟩
theorem fs_oX7_order : fs_Ok mX7_order 0 := ⟨⟨by decide, by decide +kernel⟩, fs_tm 855 (by decide +kernel) rfl, fs_tm 65 (by decide +kernel) rfl, by decide +kernel, by decide +kernel, by decide +kernel⟩
theorem fs_oX7_takersOf : fs_Ok mX7_takersOf 3 := ⟨⟨by decide, by decide +kernel⟩, fs_tm 859 (by decide +kernel) rfl, fs_tm 65 (by decide +kernel) rfl, by decide +kernel, by decide +kernel, by decide +kernel⟩
theorem fs_oX7_lowest : fs_Ok mX7_lowest 1 := ⟨⟨by decide, by decide +kernel⟩, fs_tm 862 (by decide +kernel) rfl, fs_tm 65 (by decide +kernel) rfl, by decide +kernel, by decide +kernel, by decide +kernel⟩
theorem fs_oX7_has : fs_Ok mX7_has 2 := ⟨⟨by decide, by decide +kernel⟩, fs_tm 865 (by decide +kernel) rfl, fs_tm 65 (by decide +kernel) rfl, by decide +kernel, by decide +kernel, by decide +kernel⟩
theorem fs_oX7_wins : fs_Ok mX7_wins 1 := ⟨⟨by decide, by decide +kernel⟩, fs_tm 869 (by decide +kernel) rfl, fs_tm 65 (by decide +kernel) rfl, by decide +kernel, by decide +kernel, by decide +kernel⟩
theorem fs_oX7_sweep : fs_Ok mX7_sweep 0 := ⟨⟨by decide, by decide +kernel⟩, fs_tm 873 (by decide +kernel) rfl, fs_tm 65 (by decide +kernel) rfl, by decide +kernel, by decide +kernel, by decide +kernel⟩
theorem fs_oX7_layStretches : fs_Ok mX7_layStretches 0 := ⟨⟨by decide, by decide +kernel⟩, fs_tm 877 (by decide +kernel) rfl, fs_tm 65 (by decide +kernel) rfl, by decide +kernel, by decide +kernel, by decide +kernel⟩
theorem fs_oX7_meet : fs_Ok mX7_meet 2 := ⟨⟨by decide, by decide +kernel⟩, fs_tm 881 (by decide +kernel) rfl, fs_tm 65 (by decide +kernel) rfl, by decide +kernel, by decide +kernel, by decide +kernel⟩
theorem fs_oX7_overlap : fs_Ok mX7_overlap 2 := ⟨⟨by decide, by decide +kernel⟩, fs_tm 885 (by decide +kernel) rfl, fs_tm 65 (by decide +kernel) rfl, by decide +kernel, by decide +kernel, by decide +kernel⟩
theorem fs_oX7_covered : fs_Ok mX7_covered 1 := ⟨⟨by decide, by decide +kernel⟩, fs_tm 889 (by decide +kernel) rfl, fs_tm 65 (by decide +kernel) rfl, by decide +kernel, by decide +kernel, by decide +kernel⟩
theorem fs_oX7_coverOf : fs_Ok mX7_coverOf 1 := ⟨⟨by decide, by decide +kernel⟩, fs_tm 893 (by decide +kernel) rfl, fs_tm 65 (by decide +kernel) rfl, by decide +kernel, by decide +kernel, by decide +kernel⟩
theorem fs_oX7_isWithin : fs_Ok mX7_isWithin 2 := ⟨⟨by decide, by decide +kernel⟩, fs_tm 897 (by decide +kernel) rfl, fs_tm 65 (by decide +kernel) rfl, by decide +kernel, by decide +kernel, by decide +kernel⟩
theorem fs_oX7_idle : fs_Ok mX7_idle 1 := ⟨⟨by decide, by decide +kernel⟩, fs_tm 901 (by decide +kernel) rfl, fs_tm 65 (by decide +kernel) rfl, by decide +kernel, by decide +kernel, by decide +kernel⟩
theorem fs_oX7_packets : fs_Ok mX7_packets 1 := ⟨⟨by decide, by decide +kernel⟩, fs_tm 905 (by decide +kernel) rfl, fs_tm 65 (by decide +kernel) rfl, by decide +kernel, by decide +kernel, by decide +kernel⟩
theorem fs_oX7_split : fs_Ok mX7_split 2 := ⟨⟨by decide, by decide +kernel⟩, fs_tm 909 (by decide +kernel) rfl, fs_tm 65 (by decide +kernel) rfl, by decide +kernel, by decide +kernel, by decide +kernel⟩
theorem fs_oX7_prefixes : fs_Ok mX7_prefixes 2 := ⟨⟨by decide, by decide +kernel⟩, fs_tm 913 (by decide +kernel) rfl, fs_tm 65 (by decide +kernel) rfl, by decide +kernel, by decide +kernel, by decide +kernel⟩
theorem fs_oX7_valueOf : fs_Ok mX7_valueOf 3 := ⟨⟨by decide, by decide +kernel⟩, fs_tm 917 (by decide +kernel) rfl, fs_tm 65 (by decide +kernel) rfl, by decide +kernel, by decide +kernel, by decide +kernel⟩
theorem fs_oX7_lengthAt : fs_Ok mX7_lengthAt 3 := ⟨⟨by decide, by decide +kernel⟩, fs_tm 920 (by decide +kernel) rfl, fs_tm 65 (by decide +kernel) rfl, by decide +kernel, by decide +kernel, by decide +kernel⟩
theorem fs_oX7_prefix : fs_Ok mX7_prefix 4 := ⟨⟨by decide, by decide +kernel⟩, fs_tm 924 (by decide +kernel) rfl, fs_tm 65 (by decide +kernel) rfl, by decide +kernel, by decide +kernel, by decide +kernel⟩
theorem fs_oX7_tuple : fs_Ok mX7_tuple 2 := ⟨⟨by decide, by decide +kernel⟩, fs_tm 928 (by decide +kernel) rfl, fs_tm 65 (by decide +kernel) rfl, by decide +kernel, by decide +kernel, by decide +kernel⟩
theorem fs_oX7_listTuples : fs_Ok mX7_listTuples 0 := ⟨⟨by decide, by decide +kernel⟩, fs_tm 932 (by decide +kernel) rfl, fs_tm 65 (by decide +kernel) rfl, by decide +kernel, by decide +kernel, by decide +kernel⟩
theorem fs_oX7_ofLength : fs_Ok mX7_ofLength 3 := ⟨⟨by decide, by decide +kernel⟩, fs_tm 936 (by decide +kernel) rfl, fs_tm 65 (by decide +kernel) rfl, by decide +kernel, by decide +kernel, by decide +kernel⟩
theorem fs_oX7_membersOf : fs_Ok mX7_membersOf 1 := ⟨⟨by decide, by decide +kernel⟩, fs_tm 940 (by decide +kernel) rfl, fs_tm 65 (by decide +kernel) rfl, by decide +kernel, by decide +kernel, by decide +kernel⟩
theorem fs_oX7_entriesOf : fs_Ok mX7_entriesOf 2 := ⟨⟨by decide, by decide +kernel⟩, fs_tm 944 (by decide +kernel) rfl, fs_tm 65 (by decide +kernel) rfl, by decide +kernel, by decide +kernel, by decide +kernel⟩
theorem fs_oX7_lengthIn : fs_Ok mX7_lengthIn 2 := ⟨⟨by decide, by decide +kernel⟩, fs_tm 947 (by decide +kernel) rfl, fs_tm 65 (by decide +kernel) rfl, by decide +kernel, by decide +kernel, by decide +kernel⟩
theorem fs_oX7_entries : fs_Ok mX7_entries 1 := ⟨⟨by decide, by decide +kernel⟩, fs_tm 951 (by decide +kernel) rfl, fs_tm 65 (by decide +kernel) rfl, by decide +kernel, by decide +kernel, by decide +kernel⟩
theorem fs_oX7_bits : fs_Ok mX7_bits 1 := ⟨⟨by decide, by decide +kernel⟩, fs_tm 954 (by decide +kernel) rfl, fs_tm 65 (by decide +kernel) rfl, by decide +kernel, by decide +kernel, by decide +kernel⟩
theorem fs_oX7_probe : fs_Ok mX7_probe 5 := ⟨⟨by decide, by decide +kernel⟩, fs_tm 958 (by decide +kernel) rfl, fs_tm 65 (by decide +kernel) rfl, by decide +kernel, by decide +kernel, by decide +kernel⟩
theorem fs_oX7_codeOf : fs_Ok mX7_codeOf 5 := ⟨⟨by decide, by decide +kernel⟩, fs_tm 962 (by decide +kernel) rfl, fs_tm 65 (by decide +kernel) rfl, by decide +kernel, by decide +kernel, by decide +kernel⟩
theorem fs_oX7_lengthOf : fs_Ok mX7_lengthOf 3 := ⟨⟨by decide, by decide +kernel⟩, fs_tm 966 (by decide +kernel) rfl, fs_tm 65 (by decide +kernel) rfl, by decide +kernel, by decide +kernel, by decide +kernel⟩
theorem fs_oX7_grow : fs_Ok mX7_grow 2 := ⟨⟨by decide, by decide +kernel⟩, fs_tm 970 (by decide +kernel) rfl, fs_tm 65 (by decide +kernel) rfl, by decide +kernel, by decide +kernel, by decide +kernel⟩
theorem fs_oX7_tree : fs_Ok mX7_tree 1 := ⟨⟨by decide, by decide +kernel⟩, fs_tm 974 (by decide +kernel) rfl, fs_tm 65 (by decide +kernel) rfl, by decide +kernel, by decide +kernel, by decide +kernel⟩
theorem fs_oX7_growTree : fs_Ok mX7_growTree 0 := ⟨⟨by decide, by decide +kernel⟩, fs_tm 978 (by decide +kernel) rfl, fs_tm 65 (by decide +kernel) rfl, by decide +kernel, by decide +kernel, by decide +kernel⟩
theorem fs_oX7_cutOf : fs_Ok mX7_cutOf 1 := ⟨⟨by decide, by decide +kernel⟩, fs_tm 982 (by decide +kernel) rfl, fs_tm 65 (by decide +kernel) rfl, by decide +kernel, by decide +kernel, by decide +kernel⟩
theorem fs_oX7_halved : fs_Ok mX7_halved 3 := ⟨⟨by decide, by decide +kernel⟩, fs_tm 986 (by decide +kernel) rfl, fs_tm 65 (by decide +kernel) rfl, by decide +kernel, by decide +kernel, by decide +kernel⟩
theorem fs_oX7_addBelow : fs_Ok mX7_addBelow 3 := ⟨⟨by decide, by decide +kernel⟩, fs_tm 990 (by decide +kernel) rfl, fs_tm 65 (by decide +kernel) rfl, by decide +kernel, by decide +kernel, by decide +kernel⟩
theorem fs_oX7_walk : fs_Ok mX7_walk 5 := ⟨⟨by decide, by decide +kernel⟩, fs_tm 994 (by decide +kernel) rfl, fs_tm 65 (by decide +kernel) rfl, by decide +kernel, by decide +kernel, by decide +kernel⟩
theorem fs_oX7_looked : fs_Ok mX7_looked 2 := ⟨⟨by decide, by decide +kernel⟩, fs_tm 998 (by decide +kernel) rfl, fs_tm 65 (by decide +kernel) rfl, by decide +kernel, by decide +kernel, by decide +kernel⟩
theorem fs_oX7_image : fs_Ok mX7_image 1 := ⟨⟨by decide, by decide +kernel⟩, fs_tm 1002 (by decide +kernel) rfl, fs_tm 65 (by decide +kernel) rfl, by decide +kernel, by decide +kernel, by decide +kernel⟩
theorem fs_oX7_restore : fs_Ok mX7_restore 1 := ⟨⟨by decide, by decide +kernel⟩, fs_tm 1006 (by decide +kernel) rfl, fs_tm 65 (by decide +kernel) rfl, by decide +kernel, by decide +kernel, by decide +kernel⟩
theorem fs_oX7_count : fs_Ok mX7_count 1 := ⟨⟨by decide, by decide +kernel⟩, fs_tm 1010 (by decide +kernel) rfl, fs_tm 65 (by decide +kernel) rfl, by decide +kernel, by decide +kernel, by decide +kernel⟩
theorem fs_oX7_allEntries : fs_Ok mX7_allEntries 0 := ⟨⟨by decide, by decide +kernel⟩, fs_tm 1014 (by decide +kernel) rfl, fs_tm 65 (by decide +kernel) rfl, by decide +kernel, by decide +kernel, by decide +kernel⟩
theorem fs_oX7_idleOnes : fs_Ok mX7_idleOnes 0 := ⟨⟨by decide, by decide +kernel⟩, fs_tm 1018 (by decide +kernel) rfl, fs_tm 65 (by decide +kernel) rfl, by decide +kernel, by decide +kernel, by decide +kernel⟩
theorem fs_oX7_coveredOnes : fs_Ok mX7_coveredOnes 0 := ⟨⟨by decide, by decide +kernel⟩, fs_tm 1022 (by decide +kernel) rfl, fs_tm 65 (by decide +kernel) rfl, by decide +kernel, by decide +kernel, by decide +kernel⟩
def fs_Iv (y : MethodName) : Prop := Cond.instanceMethod y ∈ fs_tbl ∧ Cond.selects y.cls y y ∈ fs_tbl
def fs_Is (y : MethodName) : Prop := Cond.static y ∈ fs_tbl
theorem fs_iX6_clearDraft : fs_Iv yX6_clearDraft := ⟨fs_tm 311 (by decide +kernel) rfl, fs_tm 0 (by decide +kernel) rfl⟩
theorem fs_iX6_draft : fs_Iv yX6_draft := ⟨fs_tm 344 (by decide +kernel) rfl, fs_tm 345 (by decide +kernel) rfl⟩
theorem fs_sX6_isField : fs_Is yX6_isField := fs_tm 348 (by decide +kernel) rfl
theorem fs_sX6_isNumber : fs_Is yX6_isNumber := fs_tm 351 (by decide +kernel) rfl
theorem fs_iX6_rule : fs_Iv yX6_rule := ⟨fs_tm 354 (by decide +kernel) rfl, fs_tm 355 (by decide +kernel) rfl⟩
theorem fs_sX6_isRank : fs_Is yX6_isRank := fs_tm 358 (by decide +kernel) rfl
theorem fs_sX6_isAction : fs_Is yX6_isAction := fs_tm 361 (by decide +kernel) rfl
theorem fs_iX3_add : fs_Iv yX3_add := ⟨fs_tm 364 (by decide +kernel) rfl, fs_tm 365 (by decide +kernel) rfl⟩
theorem fs_iX6_rulesChanged : fs_Iv yX6_rulesChanged := ⟨fs_tm 369 (by decide +kernel) rfl, fs_tm 1 (by decide +kernel) rfl⟩
theorem fs_iX3_sort : fs_Iv yX3_sort := ⟨fs_tm 372 (by decide +kernel) rfl, fs_tm 373 (by decide +kernel) rfl⟩
theorem fs_iX3_isAhead : fs_Iv yX3_isAhead := ⟨fs_tm 377 (by decide +kernel) rfl, fs_tm 2 (by decide +kernel) rfl⟩
theorem fs_iX2_build : fs_Iv yX2_build := ⟨fs_tm 380 (by decide +kernel) rfl, fs_tm 381 (by decide +kernel) rfl⟩
theorem fs_iX2_fillNumbers : fs_Iv yX2_fillNumbers := ⟨fs_tm 385 (by decide +kernel) rfl, fs_tm 3 (by decide +kernel) rfl⟩
theorem fs_iX6_drop : fs_Iv yX6_drop := ⟨fs_tm 389 (by decide +kernel) rfl, fs_tm 390 (by decide +kernel) rfl⟩
theorem fs_iX3_has : fs_Iv yX3_has := ⟨fs_tm 393 (by decide +kernel) rfl, fs_tm 394 (by decide +kernel) rfl⟩
theorem fs_iX3_remove : fs_Iv yX3_remove := ⟨fs_tm 397 (by decide +kernel) rfl, fs_tm 398 (by decide +kernel) rfl⟩
theorem fs_iX3_copyRule : fs_Iv yX3_copyRule := ⟨fs_tm 403 (by decide +kernel) rfl, fs_tm 4 (by decide +kernel) rfl⟩
theorem fs_iX6_rank : fs_Iv yX6_rank := ⟨fs_tm 406 (by decide +kernel) rfl, fs_tm 407 (by decide +kernel) rfl⟩
theorem fs_iX6_told : fs_Iv yX6_told := ⟨fs_tm 410 (by decide +kernel) rfl, fs_tm 411 (by decide +kernel) rfl⟩
theorem fs_iX6_toldBound : fs_Iv yX6_toldBound := ⟨fs_tm 415 (by decide +kernel) rfl, fs_tm 5 (by decide +kernel) rfl⟩
theorem fs_iX6_first : fs_Iv yX6_first := ⟨fs_tm 418 (by decide +kernel) rfl, fs_tm 419 (by decide +kernel) rfl⟩
theorem fs_sX6_isPacket : fs_Is yX6_isPacket := fs_tm 422 (by decide +kernel) rfl
theorem fs_iX6_setPacket : fs_Iv yX6_setPacket := ⟨fs_tm 426 (by decide +kernel) rfl, fs_tm 6 (by decide +kernel) rfl⟩
theorem fs_iX2_fitting : fs_Iv yX2_fitting := ⟨fs_tm 429 (by decide +kernel) rfl, fs_tm 430 (by decide +kernel) rfl⟩
theorem fs_iX2_all : fs_Iv yX2_all := ⟨fs_tm 433 (by decide +kernel) rfl, fs_tm 434 (by decide +kernel) rfl⟩
theorem fs_iX2_ofNumber : fs_Iv yX2_ofNumber := ⟨fs_tm 437 (by decide +kernel) rfl, fs_tm 438 (by decide +kernel) rfl⟩
theorem fs_sX6_lowestBit : fs_Is yX6_lowestBit := fs_tm 441 (by decide +kernel) rfl
theorem fs_sJ6_bitCount_0f7a4 : fs_Is yJ6_bitCount_0f7a4 := fs_tm 444 (by decide +kernel) rfl
theorem fs_iX6_ruleAt : fs_Iv yX6_ruleAt := ⟨fs_tm 451 (by decide +kernel) rfl, fs_tm 7 (by decide +kernel) rfl⟩
theorem fs_iX6_wins : fs_Iv yX6_wins := ⟨fs_tm 454 (by decide +kernel) rfl, fs_tm 455 (by decide +kernel) rfl⟩
theorem fs_iX4_refresh : fs_Iv yX4_refresh := ⟨fs_tm 458 (by decide +kernel) rfl, fs_tm 459 (by decide +kernel) rfl⟩
theorem fs_iX4_gatherRuns : fs_Iv yX4_gatherRuns := ⟨fs_tm 463 (by decide +kernel) rfl, fs_tm 8 (by decide +kernel) rfl⟩
theorem fs_iX4_sweep : fs_Iv yX4_sweep := ⟨fs_tm 470 (by decide +kernel) rfl, fs_tm 9 (by decide +kernel) rfl⟩
theorem fs_iX4_tally : fs_Iv yX4_tally := ⟨fs_tm 476 (by decide +kernel) rfl, fs_tm 10 (by decide +kernel) rfl⟩
theorem fs_iX4_actionAt : fs_Iv yX4_actionAt := ⟨fs_tm 481 (by decide +kernel) rfl, fs_tm 11 (by decide +kernel) rfl⟩
theorem fs_iX6_overlap : fs_Iv yX6_overlap := ⟨fs_tm 484 (by decide +kernel) rfl, fs_tm 485 (by decide +kernel) rfl⟩
theorem fs_iX3_shared : fs_Iv yX3_shared := ⟨fs_tm 488 (by decide +kernel) rfl, fs_tm 489 (by decide +kernel) rfl⟩
theorem fs_sJ9_max_7cf53 : fs_Is yJ9_max_7cf53 := fs_tm 492 (by decide +kernel) rfl
theorem fs_sJ9_min_7cf53 : fs_Is yJ9_min_7cf53 := fs_tm 495 (by decide +kernel) rfl
theorem fs_iX6_covered : fs_Iv yX6_covered := ⟨fs_tm 498 (by decide +kernel) rfl, fs_tm 499 (by decide +kernel) rfl⟩
theorem fs_iX3_coverOf : fs_Iv yX3_coverOf := ⟨fs_tm 502 (by decide +kernel) rfl, fs_tm 503 (by decide +kernel) rfl⟩
theorem fs_iX3_holds : fs_Iv yX3_holds := ⟨fs_tm 507 (by decide +kernel) rfl, fs_tm 12 (by decide +kernel) rfl⟩
theorem fs_iX6_idle : fs_Iv yX6_idle := ⟨fs_tm 510 (by decide +kernel) rfl, fs_tm 511 (by decide +kernel) rfl⟩
theorem fs_iX6_packets : fs_Iv yX6_packets := ⟨fs_tm 514 (by decide +kernel) rfl, fs_tm 515 (by decide +kernel) rfl⟩
theorem fs_iX4_wonByAction : fs_Iv yX4_wonByAction := ⟨fs_tm 518 (by decide +kernel) rfl, fs_tm 519 (by decide +kernel) rfl⟩
theorem fs_iX6_split : fs_Iv yX6_split := ⟨fs_tm 522 (by decide +kernel) rfl, fs_tm 523 (by decide +kernel) rfl⟩
theorem fs_iX3_prefixesOf : fs_Iv yX3_prefixesOf := ⟨fs_tm 528 (by decide +kernel) rfl, fs_tm 529 (by decide +kernel) rfl⟩
theorem fs_iX3_prefixesWithin : fs_Iv yX3_prefixesWithin := ⟨fs_tm 533 (by decide +kernel) rfl, fs_tm 13 (by decide +kernel) rfl⟩
theorem fs_iX6_prefix : fs_Iv yX6_prefix := ⟨fs_tm 537 (by decide +kernel) rfl, fs_tm 538 (by decide +kernel) rfl⟩
theorem fs_iX3_prefixValue : fs_Iv yX3_prefixValue := ⟨fs_tm 541 (by decide +kernel) rfl, fs_tm 542 (by decide +kernel) rfl⟩
theorem fs_iX3_prefixLength : fs_Iv yX3_prefixLength := ⟨fs_tm 545 (by decide +kernel) rfl, fs_tm 546 (by decide +kernel) rfl⟩
theorem fs_iX6_tuple : fs_Iv yX6_tuple := ⟨fs_tm 550 (by decide +kernel) rfl, fs_tm 551 (by decide +kernel) rfl⟩
theorem fs_iX5_refresh : fs_Iv yX5_refresh := ⟨fs_tm 554 (by decide +kernel) rfl, fs_tm 555 (by decide +kernel) rfl⟩
theorem fs_sJ7_fill_53178 : fs_Is yJ7_fill_53178 := fs_tm 558 (by decide +kernel) rfl
theorem fs_iX5_countPieces : fs_Iv yX5_countPieces := ⟨fs_tm 562 (by decide +kernel) rfl, fs_tm 14 (by decide +kernel) rfl⟩
theorem fs_iX5_enter : fs_Iv yX5_enter := ⟨fs_tm 568 (by decide +kernel) rfl, fs_tm 15 (by decide +kernel) rfl⟩
theorem fs_iX5_put : fs_Iv yX5_put := ⟨fs_tm 572 (by decide +kernel) rfl, fs_tm 16 (by decide +kernel) rfl⟩
theorem fs_iX5_lengthIn : fs_Iv yX5_lengthIn := ⟨fs_tm 577 (by decide +kernel) rfl, fs_tm 578 (by decide +kernel) rfl⟩
theorem fs_iX6_probe : fs_Iv yX6_probe := ⟨fs_tm 583 (by decide +kernel) rfl, fs_tm 584 (by decide +kernel) rfl⟩
theorem fs_iX5_search : fs_Iv yX5_search := ⟨fs_tm 587 (by decide +kernel) rfl, fs_tm 588 (by decide +kernel) rfl⟩
theorem fs_iX5_packetKey : fs_Iv yX5_packetKey := ⟨fs_tm 592 (by decide +kernel) rfl, fs_tm 17 (by decide +kernel) rfl⟩
theorem fs_iX3_takes : fs_Iv yX3_takes := ⟨fs_tm 595 (by decide +kernel) rfl, fs_tm 596 (by decide +kernel) rfl⟩
theorem fs_iX5_firstWithKey : fs_Iv yX5_firstWithKey := ⟨fs_tm 601 (by decide +kernel) rfl, fs_tm 18 (by decide +kernel) rfl⟩
theorem fs_iX6_grow : fs_Iv yX6_grow := ⟨fs_tm 604 (by decide +kernel) rfl, fs_tm 605 (by decide +kernel) rfl⟩
theorem fs_iX6_tree : fs_Iv yX6_tree := ⟨fs_tm 608 (by decide +kernel) rfl, fs_tm 609 (by decide +kernel) rfl⟩
theorem fs_iX0_measure : fs_Iv yX0_measure := ⟨fs_tm 612 (by decide +kernel) rfl, fs_tm 613 (by decide +kernel) rfl⟩
theorem fs_iX0_visit : fs_Iv yX0_visit := ⟨fs_tm 619 (by decide +kernel) rfl, fs_tm 19 (by decide +kernel) rfl⟩
theorem fs_iX0_cutField : fs_Iv yX0_cutField := ⟨fs_tm 624 (by decide +kernel) rfl, fs_tm 20 (by decide +kernel) rfl⟩
theorem fs_iX0_addLeaf : fs_Iv yX0_addLeaf := ⟨fs_tm 630 (by decide +kernel) rfl, fs_tm 21 (by decide +kernel) rfl⟩
theorem fs_iX6_walk : fs_Iv yX6_walk := ⟨fs_tm 633 (by decide +kernel) rfl, fs_tm 634 (by decide +kernel) rfl⟩
theorem fs_iX0_descend : fs_Iv yX0_descend := ⟨fs_tm 637 (by decide +kernel) rfl, fs_tm 638 (by decide +kernel) rfl⟩
theorem fs_sX6_lookedAt : fs_Is yX6_lookedAt := fs_tm 642 (by decide +kernel) rfl
theorem fs_iX6_image : fs_Iv yX6_image := ⟨fs_tm 645 (by decide +kernel) rfl, fs_tm 646 (by decide +kernel) rfl⟩
theorem fs_iX3_copyFrom : fs_Iv yX3_copyFrom := ⟨fs_tm 649 (by decide +kernel) rfl, fs_tm 650 (by decide +kernel) rfl⟩
theorem fs_iX6_restore : fs_Iv yX6_restore := ⟨fs_tm 653 (by decide +kernel) rfl, fs_tm 654 (by decide +kernel) rfl⟩
theorem fs_iX6_count : fs_Iv yX6_count := ⟨fs_tm 657 (by decide +kernel) rfl, fs_tm 658 (by decide +kernel) rfl⟩
theorem fs_iX6_countTuples : fs_Iv yX6_countTuples := ⟨fs_tm 662 (by decide +kernel) rfl, fs_tm 22 (by decide +kernel) rfl⟩
theorem fs_iX6_countEntries : fs_Iv yX6_countEntries := ⟨fs_tm 666 (by decide +kernel) rfl, fs_tm 23 (by decide +kernel) rfl⟩
theorem fs_iX6_countIdle : fs_Iv yX6_countIdle := ⟨fs_tm 670 (by decide +kernel) rfl, fs_tm 24 (by decide +kernel) rfl⟩
theorem fs_iX6_countCovered : fs_Iv yX6_countCovered := ⟨fs_tm 674 (by decide +kernel) rfl, fs_tm 25 (by decide +kernel) rfl⟩
theorem fs_iX6_keptImages : fs_Iv yX6_keptImages := ⟨fs_tm 678 (by decide +kernel) rfl, fs_tm 26 (by decide +kernel) rfl⟩
theorem fs_iX7_clearDraft : fs_Iv yX7_clearDraft := ⟨fs_tm 688 (by decide +kernel) rfl, fs_tm 27 (by decide +kernel) rfl⟩
theorem fs_sX7_most : fs_Is yX7_most := fs_tm 691 (by decide +kernel) rfl
theorem fs_sX7_width : fs_Is yX7_width := fs_tm 694 (by decide +kernel) rfl
theorem fs_iX7_draft : fs_Iv yX7_draft := ⟨fs_tm 800 (by decide +kernel) rfl, fs_tm 801 (by decide +kernel) rfl⟩
theorem fs_sX7_isField : fs_Is yX7_isField := fs_tm 804 (by decide +kernel) rfl
theorem fs_sX7_in : fs_Is yX7_in := fs_tm 807 (by decide +kernel) rfl
theorem fs_iX7_rule : fs_Iv yX7_rule := ⟨fs_tm 810 (by decide +kernel) rfl, fs_tm 811 (by decide +kernel) rfl⟩
theorem fs_iX7_change : fs_Iv yX7_change := ⟨fs_tm 815 (by decide +kernel) rfl, fs_tm 28 (by decide +kernel) rfl⟩
theorem fs_iX7_drop : fs_Iv yX7_drop := ⟨fs_tm 818 (by decide +kernel) rfl, fs_tm 819 (by decide +kernel) rfl⟩
theorem fs_iX7_isRule : fs_Iv yX7_isRule := ⟨fs_tm 823 (by decide +kernel) rfl, fs_tm 29 (by decide +kernel) rfl⟩
theorem fs_iX7_rank : fs_Iv yX7_rank := ⟨fs_tm 826 (by decide +kernel) rfl, fs_tm 827 (by decide +kernel) rfl⟩
theorem fs_iX7_aheadOf : fs_Iv yX7_aheadOf := ⟨fs_tm 831 (by decide +kernel) rfl, fs_tm 30 (by decide +kernel) rfl⟩
theorem fs_iX7_isAhead : fs_Iv yX7_isAhead := ⟨fs_tm 835 (by decide +kernel) rfl, fs_tm 31 (by decide +kernel) rfl⟩
theorem fs_iX7_told : fs_Iv yX7_told := ⟨fs_tm 838 (by decide +kernel) rfl, fs_tm 839 (by decide +kernel) rfl⟩
theorem fs_iX7_first : fs_Iv yX7_first := ⟨fs_tm 842 (by decide +kernel) rfl, fs_tm 843 (by decide +kernel) rfl⟩
theorem fs_sX7_isPacket : fs_Is yX7_isPacket := fs_tm 846 (by decide +kernel) rfl
theorem fs_iX7_fitting : fs_Iv yX7_fitting := ⟨fs_tm 850 (by decide +kernel) rfl, fs_tm 32 (by decide +kernel) rfl⟩
theorem fs_iX7_order : fs_Iv yX7_order := ⟨fs_tm 854 (by decide +kernel) rfl, fs_tm 33 (by decide +kernel) rfl⟩
theorem fs_iX7_takersOf : fs_Iv yX7_takersOf := ⟨fs_tm 858 (by decide +kernel) rfl, fs_tm 34 (by decide +kernel) rfl⟩
theorem fs_sX7_lowest : fs_Is yX7_lowest := fs_tm 861 (by decide +kernel) rfl
theorem fs_sX7_has : fs_Is yX7_has := fs_tm 864 (by decide +kernel) rfl
theorem fs_iX7_wins : fs_Iv yX7_wins := ⟨fs_tm 867 (by decide +kernel) rfl, fs_tm 868 (by decide +kernel) rfl⟩
theorem fs_iX7_sweep : fs_Iv yX7_sweep := ⟨fs_tm 872 (by decide +kernel) rfl, fs_tm 35 (by decide +kernel) rfl⟩
theorem fs_iX7_layStretches : fs_Iv yX7_layStretches := ⟨fs_tm 876 (by decide +kernel) rfl, fs_tm 36 (by decide +kernel) rfl⟩
theorem fs_iX7_meet : fs_Iv yX7_meet := ⟨fs_tm 880 (by decide +kernel) rfl, fs_tm 37 (by decide +kernel) rfl⟩
theorem fs_iX7_overlap : fs_Iv yX7_overlap := ⟨fs_tm 883 (by decide +kernel) rfl, fs_tm 884 (by decide +kernel) rfl⟩
theorem fs_iX7_covered : fs_Iv yX7_covered := ⟨fs_tm 887 (by decide +kernel) rfl, fs_tm 888 (by decide +kernel) rfl⟩
theorem fs_iX7_coverOf : fs_Iv yX7_coverOf := ⟨fs_tm 892 (by decide +kernel) rfl, fs_tm 38 (by decide +kernel) rfl⟩
theorem fs_iX7_isWithin : fs_Iv yX7_isWithin := ⟨fs_tm 896 (by decide +kernel) rfl, fs_tm 39 (by decide +kernel) rfl⟩
theorem fs_iX7_idle : fs_Iv yX7_idle := ⟨fs_tm 899 (by decide +kernel) rfl, fs_tm 900 (by decide +kernel) rfl⟩
theorem fs_iX7_packets : fs_Iv yX7_packets := ⟨fs_tm 903 (by decide +kernel) rfl, fs_tm 904 (by decide +kernel) rfl⟩
theorem fs_iX7_split : fs_Iv yX7_split := ⟨fs_tm 907 (by decide +kernel) rfl, fs_tm 908 (by decide +kernel) rfl⟩
theorem fs_iX7_prefixes : fs_Iv yX7_prefixes := ⟨fs_tm 912 (by decide +kernel) rfl, fs_tm 40 (by decide +kernel) rfl⟩
theorem fs_iX7_valueOf : fs_Iv yX7_valueOf := ⟨fs_tm 916 (by decide +kernel) rfl, fs_tm 41 (by decide +kernel) rfl⟩
theorem fs_sX7_lengthAt : fs_Is yX7_lengthAt := fs_tm 919 (by decide +kernel) rfl
theorem fs_iX7_prefix : fs_Iv yX7_prefix := ⟨fs_tm 922 (by decide +kernel) rfl, fs_tm 923 (by decide +kernel) rfl⟩
theorem fs_iX7_tuple : fs_Iv yX7_tuple := ⟨fs_tm 926 (by decide +kernel) rfl, fs_tm 927 (by decide +kernel) rfl⟩
theorem fs_iX7_listTuples : fs_Iv yX7_listTuples := ⟨fs_tm 931 (by decide +kernel) rfl, fs_tm 42 (by decide +kernel) rfl⟩
theorem fs_iX7_ofLength : fs_Iv yX7_ofLength := ⟨fs_tm 935 (by decide +kernel) rfl, fs_tm 43 (by decide +kernel) rfl⟩
theorem fs_iX7_membersOf : fs_Iv yX7_membersOf := ⟨fs_tm 939 (by decide +kernel) rfl, fs_tm 44 (by decide +kernel) rfl⟩
theorem fs_iX7_entriesOf : fs_Iv yX7_entriesOf := ⟨fs_tm 943 (by decide +kernel) rfl, fs_tm 45 (by decide +kernel) rfl⟩
theorem fs_sX7_lengthIn : fs_Is yX7_lengthIn := fs_tm 946 (by decide +kernel) rfl
theorem fs_iX7_entries : fs_Iv yX7_entries := ⟨fs_tm 950 (by decide +kernel) rfl, fs_tm 46 (by decide +kernel) rfl⟩
theorem fs_sX7_bits : fs_Is yX7_bits := fs_tm 953 (by decide +kernel) rfl
theorem fs_iX7_probe : fs_Iv yX7_probe := ⟨fs_tm 956 (by decide +kernel) rfl, fs_tm 957 (by decide +kernel) rfl⟩
theorem fs_iX7_codeOf : fs_Iv yX7_codeOf := ⟨fs_tm 961 (by decide +kernel) rfl, fs_tm 47 (by decide +kernel) rfl⟩
theorem fs_iX7_lengthOf : fs_Iv yX7_lengthOf := ⟨fs_tm 965 (by decide +kernel) rfl, fs_tm 48 (by decide +kernel) rfl⟩
theorem fs_iX7_grow : fs_Iv yX7_grow := ⟨fs_tm 968 (by decide +kernel) rfl, fs_tm 969 (by decide +kernel) rfl⟩
theorem fs_iX7_tree : fs_Iv yX7_tree := ⟨fs_tm 972 (by decide +kernel) rfl, fs_tm 973 (by decide +kernel) rfl⟩
theorem fs_iX7_growTree : fs_Iv yX7_growTree := ⟨fs_tm 977 (by decide +kernel) rfl, fs_tm 49 (by decide +kernel) rfl⟩
theorem fs_iX7_cutOf : fs_Iv yX7_cutOf := ⟨fs_tm 981 (by decide +kernel) rfl, fs_tm 50 (by decide +kernel) rfl⟩
theorem fs_iX7_halved : fs_Iv yX7_halved := ⟨fs_tm 985 (by decide +kernel) rfl, fs_tm 51 (by decide +kernel) rfl⟩
theorem fs_iX7_addBelow : fs_Iv yX7_addBelow := ⟨fs_tm 989 (by decide +kernel) rfl, fs_tm 52 (by decide +kernel) rfl⟩
theorem fs_iX7_walk : fs_Iv yX7_walk := ⟨fs_tm 992 (by decide +kernel) rfl, fs_tm 993 (by decide +kernel) rfl⟩
theorem fs_iX7_looked : fs_Iv yX7_looked := ⟨fs_tm 997 (by decide +kernel) rfl, fs_tm 53 (by decide +kernel) rfl⟩
theorem fs_iX7_image : fs_Iv yX7_image := ⟨fs_tm 1000 (by decide +kernel) rfl, fs_tm 1001 (by decide +kernel) rfl⟩
theorem fs_iX7_restore : fs_Iv yX7_restore := ⟨fs_tm 1004 (by decide +kernel) rfl, fs_tm 1005 (by decide +kernel) rfl⟩
theorem fs_iX7_count : fs_Iv yX7_count := ⟨fs_tm 1008 (by decide +kernel) rfl, fs_tm 1009 (by decide +kernel) rfl⟩
theorem fs_iX7_allEntries : fs_Iv yX7_allEntries := ⟨fs_tm 1013 (by decide +kernel) rfl, fs_tm 54 (by decide +kernel) rfl⟩
theorem fs_iX7_idleOnes : fs_Iv yX7_idleOnes := ⟨fs_tm 1017 (by decide +kernel) rfl, fs_tm 55 (by decide +kernel) rfl⟩
theorem fs_iX7_coveredOnes : fs_Iv yX7_coveredOnes := ⟨fs_tm 1021 (by decide +kernel) rfl, fs_tm 56 (by decide +kernel) rfl⟩
theorem fs_mL_9 : Cond.methodLink RL 9 yX6_init ∈ fs_tbl := fs_tm 71 (by decide +kernel) rfl
theorem fs_mX6_18 : Cond.methodLink RX6 18 yX2_init ∈ fs_tbl := fs_tm 126 (by decide +kernel) rfl
theorem fs_mX6_27 : Cond.methodLink RX6 27 yX4_init ∈ fs_tbl := fs_tm 141 (by decide +kernel) rfl
theorem fs_mX6_36 : Cond.methodLink RX6 36 yX5_init ∈ fs_tbl := fs_tm 181 (by decide +kernel) rfl
theorem fs_mX6_43 : Cond.methodLink RX6 43 yX0_init ∈ fs_tbl := fs_tm 232 (by decide +kernel) rfl
theorem fs_mX6_67 : Cond.methodLink RX6 67 yX6_clearDraft ∈ fs_tbl := fs_tm 309 (by decide +kernel) rfl
theorem fs_mL_13 : Cond.methodLink RL 13 yX6_draft ∈ fs_tbl := fs_tm 343 (by decide +kernel) rfl
theorem fs_mX6_70 : Cond.methodLink RX6 70 yX6_isField ∈ fs_tbl := fs_tm 347 (by decide +kernel) rfl
theorem fs_mX6_74 : Cond.methodLink RX6 74 yX6_isNumber ∈ fs_tbl := fs_tm 350 (by decide +kernel) rfl
theorem fs_mL_18 : Cond.methodLink RL 18 yX6_rule ∈ fs_tbl := fs_tm 353 (by decide +kernel) rfl
theorem fs_mX6_78 : Cond.methodLink RX6 78 yX6_isRank ∈ fs_tbl := fs_tm 357 (by decide +kernel) rfl
theorem fs_mX6_81 : Cond.methodLink RX6 81 yX6_isAction ∈ fs_tbl := fs_tm 360 (by decide +kernel) rfl
theorem fs_mX6_88 : Cond.methodLink RX6 88 yX3_add ∈ fs_tbl := fs_tm 363 (by decide +kernel) rfl
theorem fs_mX6_92 : Cond.methodLink RX6 92 yX6_rulesChanged ∈ fs_tbl := fs_tm 367 (by decide +kernel) rfl
theorem fs_mX6_266 : Cond.methodLink RX6 266 yX3_sort ∈ fs_tbl := fs_tm 371 (by decide +kernel) rfl
theorem fs_mX3_44 : Cond.methodLink RX3 44 yX3_isAhead ∈ fs_tbl := fs_tm 375 (by decide +kernel) rfl
theorem fs_mX6_269 : Cond.methodLink RX6 269 yX2_build ∈ fs_tbl := fs_tm 379 (by decide +kernel) rfl
theorem fs_mX2_20 : Cond.methodLink RX2 20 yX2_fillNumbers ∈ fs_tbl := fs_tm 383 (by decide +kernel) rfl
theorem fs_mL_23 : Cond.methodLink RL 23 yX6_drop ∈ fs_tbl := fs_tm 388 (by decide +kernel) rfl
theorem fs_mX6_95 : Cond.methodLink RX6 95 yX3_has ∈ fs_tbl := fs_tm 392 (by decide +kernel) rfl
theorem fs_mX6_98 : Cond.methodLink RX6 98 yX3_remove ∈ fs_tbl := fs_tm 396 (by decide +kernel) rfl
theorem fs_mX3_36 : Cond.methodLink RX3 36 yX3_has ∈ fs_tbl := fs_tm 400 (by decide +kernel) rfl
theorem fs_mX3_40 : Cond.methodLink RX3 40 yX3_copyRule ∈ fs_tbl := fs_tm 401 (by decide +kernel) rfl
theorem fs_mL_28 : Cond.methodLink RL 28 yX6_rank ∈ fs_tbl := fs_tm 405 (by decide +kernel) rfl
theorem fs_mL_32 : Cond.methodLink RL 32 yX6_told ∈ fs_tbl := fs_tm 409 (by decide +kernel) rfl
theorem fs_mX6_111 : Cond.methodLink RX6 111 yX6_toldBound ∈ fs_tbl := fs_tm 413 (by decide +kernel) rfl
theorem fs_mL_36 : Cond.methodLink RL 36 yX6_first ∈ fs_tbl := fs_tm 417 (by decide +kernel) rfl
theorem fs_mX6_115 : Cond.methodLink RX6 115 yX6_isPacket ∈ fs_tbl := fs_tm 421 (by decide +kernel) rfl
theorem fs_mX6_119 : Cond.methodLink RX6 119 yX6_setPacket ∈ fs_tbl := fs_tm 424 (by decide +kernel) rfl
theorem fs_mX6_123 : Cond.methodLink RX6 123 yX2_fitting ∈ fs_tbl := fs_tm 428 (by decide +kernel) rfl
theorem fs_mX2_43 : Cond.methodLink RX2 43 yX2_all ∈ fs_tbl := fs_tm 432 (by decide +kernel) rfl
theorem fs_mX2_47 : Cond.methodLink RX2 47 yX2_ofNumber ∈ fs_tbl := fs_tm 436 (by decide +kernel) rfl
theorem fs_mX6_127 : Cond.methodLink RX6 127 yX6_lowestBit ∈ fs_tbl := fs_tm 440 (by decide +kernel) rfl
theorem fs_mX6_229 : Cond.methodLink RX6 229 yJ6_bitCount_0f7a4 ∈ fs_tbl := fs_tm 443 (by decide +kernel) rfl
theorem fs_mX6_131 : Cond.methodLink RX6 131 yX6_ruleAt ∈ fs_tbl := fs_tm 449 (by decide +kernel) rfl
theorem fs_mL_41 : Cond.methodLink RL 41 yX6_wins ∈ fs_tbl := fs_tm 453 (by decide +kernel) rfl
theorem fs_mX6_134 : Cond.methodLink RX6 134 yX4_refresh ∈ fs_tbl := fs_tm 457 (by decide +kernel) rfl
theorem fs_mX4_46 : Cond.methodLink RX4 46 yX4_gatherRuns ∈ fs_tbl := fs_tm 461 (by decide +kernel) rfl
theorem fs_mX4_63 : Cond.methodLink RX4 63 yX2_ofNumber ∈ fs_tbl := fs_tm 466 (by decide +kernel) rfl
theorem fs_mX4_50 : Cond.methodLink RX4 50 yX2_all ∈ fs_tbl := fs_tm 467 (by decide +kernel) rfl
theorem fs_mX4_56 : Cond.methodLink RX4 56 yX4_sweep ∈ fs_tbl := fs_tm 468 (by decide +kernel) rfl
theorem fs_mX4_70 : Cond.methodLink RX4 70 yX4_tally ∈ fs_tbl := fs_tm 474 (by decide +kernel) rfl
theorem fs_mX4_78 : Cond.methodLink RX4 78 yX4_actionAt ∈ fs_tbl := fs_tm 479 (by decide +kernel) rfl
theorem fs_mL_45 : Cond.methodLink RL 45 yX6_overlap ∈ fs_tbl := fs_tm 483 (by decide +kernel) rfl
theorem fs_mX6_140 : Cond.methodLink RX6 140 yX3_shared ∈ fs_tbl := fs_tm 487 (by decide +kernel) rfl
theorem fs_mX3_48 : Cond.methodLink RX3 48 yJ9_max_7cf53 ∈ fs_tbl := fs_tm 491 (by decide +kernel) rfl
theorem fs_mX3_54 : Cond.methodLink RX3 54 yJ9_min_7cf53 ∈ fs_tbl := fs_tm 494 (by decide +kernel) rfl
theorem fs_mL_49 : Cond.methodLink RL 49 yX6_covered ∈ fs_tbl := fs_tm 497 (by decide +kernel) rfl
theorem fs_mX6_144 : Cond.methodLink RX6 144 yX3_coverOf ∈ fs_tbl := fs_tm 501 (by decide +kernel) rfl
theorem fs_mX3_57 : Cond.methodLink RX3 57 yX3_holds ∈ fs_tbl := fs_tm 505 (by decide +kernel) rfl
theorem fs_mL_53 : Cond.methodLink RL 53 yX6_idle ∈ fs_tbl := fs_tm 509 (by decide +kernel) rfl
theorem fs_mL_57 : Cond.methodLink RL 57 yX6_packets ∈ fs_tbl := fs_tm 513 (by decide +kernel) rfl
theorem fs_mX6_154 : Cond.methodLink RX6 154 yX4_wonByAction ∈ fs_tbl := fs_tm 517 (by decide +kernel) rfl
theorem fs_mL_61 : Cond.methodLink RL 61 yX6_split ∈ fs_tbl := fs_tm 521 (by decide +kernel) rfl
theorem fs_mX6_160 : Cond.methodLink RX6 160 yX3_prefixesOf ∈ fs_tbl := fs_tm 527 (by decide +kernel) rfl
theorem fs_mX3_67 : Cond.methodLink RX3 67 yX3_prefixesWithin ∈ fs_tbl := fs_tm 531 (by decide +kernel) rfl
theorem fs_mL_65 : Cond.methodLink RL 65 yX6_prefix ∈ fs_tbl := fs_tm 536 (by decide +kernel) rfl
theorem fs_mX6_163 : Cond.methodLink RX6 163 yX3_prefixValue ∈ fs_tbl := fs_tm 540 (by decide +kernel) rfl
theorem fs_mX3_63 : Cond.methodLink RX3 63 yX3_prefixLength ∈ fs_tbl := fs_tm 544 (by decide +kernel) rfl
theorem fs_mX6_166 : Cond.methodLink RX6 166 yX3_prefixLength ∈ fs_tbl := fs_tm 548 (by decide +kernel) rfl
theorem fs_mL_69 : Cond.methodLink RL 69 yX6_tuple ∈ fs_tbl := fs_tm 549 (by decide +kernel) rfl
theorem fs_mX6_169 : Cond.methodLink RX6 169 yX5_refresh ∈ fs_tbl := fs_tm 553 (by decide +kernel) rfl
theorem fs_mX5_59 : Cond.methodLink RX5 59 yJ7_fill_53178 ∈ fs_tbl := fs_tm 557 (by decide +kernel) rfl
theorem fs_mX5_71 : Cond.methodLink RX5 71 yX5_countPieces ∈ fs_tbl := fs_tm 560 (by decide +kernel) rfl
theorem fs_mX5_82 : Cond.methodLink RX5 82 yX3_prefixesOf ∈ fs_tbl := fs_tm 565 (by decide +kernel) rfl
theorem fs_mX5_75 : Cond.methodLink RX5 75 yX5_enter ∈ fs_tbl := fs_tm 566 (by decide +kernel) rfl
theorem fs_mX5_86 : Cond.methodLink RX5 86 yX5_put ∈ fs_tbl := fs_tm 570 (by decide +kernel) rfl
theorem fs_mX6_180 : Cond.methodLink RX6 180 yX5_lengthIn ∈ fs_tbl := fs_tm 576 (by decide +kernel) rfl
theorem fs_mL_73 : Cond.methodLink RL 73 yX6_probe ∈ fs_tbl := fs_tm 582 (by decide +kernel) rfl
theorem fs_mX6_183 : Cond.methodLink RX6 183 yX5_search ∈ fs_tbl := fs_tm 586 (by decide +kernel) rfl
theorem fs_mX5_90 : Cond.methodLink RX5 90 yX5_packetKey ∈ fs_tbl := fs_tm 590 (by decide +kernel) rfl
theorem fs_mX5_98 : Cond.methodLink RX5 98 yX3_takes ∈ fs_tbl := fs_tm 594 (by decide +kernel) rfl
theorem fs_mX5_102 : Cond.methodLink RX5 102 yX3_prefixLength ∈ fs_tbl := fs_tm 598 (by decide +kernel) rfl
theorem fs_mX5_94 : Cond.methodLink RX5 94 yX5_firstWithKey ∈ fs_tbl := fs_tm 599 (by decide +kernel) rfl
theorem fs_mL_78 : Cond.methodLink RL 78 yX6_grow ∈ fs_tbl := fs_tm 603 (by decide +kernel) rfl
theorem fs_mL_82 : Cond.methodLink RL 82 yX6_tree ∈ fs_tbl := fs_tm 607 (by decide +kernel) rfl
theorem fs_mX6_199 : Cond.methodLink RX6 199 yX0_measure ∈ fs_tbl := fs_tm 611 (by decide +kernel) rfl
theorem fs_mX0_50 : Cond.methodLink RX0 50 yJ7_fill_53178 ∈ fs_tbl := fs_tm 615 (by decide +kernel) rfl
theorem fs_mX0_56 : Cond.methodLink RX0 56 yX2_all ∈ fs_tbl := fs_tm 616 (by decide +kernel) rfl
theorem fs_mX0_62 : Cond.methodLink RX0 62 yX0_visit ∈ fs_tbl := fs_tm 617 (by decide +kernel) rfl
theorem fs_mX0_66 : Cond.methodLink RX0 66 yJ9_max_7cf53 ∈ fs_tbl := fs_tm 621 (by decide +kernel) rfl
theorem fs_mX0_72 : Cond.methodLink RX0 72 yX0_cutField ∈ fs_tbl := fs_tm 622 (by decide +kernel) rfl
theorem fs_mX0_75 : Cond.methodLink RX0 75 yJ6_bitCount_0f7a4 ∈ fs_tbl := fs_tm 626 (by decide +kernel) rfl
theorem fs_mX0_81 : Cond.methodLink RX0 81 yX0_addLeaf ∈ fs_tbl := fs_tm 628 (by decide +kernel) rfl
theorem fs_mL_86 : Cond.methodLink RL 86 yX6_walk ∈ fs_tbl := fs_tm 632 (by decide +kernel) rfl
theorem fs_mX6_220 : Cond.methodLink RX6 220 yX0_descend ∈ fs_tbl := fs_tm 636 (by decide +kernel) rfl
theorem fs_mX6_234 : Cond.methodLink RX6 234 yX6_lookedAt ∈ fs_tbl := fs_tm 641 (by decide +kernel) rfl
theorem fs_mL_90 : Cond.methodLink RL 90 yX6_image ∈ fs_tbl := fs_tm 644 (by decide +kernel) rfl
theorem fs_mX6_238 : Cond.methodLink RX6 238 yX3_copyFrom ∈ fs_tbl := fs_tm 648 (by decide +kernel) rfl
theorem fs_mL_94 : Cond.methodLink RL 94 yX6_restore ∈ fs_tbl := fs_tm 652 (by decide +kernel) rfl
theorem fs_mL_98 : Cond.methodLink RL 98 yX6_count ∈ fs_tbl := fs_tm 656 (by decide +kernel) rfl
theorem fs_mX6_247 : Cond.methodLink RX6 247 yX6_countTuples ∈ fs_tbl := fs_tm 660 (by decide +kernel) rfl
theorem fs_mX6_251 : Cond.methodLink RX6 251 yX6_countEntries ∈ fs_tbl := fs_tm 664 (by decide +kernel) rfl
theorem fs_mX6_254 : Cond.methodLink RX6 254 yX6_countIdle ∈ fs_tbl := fs_tm 668 (by decide +kernel) rfl
theorem fs_mX6_257 : Cond.methodLink RX6 257 yX6_countCovered ∈ fs_tbl := fs_tm 672 (by decide +kernel) rfl
theorem fs_mX6_260 : Cond.methodLink RX6 260 yX6_keptImages ∈ fs_tbl := fs_tm 676 (by decide +kernel) rfl
theorem fs_mL_12 : Cond.methodLink RL 12 yX7_init ∈ fs_tbl := fs_tm 682 (by decide +kernel) rfl
theorem fs_mX7_93 : Cond.methodLink RX7 93 yX7_clearDraft ∈ fs_tbl := fs_tm 686 (by decide +kernel) rfl
theorem fs_mX7_124 : Cond.methodLink RX7 124 yX7_most ∈ fs_tbl := fs_tm 690 (by decide +kernel) rfl
theorem fs_mX7_96 : Cond.methodLink RX7 96 yX7_width ∈ fs_tbl := fs_tm 693 (by decide +kernel) rfl
theorem fs_mL_17 : Cond.methodLink RL 17 yX7_draft ∈ fs_tbl := fs_tm 799 (by decide +kernel) rfl
theorem fs_mX7_127 : Cond.methodLink RX7 127 yX7_isField ∈ fs_tbl := fs_tm 803 (by decide +kernel) rfl
theorem fs_mX7_100 : Cond.methodLink RX7 100 yX7_in ∈ fs_tbl := fs_tm 806 (by decide +kernel) rfl
theorem fs_mL_22 : Cond.methodLink RL 22 yX7_rule ∈ fs_tbl := fs_tm 809 (by decide +kernel) rfl
theorem fs_mX7_131 : Cond.methodLink RX7 131 yX7_change ∈ fs_tbl := fs_tm 813 (by decide +kernel) rfl
theorem fs_mL_27 : Cond.methodLink RL 27 yX7_drop ∈ fs_tbl := fs_tm 817 (by decide +kernel) rfl
theorem fs_mX7_134 : Cond.methodLink RX7 134 yX7_isRule ∈ fs_tbl := fs_tm 821 (by decide +kernel) rfl
theorem fs_mL_31 : Cond.methodLink RL 31 yX7_rank ∈ fs_tbl := fs_tm 825 (by decide +kernel) rfl
theorem fs_mX7_140 : Cond.methodLink RX7 140 yX7_aheadOf ∈ fs_tbl := fs_tm 829 (by decide +kernel) rfl
theorem fs_mX7_137 : Cond.methodLink RX7 137 yX7_isAhead ∈ fs_tbl := fs_tm 833 (by decide +kernel) rfl
theorem fs_mL_35 : Cond.methodLink RL 35 yX7_told ∈ fs_tbl := fs_tm 837 (by decide +kernel) rfl
theorem fs_mL_40 : Cond.methodLink RL 40 yX7_first ∈ fs_tbl := fs_tm 841 (by decide +kernel) rfl
theorem fs_mX7_150 : Cond.methodLink RX7 150 yX7_isPacket ∈ fs_tbl := fs_tm 845 (by decide +kernel) rfl
theorem fs_mX7_154 : Cond.methodLink RX7 154 yX7_fitting ∈ fs_tbl := fs_tm 848 (by decide +kernel) rfl
theorem fs_mX7_147 : Cond.methodLink RX7 147 yX7_order ∈ fs_tbl := fs_tm 852 (by decide +kernel) rfl
theorem fs_mX7_143 : Cond.methodLink RX7 143 yX7_takersOf ∈ fs_tbl := fs_tm 856 (by decide +kernel) rfl
theorem fs_mX7_158 : Cond.methodLink RX7 158 yX7_lowest ∈ fs_tbl := fs_tm 860 (by decide +kernel) rfl
theorem fs_mX7_107 : Cond.methodLink RX7 107 yX7_has ∈ fs_tbl := fs_tm 863 (by decide +kernel) rfl
theorem fs_mL_44 : Cond.methodLink RL 44 yX7_wins ∈ fs_tbl := fs_tm 866 (by decide +kernel) rfl
theorem fs_mX7_168 : Cond.methodLink RX7 168 yX7_sweep ∈ fs_tbl := fs_tm 870 (by decide +kernel) rfl
theorem fs_mX7_161 : Cond.methodLink RX7 161 yX7_layStretches ∈ fs_tbl := fs_tm 874 (by decide +kernel) rfl
theorem fs_mX7_164 : Cond.methodLink RX7 164 yX7_meet ∈ fs_tbl := fs_tm 878 (by decide +kernel) rfl
theorem fs_mL_48 : Cond.methodLink RL 48 yX7_overlap ∈ fs_tbl := fs_tm 882 (by decide +kernel) rfl
theorem fs_mL_52 : Cond.methodLink RL 52 yX7_covered ∈ fs_tbl := fs_tm 886 (by decide +kernel) rfl
theorem fs_mX7_174 : Cond.methodLink RX7 174 yX7_coverOf ∈ fs_tbl := fs_tm 890 (by decide +kernel) rfl
theorem fs_mX7_171 : Cond.methodLink RX7 171 yX7_isWithin ∈ fs_tbl := fs_tm 894 (by decide +kernel) rfl
theorem fs_mL_56 : Cond.methodLink RL 56 yX7_idle ∈ fs_tbl := fs_tm 898 (by decide +kernel) rfl
theorem fs_mL_60 : Cond.methodLink RL 60 yX7_packets ∈ fs_tbl := fs_tm 902 (by decide +kernel) rfl
theorem fs_mL_64 : Cond.methodLink RL 64 yX7_split ∈ fs_tbl := fs_tm 906 (by decide +kernel) rfl
theorem fs_mX7_183 : Cond.methodLink RX7 183 yX7_prefixes ∈ fs_tbl := fs_tm 910 (by decide +kernel) rfl
theorem fs_mX7_180 : Cond.methodLink RX7 180 yX7_valueOf ∈ fs_tbl := fs_tm 914 (by decide +kernel) rfl
theorem fs_mX7_177 : Cond.methodLink RX7 177 yX7_lengthAt ∈ fs_tbl := fs_tm 918 (by decide +kernel) rfl
theorem fs_mL_68 : Cond.methodLink RL 68 yX7_prefix ∈ fs_tbl := fs_tm 921 (by decide +kernel) rfl
theorem fs_mL_72 : Cond.methodLink RL 72 yX7_tuple ∈ fs_tbl := fs_tm 925 (by decide +kernel) rfl
theorem fs_mX7_202 : Cond.methodLink RX7 202 yX7_listTuples ∈ fs_tbl := fs_tm 929 (by decide +kernel) rfl
theorem fs_mX7_193 : Cond.methodLink RX7 193 yX7_ofLength ∈ fs_tbl := fs_tm 933 (by decide +kernel) rfl
theorem fs_mX7_196 : Cond.methodLink RX7 196 yX7_membersOf ∈ fs_tbl := fs_tm 937 (by decide +kernel) rfl
theorem fs_mX7_190 : Cond.methodLink RX7 190 yX7_entriesOf ∈ fs_tbl := fs_tm 941 (by decide +kernel) rfl
theorem fs_mX7_187 : Cond.methodLink RX7 187 yX7_lengthIn ∈ fs_tbl := fs_tm 945 (by decide +kernel) rfl
theorem fs_mX7_205 : Cond.methodLink RX7 205 yX7_entries ∈ fs_tbl := fs_tm 948 (by decide +kernel) rfl
theorem fs_mX7_208 : Cond.methodLink RX7 208 yX7_bits ∈ fs_tbl := fs_tm 952 (by decide +kernel) rfl
theorem fs_mL_77 : Cond.methodLink RL 77 yX7_probe ∈ fs_tbl := fs_tm 955 (by decide +kernel) rfl
theorem fs_mX7_214 : Cond.methodLink RX7 214 yX7_codeOf ∈ fs_tbl := fs_tm 959 (by decide +kernel) rfl
theorem fs_mX7_211 : Cond.methodLink RX7 211 yX7_lengthOf ∈ fs_tbl := fs_tm 963 (by decide +kernel) rfl
theorem fs_mL_81 : Cond.methodLink RL 81 yX7_grow ∈ fs_tbl := fs_tm 967 (by decide +kernel) rfl
theorem fs_mL_85 : Cond.methodLink RL 85 yX7_tree ∈ fs_tbl := fs_tm 971 (by decide +kernel) rfl
theorem fs_mX7_231 : Cond.methodLink RX7 231 yX7_growTree ∈ fs_tbl := fs_tm 975 (by decide +kernel) rfl
theorem fs_mX7_224 : Cond.methodLink RX7 224 yX7_cutOf ∈ fs_tbl := fs_tm 979 (by decide +kernel) rfl
theorem fs_mX7_218 : Cond.methodLink RX7 218 yX7_halved ∈ fs_tbl := fs_tm 983 (by decide +kernel) rfl
theorem fs_mX7_227 : Cond.methodLink RX7 227 yX7_addBelow ∈ fs_tbl := fs_tm 987 (by decide +kernel) rfl
theorem fs_mL_89 : Cond.methodLink RL 89 yX7_walk ∈ fs_tbl := fs_tm 991 (by decide +kernel) rfl
theorem fs_mX7_234 : Cond.methodLink RX7 234 yX7_looked ∈ fs_tbl := fs_tm 995 (by decide +kernel) rfl
theorem fs_mL_93 : Cond.methodLink RL 93 yX7_image ∈ fs_tbl := fs_tm 999 (by decide +kernel) rfl
theorem fs_mL_97 : Cond.methodLink RL 97 yX7_restore ∈ fs_tbl := fs_tm 1003 (by decide +kernel) rfl
theorem fs_mL_101 : Cond.methodLink RL 101 yX7_count ∈ fs_tbl := fs_tm 1007 (by decide +kernel) rfl
theorem fs_mX7_237 : Cond.methodLink RX7 237 yX7_allEntries ∈ fs_tbl := fs_tm 1011 (by decide +kernel) rfl
theorem fs_mX7_241 : Cond.methodLink RX7 241 yX7_idleOnes ∈ fs_tbl := fs_tm 1015 (by decide +kernel) rfl
theorem fs_mX7_244 : Cond.methodLink RX7 244 yX7_coveredOnes ∈ fs_tbl := fs_tm 1019 (by decide +kernel) rfl
