theorem fs_nX6_9 : Cond.methodLinkNest RX6 9 yX3_init "FieldSorter" ∈ fs_nest := List.mem_of_getElem? (i := 0) (by decide +kernel)
theorem fs_nX6_56 : Cond.methodLinkNest RX6 56 yX1_init "FieldSorter" ∈ fs_nest := List.mem_of_getElem? (i := 1) (by decide +kernel)
theorem fs_nX1_22 : Cond.methodLinkNest RX1 22 yX3_init "FieldSorter" ∈ fs_nest := List.mem_of_getElem? (i := 2) (by decide +kernel)
theorem fs_nX2_24 : Cond.fieldLinkNest RX2 24 "FieldSorter" "GREATEST" "[I" "FieldSorter" ∈ fs_nest := List.mem_of_getElem? (i := 3) (by decide +kernel)
theorem fs_nX4_60 : Cond.fieldLinkNest RX4 60 "FieldSorter" "GREATEST" "[I" "FieldSorter" ∈ fs_nest := List.mem_of_getElem? (i := 4) (by decide +kernel)
theorem fs_nX4_74 : Cond.methodLinkNest RX4 74 yX6_lowestBit "FieldSorter" ∈ fs_nest := List.mem_of_getElem? (i := 5) (by decide +kernel)
theorem fs_nX3_60 : Cond.fieldLinkNest RX3 60 "FieldSorter" "WIDTH" "[I" "FieldSorter" ∈ fs_nest := List.mem_of_getElem? (i := 6) (by decide +kernel)
theorem fs_nX5_79 : Cond.fieldLinkNest RX5 79 "FieldSorter" "WIDTH" "[I" "FieldSorter" ∈ fs_nest := List.mem_of_getElem? (i := 7) (by decide +kernel)
theorem fs_nX0_89 : Cond.fieldLinkNest RX0 89 "FieldSorter" "GREATEST" "[I" "FieldSorter" ∈ fs_nest := List.mem_of_getElem? (i := 8) (by decide +kernel)
theorem fs_nX0_92 : Cond.fieldLinkNest RX0 92 "FieldSorter" "WIDTH" "[I" "FieldSorter" ∈ fs_nest := List.mem_of_getElem? (i := 9) (by decide +kernel)
theorem fs_iniMath : Cond.initialized "java/lang/Math" ∈ fs_tbl := fs_tm 67 (by decide +kernel) rfl
theorem fs_cdmax : Cond.code Lib.Math.max.name Lib.Math.max.code 2 (some .int) ∈ fs_tbl := fs_tm 493 (by decide +kernel) rfl
theorem fs_cdmin : Cond.code Lib.Math.min.name Lib.Math.min.code 2 (some .int) ∈ fs_tbl := fs_tm 496 (by decide +kernel) rfl
