theorem dX3_has_4 : decode cX3_has 4 = .ok (.iload_n 1, 1) := by decide +kernel
theorem dX3_has_5 : decode cX3_has 5 = .ok (.aload_n 0, 1) := by decide +kernel
theorem dX3_has_6 : decode cX3_has 6 = .ok (.getfield 9, 3) := by decide +kernel
theorem dX3_has_9 : decode cX3_has 9 = .ok (.if_icmp .ge 7, 3) := by decide +kernel
theorem dX3_has_12 : decode cX3_has 12 = .ok (.iconst 1, 1) := by decide +kernel
theorem dX3_has_13 : decode cX3_has 13 = .ok (.goto 4, 3) := by decide +kernel
theorem dX3_has_16 : decode cX3_has 16 = .ok (.iconst 0, 1) := by decide +kernel
theorem dX3_has_17 : decode cX3_has 17 = .ok (.ireturn, 1) := by decide +kernel
theorem dX3_add_0 : decode cX3_add 0 = .ok (.aload_n 0, 1) := by decide +kernel
theorem dX3_add_1 : decode cX3_add 1 = .ok (.getfield 9, 3) := by decide +kernel
theorem dX3_add_4 : decode cX3_add 4 = .ok (.bipush 16, 2) := by decide +kernel
theorem dX3_add_6 : decode cX3_add 6 = .ok (.if_icmp .lt 4, 3) := by decide +kernel
theorem dX3_add_9 : decode cX3_add 9 = .ok (.return_, 1) := by decide +kernel
theorem dX3_add_10 : decode cX3_add 10 = .ok (.iconst 0, 1) := by decide +kernel
theorem dX3_add_11 : decode cX3_add 11 = .ok (.istore 5, 2) := by decide +kernel
theorem dX3_add_13 : decode cX3_add 13 = .ok (.iload 5, 2) := by decide +kernel
theorem dX3_add_15 : decode cX3_add 15 = .ok (.iconst 4, 1) := by decide +kernel
theorem dX3_add_16 : decode cX3_add 16 = .ok (.if_icmp .ge 41, 3) := by decide +kernel
theorem dX3_add_19 : decode cX3_add 19 = .ok (.aload_n 0, 1) := by decide +kernel
theorem dX3_add_20 : decode cX3_add 20 = .ok (.getfield 17, 3) := by decide +kernel
theorem dX3_add_23 : decode cX3_add 23 = .ok (.iload 5, 2) := by decide +kernel
theorem dX3_add_25 : decode cX3_add 25 = .ok (.aaload, 1) := by decide +kernel
theorem dX3_add_26 : decode cX3_add 26 = .ok (.aload_n 0, 1) := by decide +kernel
theorem dX3_add_27 : decode cX3_add 27 = .ok (.getfield 9, 3) := by decide +kernel
theorem dX3_add_30 : decode cX3_add 30 = .ok (.aload_n 1, 1) := by decide +kernel
theorem dX3_add_31 : decode cX3_add 31 = .ok (.iload 5, 2) := by decide +kernel
theorem dX3_add_33 : decode cX3_add 33 = .ok (.iaload, 1) := by decide +kernel
theorem dX3_add_34 : decode cX3_add 34 = .ok (.iastore, 1) := by decide +kernel
theorem dX3_add_35 : decode cX3_add 35 = .ok (.aload_n 0, 1) := by decide +kernel
theorem dX3_add_36 : decode cX3_add 36 = .ok (.getfield 20, 3) := by decide +kernel
theorem dX3_add_39 : decode cX3_add 39 = .ok (.iload 5, 2) := by decide +kernel
theorem dX3_add_41 : decode cX3_add 41 = .ok (.aaload, 1) := by decide +kernel
theorem dX3_add_42 : decode cX3_add 42 = .ok (.aload_n 0, 1) := by decide +kernel
theorem dX3_add_43 : decode cX3_add 43 = .ok (.getfield 9, 3) := by decide +kernel
theorem dX3_add_46 : decode cX3_add 46 = .ok (.aload_n 2, 1) := by decide +kernel
theorem dX3_add_47 : decode cX3_add 47 = .ok (.iload 5, 2) := by decide +kernel
theorem dX3_add_49 : decode cX3_add 49 = .ok (.iaload, 1) := by decide +kernel
theorem dX3_add_50 : decode cX3_add 50 = .ok (.iastore, 1) := by decide +kernel
theorem dX3_add_51 : decode cX3_add 51 = .ok (.iinc 5 1, 3) := by decide +kernel
theorem dX3_add_54 : decode cX3_add 54 = .ok (.goto (-41), 3) := by decide +kernel
theorem dX3_add_57 : decode cX3_add 57 = .ok (.aload_n 0, 1) := by decide +kernel
theorem dX3_add_58 : decode cX3_add 58 = .ok (.getfield 23, 3) := by decide +kernel
theorem dX3_add_61 : decode cX3_add 61 = .ok (.aload_n 0, 1) := by decide +kernel
theorem dX3_add_62 : decode cX3_add 62 = .ok (.getfield 9, 3) := by decide +kernel
theorem dX3_add_65 : decode cX3_add 65 = .ok (.iload_n 3, 1) := by decide +kernel
theorem dX3_add_66 : decode cX3_add 66 = .ok (.iastore, 1) := by decide +kernel
theorem dX3_add_67 : decode cX3_add 67 = .ok (.aload_n 0, 1) := by decide +kernel
theorem dX3_add_68 : decode cX3_add 68 = .ok (.getfield 27, 3) := by decide +kernel
theorem dX3_add_71 : decode cX3_add 71 = .ok (.aload_n 0, 1) := by decide +kernel
theorem dX3_add_72 : decode cX3_add 72 = .ok (.getfield 9, 3) := by decide +kernel
theorem dX3_add_75 : decode cX3_add 75 = .ok (.iload 4, 2) := by decide +kernel
theorem dX3_add_77 : decode cX3_add 77 = .ok (.iastore, 1) := by decide +kernel
theorem dX3_add_78 : decode cX3_add 78 = .ok (.aload_n 0, 1) := by decide +kernel
theorem dX3_add_79 : decode cX3_add 79 = .ok (.dup, 1) := by decide +kernel
theorem dX3_add_80 : decode cX3_add 80 = .ok (.getfield 9, 3) := by decide +kernel
theorem dX3_add_83 : decode cX3_add 83 = .ok (.iconst 1, 1) := by decide +kernel
theorem dX3_add_84 : decode cX3_add 84 = .ok (.iadd, 1) := by decide +kernel
theorem dX3_add_85 : decode cX3_add 85 = .ok (.putfield 9, 3) := by decide +kernel
theorem dX3_add_88 : decode cX3_add 88 = .ok (.return_, 1) := by decide +kernel
theorem dX3_remove_0 : decode cX3_remove 0 = .ok (.aload_n 0, 1) := by decide +kernel
theorem dX3_remove_1 : decode cX3_remove 1 = .ok (.iload_n 1, 1) := by decide +kernel
theorem dX3_remove_2 : decode cX3_remove 2 = .ok (.invokevirtual 36, 3) := by decide +kernel
theorem dX3_remove_5 : decode cX3_remove 5 = .ok (.ifCond .ne 4, 3) := by decide +kernel
theorem dX3_remove_8 : decode cX3_remove 8 = .ok (.return_, 1) := by decide +kernel
theorem dX3_remove_9 : decode cX3_remove 9 = .ok (.iload_n 1, 1) := by decide +kernel
theorem dX3_remove_10 : decode cX3_remove 10 = .ok (.istore_n 2, 1) := by decide +kernel
theorem dX3_remove_11 : decode cX3_remove 11 = .ok (.iload_n 2, 1) := by decide +kernel
theorem dX3_remove_12 : decode cX3_remove 12 = .ok (.iconst 1, 1) := by decide +kernel
theorem dX3_remove_13 : decode cX3_remove 13 = .ok (.iadd, 1) := by decide +kernel
theorem dX3_remove_14 : decode cX3_remove 14 = .ok (.aload_n 0, 1) := by decide +kernel
theorem dX3_remove_15 : decode cX3_remove 15 = .ok (.getfield 9, 3) := by decide +kernel
theorem dX3_remove_18 : decode cX3_remove 18 = .ok (.if_icmp .ge 18, 3) := by decide +kernel
theorem dX3_remove_21 : decode cX3_remove 21 = .ok (.aload_n 0, 1) := by decide +kernel
theorem dX3_remove_22 : decode cX3_remove 22 = .ok (.aload_n 0, 1) := by decide +kernel
theorem dX3_remove_23 : decode cX3_remove 23 = .ok (.iload_n 2, 1) := by decide +kernel
theorem dX3_remove_24 : decode cX3_remove 24 = .ok (.iconst 1, 1) := by decide +kernel
theorem dX3_remove_25 : decode cX3_remove 25 = .ok (.iadd, 1) := by decide +kernel
theorem dX3_remove_26 : decode cX3_remove 26 = .ok (.iload_n 2, 1) := by decide +kernel
theorem dX3_remove_27 : decode cX3_remove 27 = .ok (.invokevirtual 40, 3) := by decide +kernel
theorem dX3_remove_30 : decode cX3_remove 30 = .ok (.iinc 2 1, 3) := by decide +kernel
theorem dX3_remove_33 : decode cX3_remove 33 = .ok (.goto (-22), 3) := by decide +kernel
theorem dX3_remove_36 : decode cX3_remove 36 = .ok (.aload_n 0, 1) := by decide +kernel
theorem dX3_remove_37 : decode cX3_remove 37 = .ok (.dup, 1) := by decide +kernel
theorem dX3_remove_38 : decode cX3_remove 38 = .ok (.getfield 9, 3) := by decide +kernel
theorem dX3_remove_41 : decode cX3_remove 41 = .ok (.iconst 1, 1) := by decide +kernel
theorem dX3_remove_42 : decode cX3_remove 42 = .ok (.isub, 1) := by decide +kernel
theorem dX3_remove_43 : decode cX3_remove 43 = .ok (.putfield 9, 3) := by decide +kernel
theorem dX3_remove_46 : decode cX3_remove 46 = .ok (.return_, 1) := by decide +kernel
theorem dX3_copyFrom_0 : decode cX3_copyFrom 0 = .ok (.aload_n 0, 1) := by decide +kernel
theorem dX3_copyFrom_1 : decode cX3_copyFrom 1 = .ok (.aload_n 1, 1) := by decide +kernel
theorem dX3_copyFrom_2 : decode cX3_copyFrom 2 = .ok (.getfield 9, 3) := by decide +kernel
theorem dX3_copyFrom_5 : decode cX3_copyFrom 5 = .ok (.putfield 9, 3) := by decide +kernel
theorem dX3_copyFrom_8 : decode cX3_copyFrom 8 = .ok (.iconst 0, 1) := by decide +kernel
theorem dX3_copyFrom_9 : decode cX3_copyFrom 9 = .ok (.istore_n 2, 1) := by decide +kernel
theorem dX3_copyFrom_10 : decode cX3_copyFrom 10 = .ok (.iload_n 2, 1) := by decide +kernel
theorem dX3_copyFrom_11 : decode cX3_copyFrom 11 = .ok (.aload_n 0, 1) := by decide +kernel
theorem dX3_copyFrom_12 : decode cX3_copyFrom 12 = .ok (.getfield 9, 3) := by decide +kernel
theorem dX3_copyFrom_15 : decode cX3_copyFrom 15 = .ok (.if_icmp .ge 16, 3) := by decide +kernel
theorem dX3_copyFrom_18 : decode cX3_copyFrom 18 = .ok (.aload_n 0, 1) := by decide +kernel
theorem dX3_copyFrom_19 : decode cX3_copyFrom 19 = .ok (.aload_n 1, 1) := by decide +kernel
theorem dX3_copyFrom_20 : decode cX3_copyFrom 20 = .ok (.iload_n 2, 1) := by decide +kernel
theorem dX3_copyFrom_21 : decode cX3_copyFrom 21 = .ok (.iload_n 2, 1) := by decide +kernel
theorem dX3_copyFrom_22 : decode cX3_copyFrom 22 = .ok (.invokevirtual 40, 3) := by decide +kernel
theorem dX3_copyFrom_25 : decode cX3_copyFrom 25 = .ok (.iinc 2 1, 3) := by decide +kernel
theorem dX3_copyFrom_28 : decode cX3_copyFrom 28 = .ok (.goto (-18), 3) := by decide +kernel
theorem dX3_copyFrom_31 : decode cX3_copyFrom 31 = .ok (.return_, 1) := by decide +kernel
theorem dX3_copyRule_0 : decode cX3_copyRule 0 = .ok (.iconst 0, 1) := by decide +kernel
theorem dX3_copyRule_1 : decode cX3_copyRule 1 = .ok (.istore 4, 2) := by decide +kernel
theorem dX3_copyRule_3 : decode cX3_copyRule 3 = .ok (.iload 4, 2) := by decide +kernel
theorem dX3_copyRule_5 : decode cX3_copyRule 5 = .ok (.iconst 4, 1) := by decide +kernel
theorem dX3_copyRule_6 : decode cX3_copyRule 6 = .ok (.if_icmp .ge 45, 3) := by decide +kernel
theorem dX3_copyRule_9 : decode cX3_copyRule 9 = .ok (.aload_n 0, 1) := by decide +kernel
theorem dX3_copyRule_10 : decode cX3_copyRule 10 = .ok (.getfield 17, 3) := by decide +kernel
theorem dX3_copyRule_13 : decode cX3_copyRule 13 = .ok (.iload 4, 2) := by decide +kernel
theorem dX3_copyRule_15 : decode cX3_copyRule 15 = .ok (.aaload, 1) := by decide +kernel
theorem dX3_copyRule_16 : decode cX3_copyRule 16 = .ok (.iload_n 3, 1) := by decide +kernel
theorem dX3_copyRule_17 : decode cX3_copyRule 17 = .ok (.aload_n 1, 1) := by decide +kernel
theorem dX3_copyRule_18 : decode cX3_copyRule 18 = .ok (.getfield 17, 3) := by decide +kernel
theorem dX3_copyRule_21 : decode cX3_copyRule 21 = .ok (.iload 4, 2) := by decide +kernel
theorem dX3_copyRule_23 : decode cX3_copyRule 23 = .ok (.aaload, 1) := by decide +kernel
theorem dX3_copyRule_24 : decode cX3_copyRule 24 = .ok (.iload_n 2, 1) := by decide +kernel
theorem dX3_copyRule_25 : decode cX3_copyRule 25 = .ok (.iaload, 1) := by decide +kernel
theorem dX3_copyRule_26 : decode cX3_copyRule 26 = .ok (.iastore, 1) := by decide +kernel
theorem dX3_copyRule_27 : decode cX3_copyRule 27 = .ok (.aload_n 0, 1) := by decide +kernel
theorem dX3_copyRule_28 : decode cX3_copyRule 28 = .ok (.getfield 20, 3) := by decide +kernel
theorem dX3_copyRule_31 : decode cX3_copyRule 31 = .ok (.iload 4, 2) := by decide +kernel
theorem dX3_copyRule_33 : decode cX3_copyRule 33 = .ok (.aaload, 1) := by decide +kernel
theorem dX3_copyRule_34 : decode cX3_copyRule 34 = .ok (.iload_n 3, 1) := by decide +kernel
theorem dX3_copyRule_35 : decode cX3_copyRule 35 = .ok (.aload_n 1, 1) := by decide +kernel
theorem dX3_copyRule_36 : decode cX3_copyRule 36 = .ok (.getfield 20, 3) := by decide +kernel
theorem dX3_copyRule_39 : decode cX3_copyRule 39 = .ok (.iload 4, 2) := by decide +kernel
theorem dX3_copyRule_41 : decode cX3_copyRule 41 = .ok (.aaload, 1) := by decide +kernel
theorem dX3_copyRule_42 : decode cX3_copyRule 42 = .ok (.iload_n 2, 1) := by decide +kernel
theorem dX3_copyRule_43 : decode cX3_copyRule 43 = .ok (.iaload, 1) := by decide +kernel
theorem dX3_copyRule_44 : decode cX3_copyRule 44 = .ok (.iastore, 1) := by decide +kernel
theorem dX3_copyRule_45 : decode cX3_copyRule 45 = .ok (.iinc 4 1, 3) := by decide +kernel
theorem dX3_copyRule_48 : decode cX3_copyRule 48 = .ok (.goto (-45), 3) := by decide +kernel
theorem dX3_copyRule_51 : decode cX3_copyRule 51 = .ok (.aload_n 0, 1) := by decide +kernel
theorem dX3_copyRule_52 : decode cX3_copyRule 52 = .ok (.getfield 23, 3) := by decide +kernel
theorem dX3_copyRule_55 : decode cX3_copyRule 55 = .ok (.iload_n 3, 1) := by decide +kernel
theorem dX3_copyRule_56 : decode cX3_copyRule 56 = .ok (.aload_n 1, 1) := by decide +kernel
theorem dX3_copyRule_57 : decode cX3_copyRule 57 = .ok (.getfield 23, 3) := by decide +kernel
theorem dX3_copyRule_60 : decode cX3_copyRule 60 = .ok (.iload_n 2, 1) := by decide +kernel
theorem dX3_copyRule_61 : decode cX3_copyRule 61 = .ok (.iaload, 1) := by decide +kernel
theorem dX3_copyRule_62 : decode cX3_copyRule 62 = .ok (.iastore, 1) := by decide +kernel
theorem dX3_copyRule_63 : decode cX3_copyRule 63 = .ok (.aload_n 0, 1) := by decide +kernel
theorem dX3_copyRule_64 : decode cX3_copyRule 64 = .ok (.getfield 27, 3) := by decide +kernel
theorem dX3_copyRule_67 : decode cX3_copyRule 67 = .ok (.iload_n 3, 1) := by decide +kernel
theorem dX3_copyRule_68 : decode cX3_copyRule 68 = .ok (.aload_n 1, 1) := by decide +kernel
theorem dX3_copyRule_69 : decode cX3_copyRule 69 = .ok (.getfield 27, 3) := by decide +kernel
theorem dX3_copyRule_72 : decode cX3_copyRule 72 = .ok (.iload_n 2, 1) := by decide +kernel
theorem dX3_copyRule_73 : decode cX3_copyRule 73 = .ok (.iaload, 1) := by decide +kernel
theorem dX3_copyRule_74 : decode cX3_copyRule 74 = .ok (.iastore, 1) := by decide +kernel
theorem dX3_copyRule_75 : decode cX3_copyRule 75 = .ok (.return_, 1) := by decide +kernel
theorem dX3_sort_0 : decode cX3_sort 0 = .ok (.iconst 0, 1) := by decide +kernel
theorem dX3_sort_1 : decode cX3_sort 1 = .ok (.istore_n 1, 1) := by decide +kernel
theorem dX3_sort_2 : decode cX3_sort 2 = .ok (.iload_n 1, 1) := by decide +kernel
theorem dX3_sort_3 : decode cX3_sort 3 = .ok (.aload_n 0, 1) := by decide +kernel
theorem dX3_sort_4 : decode cX3_sort 4 = .ok (.getfield 9, 3) := by decide +kernel
theorem dX3_sort_7 : decode cX3_sort 7 = .ok (.if_icmp .ge 53, 3) := by decide +kernel
theorem dX3_sort_10 : decode cX3_sort 10 = .ok (.iconst 0, 1) := by decide +kernel
theorem dX3_sort_11 : decode cX3_sort 11 = .ok (.istore_n 2, 1) := by decide +kernel
theorem dX3_sort_12 : decode cX3_sort 12 = .ok (.iconst 0, 1) := by decide +kernel
theorem dX3_sort_13 : decode cX3_sort 13 = .ok (.istore_n 3, 1) := by decide +kernel
theorem dX3_sort_14 : decode cX3_sort 14 = .ok (.iload_n 3, 1) := by decide +kernel
theorem dX3_sort_15 : decode cX3_sort 15 = .ok (.aload_n 0, 1) := by decide +kernel
theorem dX3_sort_16 : decode cX3_sort 16 = .ok (.getfield 9, 3) := by decide +kernel
theorem dX3_sort_19 : decode cX3_sort 19 = .ok (.if_icmp .ge 21, 3) := by decide +kernel
theorem dX3_sort_22 : decode cX3_sort 22 = .ok (.aload_n 0, 1) := by decide +kernel
theorem dX3_sort_23 : decode cX3_sort 23 = .ok (.iload_n 3, 1) := by decide +kernel
theorem dX3_sort_24 : decode cX3_sort 24 = .ok (.iload_n 1, 1) := by decide +kernel
theorem dX3_sort_25 : decode cX3_sort 25 = .ok (.invokevirtual 44, 3) := by decide +kernel
theorem dX3_sort_28 : decode cX3_sort 28 = .ok (.ifCond .eq 6, 3) := by decide +kernel
theorem dX3_sort_31 : decode cX3_sort 31 = .ok (.iinc 2 1, 3) := by decide +kernel
theorem dX3_sort_34 : decode cX3_sort 34 = .ok (.iinc 3 1, 3) := by decide +kernel
theorem dX3_sort_37 : decode cX3_sort 37 = .ok (.goto (-23), 3) := by decide +kernel
theorem dX3_sort_40 : decode cX3_sort 40 = .ok (.aload_n 0, 1) := by decide +kernel
theorem dX3_sort_41 : decode cX3_sort 41 = .ok (.getfield 33, 3) := by decide +kernel
theorem dX3_sort_44 : decode cX3_sort 44 = .ok (.iload_n 1, 1) := by decide +kernel
theorem dX3_sort_45 : decode cX3_sort 45 = .ok (.iload_n 2, 1) := by decide +kernel
theorem dX3_sort_46 : decode cX3_sort 46 = .ok (.iastore, 1) := by decide +kernel
theorem dX3_sort_47 : decode cX3_sort 47 = .ok (.aload_n 0, 1) := by decide +kernel
theorem dX3_sort_48 : decode cX3_sort 48 = .ok (.getfield 30, 3) := by decide +kernel
theorem dX3_sort_51 : decode cX3_sort 51 = .ok (.iload_n 2, 1) := by decide +kernel
theorem dX3_sort_52 : decode cX3_sort 52 = .ok (.iload_n 1, 1) := by decide +kernel
theorem dX3_sort_53 : decode cX3_sort 53 = .ok (.iastore, 1) := by decide +kernel
theorem dX3_sort_54 : decode cX3_sort 54 = .ok (.iinc 1 1, 3) := by decide +kernel
theorem dX3_sort_57 : decode cX3_sort 57 = .ok (.goto (-55), 3) := by decide +kernel
theorem dX3_sort_60 : decode cX3_sort 60 = .ok (.return_, 1) := by decide +kernel
theorem dX3_isAhead_0 : decode cX3_isAhead 0 = .ok (.aload_n 0, 1) := by decide +kernel
theorem dX3_isAhead_1 : decode cX3_isAhead 1 = .ok (.getfield 23, 3) := by decide +kernel
theorem dX3_isAhead_4 : decode cX3_isAhead 4 = .ok (.iload_n 1, 1) := by decide +kernel
theorem dX3_isAhead_5 : decode cX3_isAhead 5 = .ok (.iaload, 1) := by decide +kernel
theorem dX3_isAhead_6 : decode cX3_isAhead 6 = .ok (.aload_n 0, 1) := by decide +kernel
theorem dX3_isAhead_7 : decode cX3_isAhead 7 = .ok (.getfield 23, 3) := by decide +kernel
theorem dX3_isAhead_10 : decode cX3_isAhead 10 = .ok (.iload_n 2, 1) := by decide +kernel
theorem dX3_isAhead_11 : decode cX3_isAhead 11 = .ok (.iaload, 1) := by decide +kernel
theorem dX3_isAhead_12 : decode cX3_isAhead 12 = .ok (.if_icmp .lt 23, 3) := by decide +kernel
theorem dX3_isAhead_15 : decode cX3_isAhead 15 = .ok (.aload_n 0, 1) := by decide +kernel
theorem dX3_isAhead_16 : decode cX3_isAhead 16 = .ok (.getfield 23, 3) := by decide +kernel
theorem dX3_isAhead_19 : decode cX3_isAhead 19 = .ok (.iload_n 1, 1) := by decide +kernel
theorem dX3_isAhead_20 : decode cX3_isAhead 20 = .ok (.iaload, 1) := by decide +kernel
theorem dX3_isAhead_21 : decode cX3_isAhead 21 = .ok (.aload_n 0, 1) := by decide +kernel
theorem dX3_isAhead_22 : decode cX3_isAhead 22 = .ok (.getfield 23, 3) := by decide +kernel
theorem dX3_isAhead_25 : decode cX3_isAhead 25 = .ok (.iload_n 2, 1) := by decide +kernel
theorem dX3_isAhead_26 : decode cX3_isAhead 26 = .ok (.iaload, 1) := by decide +kernel
theorem dX3_isAhead_27 : decode cX3_isAhead 27 = .ok (.if_icmp .ne 12, 3) := by decide +kernel
theorem dX3_isAhead_30 : decode cX3_isAhead 30 = .ok (.iload_n 1, 1) := by decide +kernel
theorem dX3_isAhead_31 : decode cX3_isAhead 31 = .ok (.iload_n 2, 1) := by decide +kernel
theorem dX3_isAhead_32 : decode cX3_isAhead 32 = .ok (.if_icmp .ge 7, 3) := by decide +kernel
theorem dX3_isAhead_35 : decode cX3_isAhead 35 = .ok (.iconst 1, 1) := by decide +kernel
theorem dX3_isAhead_36 : decode cX3_isAhead 36 = .ok (.goto 4, 3) := by decide +kernel
theorem dX3_isAhead_39 : decode cX3_isAhead 39 = .ok (.iconst 0, 1) := by decide +kernel
theorem dX3_isAhead_40 : decode cX3_isAhead 40 = .ok (.ireturn, 1) := by decide +kernel
theorem dX3_takes_0 : decode cX3_takes 0 = .ok (.aload_n 0, 1) := by decide +kernel
theorem dX3_takes_1 : decode cX3_takes 1 = .ok (.getfield 17, 3) := by decide +kernel
theorem dX3_takes_4 : decode cX3_takes 4 = .ok (.iload_n 2, 1) := by decide +kernel
theorem dX3_takes_5 : decode cX3_takes 5 = .ok (.aaload, 1) := by decide +kernel
theorem dX3_takes_6 : decode cX3_takes 6 = .ok (.iload_n 1, 1) := by decide +kernel
theorem dX3_takes_7 : decode cX3_takes 7 = .ok (.iaload, 1) := by decide +kernel
theorem dX3_takes_8 : decode cX3_takes 8 = .ok (.iload_n 3, 1) := by decide +kernel
theorem dX3_takes_9 : decode cX3_takes 9 = .ok (.if_icmp .gt 19, 3) := by decide +kernel
theorem dX3_takes_12 : decode cX3_takes 12 = .ok (.iload_n 3, 1) := by decide +kernel
theorem dX3_takes_13 : decode cX3_takes 13 = .ok (.aload_n 0, 1) := by decide +kernel
theorem dX3_takes_14 : decode cX3_takes 14 = .ok (.getfield 20, 3) := by decide +kernel
theorem dX3_takes_17 : decode cX3_takes 17 = .ok (.iload_n 2, 1) := by decide +kernel
theorem dX3_takes_18 : decode cX3_takes 18 = .ok (.aaload, 1) := by decide +kernel
theorem dX3_takes_19 : decode cX3_takes 19 = .ok (.iload_n 1, 1) := by decide +kernel
theorem dX3_takes_20 : decode cX3_takes 20 = .ok (.iaload, 1) := by decide +kernel
theorem dX3_takes_21 : decode cX3_takes 21 = .ok (.if_icmp .gt 7, 3) := by decide +kernel
theorem dX3_takes_24 : decode cX3_takes 24 = .ok (.iconst 1, 1) := by decide +kernel
theorem dX3_takes_25 : decode cX3_takes 25 = .ok (.goto 4, 3) := by decide +kernel
theorem dX3_takes_28 : decode cX3_takes 28 = .ok (.iconst 0, 1) := by decide +kernel
theorem dX3_takes_29 : decode cX3_takes 29 = .ok (.ireturn, 1) := by decide +kernel
theorem dX3_shared_0 : decode cX3_shared 0 = .ok (.aload_n 0, 1) := by decide +kernel
theorem dX3_shared_1 : decode cX3_shared 1 = .ok (.getfield 17, 3) := by decide +kernel
theorem dX3_shared_4 : decode cX3_shared 4 = .ok (.iload_n 3, 1) := by decide +kernel
theorem dX3_shared_5 : decode cX3_shared 5 = .ok (.aaload, 1) := by decide +kernel
theorem dX3_shared_6 : decode cX3_shared 6 = .ok (.iload_n 1, 1) := by decide +kernel
theorem dX3_shared_7 : decode cX3_shared 7 = .ok (.iaload, 1) := by decide +kernel
theorem dX3_shared_8 : decode cX3_shared 8 = .ok (.aload_n 0, 1) := by decide +kernel
theorem dX3_shared_9 : decode cX3_shared 9 = .ok (.getfield 17, 3) := by decide +kernel
theorem dX3_shared_12 : decode cX3_shared 12 = .ok (.iload_n 3, 1) := by decide +kernel
theorem dX3_shared_13 : decode cX3_shared 13 = .ok (.aaload, 1) := by decide +kernel
theorem dX3_shared_14 : decode cX3_shared 14 = .ok (.iload_n 2, 1) := by decide +kernel
theorem dX3_shared_15 : decode cX3_shared 15 = .ok (.iaload, 1) := by decide +kernel
theorem dX3_shared_16 : decode cX3_shared 16 = .ok (.invokestatic 48, 3) := by decide +kernel
theorem dX3_shared_19 : decode cX3_shared 19 = .ok (.istore 4, 2) := by decide +kernel
theorem dX3_shared_21 : decode cX3_shared 21 = .ok (.aload_n 0, 1) := by decide +kernel
theorem dX3_shared_22 : decode cX3_shared 22 = .ok (.getfield 20, 3) := by decide +kernel
theorem dX3_shared_25 : decode cX3_shared 25 = .ok (.iload_n 3, 1) := by decide +kernel
theorem dX3_shared_26 : decode cX3_shared 26 = .ok (.aaload, 1) := by decide +kernel
theorem dX3_shared_27 : decode cX3_shared 27 = .ok (.iload_n 1, 1) := by decide +kernel
theorem dX3_shared_28 : decode cX3_shared 28 = .ok (.iaload, 1) := by decide +kernel
theorem dX3_shared_29 : decode cX3_shared 29 = .ok (.aload_n 0, 1) := by decide +kernel
theorem dX3_shared_30 : decode cX3_shared 30 = .ok (.getfield 20, 3) := by decide +kernel
theorem dX3_shared_33 : decode cX3_shared 33 = .ok (.iload_n 3, 1) := by decide +kernel
theorem dX3_shared_34 : decode cX3_shared 34 = .ok (.aaload, 1) := by decide +kernel
theorem dX3_shared_35 : decode cX3_shared 35 = .ok (.iload_n 2, 1) := by decide +kernel
theorem dX3_shared_36 : decode cX3_shared 36 = .ok (.iaload, 1) := by decide +kernel
theorem dX3_shared_37 : decode cX3_shared 37 = .ok (.invokestatic 54, 3) := by decide +kernel
theorem dX3_shared_40 : decode cX3_shared 40 = .ok (.istore 5, 2) := by decide +kernel
theorem dX3_shared_42 : decode cX3_shared 42 = .ok (.iconst 0, 1) := by decide +kernel
theorem dX3_shared_43 : decode cX3_shared 43 = .ok (.iload 5, 2) := by decide +kernel
theorem dX3_shared_45 : decode cX3_shared 45 = .ok (.iload 4, 2) := by decide +kernel
theorem dX3_shared_47 : decode cX3_shared 47 = .ok (.isub, 1) := by decide +kernel
theorem dX3_shared_48 : decode cX3_shared 48 = .ok (.iconst 1, 1) := by decide +kernel
theorem dX3_shared_49 : decode cX3_shared 49 = .ok (.iadd, 1) := by decide +kernel
theorem dX3_shared_50 : decode cX3_shared 50 = .ok (.invokestatic 48, 3) := by decide +kernel
theorem dX3_shared_53 : decode cX3_shared 53 = .ok (.ireturn, 1) := by decide +kernel
theorem dX3_coverOf_0 : decode cX3_coverOf 0 = .ok (.iconst 0, 1) := by decide +kernel
theorem dX3_coverOf_1 : decode cX3_coverOf 1 = .ok (.istore_n 2, 1) := by decide +kernel
theorem dX3_coverOf_2 : decode cX3_coverOf 2 = .ok (.iload_n 2, 1) := by decide +kernel
theorem dX3_coverOf_3 : decode cX3_coverOf 3 = .ok (.aload_n 0, 1) := by decide +kernel
theorem dX3_coverOf_4 : decode cX3_coverOf 4 = .ok (.getfield 33, 3) := by decide +kernel
theorem dX3_coverOf_7 : decode cX3_coverOf 7 = .ok (.iload_n 1, 1) := by decide +kernel
theorem dX3_coverOf_8 : decode cX3_coverOf 8 = .ok (.iaload, 1) := by decide +kernel
theorem dX3_coverOf_9 : decode cX3_coverOf 9 = .ok (.if_icmp .ge 30, 3) := by decide +kernel
theorem dX3_coverOf_12 : decode cX3_coverOf 12 = .ok (.aload_n 0, 1) := by decide +kernel
theorem dX3_coverOf_13 : decode cX3_coverOf 13 = .ok (.aload_n 0, 1) := by decide +kernel
theorem dX3_coverOf_14 : decode cX3_coverOf 14 = .ok (.getfield 30, 3) := by decide +kernel
theorem dX3_coverOf_17 : decode cX3_coverOf 17 = .ok (.iload_n 2, 1) := by decide +kernel
theorem dX3_coverOf_18 : decode cX3_coverOf 18 = .ok (.iaload, 1) := by decide +kernel
theorem dX3_coverOf_19 : decode cX3_coverOf 19 = .ok (.iload_n 1, 1) := by decide +kernel
theorem dX3_coverOf_20 : decode cX3_coverOf 20 = .ok (.invokevirtual 57, 3) := by decide +kernel
theorem dX3_coverOf_23 : decode cX3_coverOf 23 = .ok (.ifCond .eq 10, 3) := by decide +kernel
theorem dX3_coverOf_26 : decode cX3_coverOf 26 = .ok (.aload_n 0, 1) := by decide +kernel
theorem dX3_coverOf_27 : decode cX3_coverOf 27 = .ok (.getfield 30, 3) := by decide +kernel
theorem dX3_coverOf_30 : decode cX3_coverOf 30 = .ok (.iload_n 2, 1) := by decide +kernel
theorem dX3_coverOf_31 : decode cX3_coverOf 31 = .ok (.iaload, 1) := by decide +kernel
theorem dX3_coverOf_32 : decode cX3_coverOf 32 = .ok (.ireturn, 1) := by decide +kernel
theorem dX3_coverOf_33 : decode cX3_coverOf 33 = .ok (.iinc 2 1, 3) := by decide +kernel
theorem dX3_coverOf_36 : decode cX3_coverOf 36 = .ok (.goto (-34), 3) := by decide +kernel
theorem dX3_coverOf_39 : decode cX3_coverOf 39 = .ok (.bipush (-6), 2) := by decide +kernel
theorem dX3_coverOf_41 : decode cX3_coverOf 41 = .ok (.ireturn, 1) := by decide +kernel
theorem dX3_holds_0 : decode cX3_holds 0 = .ok (.iconst 0, 1) := by decide +kernel
theorem dX3_holds_1 : decode cX3_holds 1 = .ok (.istore_n 3, 1) := by decide +kernel
theorem dX3_holds_2 : decode cX3_holds 2 = .ok (.iload_n 3, 1) := by decide +kernel
theorem dX3_holds_3 : decode cX3_holds 3 = .ok (.iconst 4, 1) := by decide +kernel
theorem dX3_holds_4 : decode cX3_holds 4 = .ok (.if_icmp .ge 49, 3) := by decide +kernel
theorem dX3_holds_7 : decode cX3_holds 7 = .ok (.aload_n 0, 1) := by decide +kernel
theorem dX3_holds_8 : decode cX3_holds 8 = .ok (.getfield 17, 3) := by decide +kernel
theorem dX3_holds_11 : decode cX3_holds 11 = .ok (.iload_n 3, 1) := by decide +kernel
theorem dX3_holds_12 : decode cX3_holds 12 = .ok (.aaload, 1) := by decide +kernel
theorem dX3_holds_13 : decode cX3_holds 13 = .ok (.iload_n 1, 1) := by decide +kernel
theorem dX3_holds_14 : decode cX3_holds 14 = .ok (.iaload, 1) := by decide +kernel
theorem dX3_holds_15 : decode cX3_holds 15 = .ok (.aload_n 0, 1) := by decide +kernel
theorem dX3_holds_16 : decode cX3_holds 16 = .ok (.getfield 17, 3) := by decide +kernel
theorem dX3_holds_19 : decode cX3_holds 19 = .ok (.iload_n 3, 1) := by decide +kernel
theorem dX3_holds_20 : decode cX3_holds 20 = .ok (.aaload, 1) := by decide +kernel
theorem dX3_holds_21 : decode cX3_holds 21 = .ok (.iload_n 2, 1) := by decide +kernel
theorem dX3_holds_22 : decode cX3_holds 22 = .ok (.iaload, 1) := by decide +kernel
theorem dX3_holds_23 : decode cX3_holds 23 = .ok (.if_icmp .gt 22, 3) := by decide +kernel
theorem dX3_holds_26 : decode cX3_holds 26 = .ok (.aload_n 0, 1) := by decide +kernel
theorem dX3_holds_27 : decode cX3_holds 27 = .ok (.getfield 20, 3) := by decide +kernel
theorem dX3_holds_30 : decode cX3_holds 30 = .ok (.iload_n 3, 1) := by decide +kernel
theorem dX3_holds_31 : decode cX3_holds 31 = .ok (.aaload, 1) := by decide +kernel
theorem dX3_holds_32 : decode cX3_holds 32 = .ok (.iload_n 1, 1) := by decide +kernel
theorem dX3_holds_33 : decode cX3_holds 33 = .ok (.iaload, 1) := by decide +kernel
theorem dX3_holds_34 : decode cX3_holds 34 = .ok (.aload_n 0, 1) := by decide +kernel
theorem dX3_holds_35 : decode cX3_holds 35 = .ok (.getfield 20, 3) := by decide +kernel
theorem dX3_holds_38 : decode cX3_holds 38 = .ok (.iload_n 3, 1) := by decide +kernel
theorem dX3_holds_39 : decode cX3_holds 39 = .ok (.aaload, 1) := by decide +kernel
theorem dX3_holds_40 : decode cX3_holds 40 = .ok (.iload_n 2, 1) := by decide +kernel
theorem dX3_holds_41 : decode cX3_holds 41 = .ok (.iaload, 1) := by decide +kernel
theorem dX3_holds_42 : decode cX3_holds 42 = .ok (.if_icmp .ge 5, 3) := by decide +kernel
theorem dX3_holds_45 : decode cX3_holds 45 = .ok (.iconst 0, 1) := by decide +kernel
theorem dX3_holds_46 : decode cX3_holds 46 = .ok (.ireturn, 1) := by decide +kernel
theorem dX3_holds_47 : decode cX3_holds 47 = .ok (.iinc 3 1, 3) := by decide +kernel
theorem dX3_holds_50 : decode cX3_holds 50 = .ok (.goto (-48), 3) := by decide +kernel
theorem dX3_holds_53 : decode cX3_holds 53 = .ok (.iconst 1, 1) := by decide +kernel
theorem dX3_holds_54 : decode cX3_holds 54 = .ok (.ireturn, 1) := by decide +kernel
theorem dX3_prefixLength_0 : decode cX3_prefixLength 0 = .ok (.iconst 0, 1) := by decide +kernel
theorem dX3_prefixLength_1 : decode cX3_prefixLength 1 = .ok (.istore 4, 2) := by decide +kernel
theorem dX3_prefixLength_3 : decode cX3_prefixLength 3 = .ok (.iload 4, 2) := by decide +kernel
theorem dX3_prefixLength_5 : decode cX3_prefixLength 5 = .ok (.getstatic 60, 3) := by decide +kernel
theorem dX3_prefixLength_8 : decode cX3_prefixLength 8 = .ok (.iload_n 2, 1) := by decide +kernel
theorem dX3_prefixLength_9 : decode cX3_prefixLength 9 = .ok (.iaload, 1) := by decide +kernel
theorem dX3_prefixLength_10 : decode cX3_prefixLength 10 = .ok (.if_icmp .ge 63, 3) := by decide +kernel
theorem dX3_prefixLength_13 : decode cX3_prefixLength 13 = .ok (.iconst 1, 1) := by decide +kernel
theorem dX3_prefixLength_14 : decode cX3_prefixLength 14 = .ok (.getstatic 60, 3) := by decide +kernel
theorem dX3_prefixLength_17 : decode cX3_prefixLength 17 = .ok (.iload_n 2, 1) := by decide +kernel
theorem dX3_prefixLength_18 : decode cX3_prefixLength 18 = .ok (.iaload, 1) := by decide +kernel
theorem dX3_prefixLength_19 : decode cX3_prefixLength 19 = .ok (.iload 4, 2) := by decide +kernel
theorem dX3_prefixLength_21 : decode cX3_prefixLength 21 = .ok (.isub, 1) := by decide +kernel
theorem dX3_prefixLength_22 : decode cX3_prefixLength 22 = .ok (.ishl, 1) := by decide +kernel
theorem dX3_prefixLength_23 : decode cX3_prefixLength 23 = .ok (.iconst 1, 1) := by decide +kernel
theorem dX3_prefixLength_24 : decode cX3_prefixLength 24 = .ok (.isub, 1) := by decide +kernel
theorem dX3_prefixLength_25 : decode cX3_prefixLength 25 = .ok (.istore 5, 2) := by decide +kernel
theorem dX3_prefixLength_27 : decode cX3_prefixLength 27 = .ok (.iload_n 3, 1) := by decide +kernel
theorem dX3_prefixLength_28 : decode cX3_prefixLength 28 = .ok (.iload 5, 2) := by decide +kernel
theorem dX3_prefixLength_30 : decode cX3_prefixLength 30 = .ok (.iconst (-1), 1) := by decide +kernel
theorem dX3_prefixLength_31 : decode cX3_prefixLength 31 = .ok (.ixor, 1) := by decide +kernel
theorem dX3_prefixLength_32 : decode cX3_prefixLength 32 = .ok (.iand, 1) := by decide +kernel
theorem dX3_prefixLength_33 : decode cX3_prefixLength 33 = .ok (.istore 6, 2) := by decide +kernel
theorem dX3_prefixLength_35 : decode cX3_prefixLength 35 = .ok (.aload_n 0, 1) := by decide +kernel
theorem dX3_prefixLength_36 : decode cX3_prefixLength 36 = .ok (.getfield 17, 3) := by decide +kernel
theorem dX3_prefixLength_39 : decode cX3_prefixLength 39 = .ok (.iload_n 2, 1) := by decide +kernel
theorem dX3_prefixLength_40 : decode cX3_prefixLength 40 = .ok (.aaload, 1) := by decide +kernel
theorem dX3_prefixLength_41 : decode cX3_prefixLength 41 = .ok (.iload_n 1, 1) := by decide +kernel
theorem dX3_prefixLength_42 : decode cX3_prefixLength 42 = .ok (.iaload, 1) := by decide +kernel
theorem dX3_prefixLength_43 : decode cX3_prefixLength 43 = .ok (.iload 6, 2) := by decide +kernel
theorem dX3_prefixLength_45 : decode cX3_prefixLength 45 = .ok (.if_icmp .gt 22, 3) := by decide +kernel
theorem dX3_prefixLength_48 : decode cX3_prefixLength 48 = .ok (.iload 6, 2) := by decide +kernel
theorem dX3_prefixLength_50 : decode cX3_prefixLength 50 = .ok (.iload 5, 2) := by decide +kernel
theorem dX3_prefixLength_52 : decode cX3_prefixLength 52 = .ok (.iadd, 1) := by decide +kernel
theorem dX3_prefixLength_53 : decode cX3_prefixLength 53 = .ok (.aload_n 0, 1) := by decide +kernel
theorem dX3_prefixLength_54 : decode cX3_prefixLength 54 = .ok (.getfield 20, 3) := by decide +kernel
theorem dX3_prefixLength_57 : decode cX3_prefixLength 57 = .ok (.iload_n 2, 1) := by decide +kernel
theorem dX3_prefixLength_58 : decode cX3_prefixLength 58 = .ok (.aaload, 1) := by decide +kernel
theorem dX3_prefixLength_59 : decode cX3_prefixLength 59 = .ok (.iload_n 1, 1) := by decide +kernel
theorem dX3_prefixLength_60 : decode cX3_prefixLength 60 = .ok (.iaload, 1) := by decide +kernel
theorem dX3_prefixLength_61 : decode cX3_prefixLength 61 = .ok (.if_icmp .gt 6, 3) := by decide +kernel
theorem dX3_prefixLength_64 : decode cX3_prefixLength 64 = .ok (.iload 4, 2) := by decide +kernel
theorem dX3_prefixLength_66 : decode cX3_prefixLength 66 = .ok (.ireturn, 1) := by decide +kernel
theorem dX3_prefixLength_67 : decode cX3_prefixLength 67 = .ok (.iinc 4 1, 3) := by decide +kernel
theorem dX3_prefixLength_70 : decode cX3_prefixLength 70 = .ok (.goto (-67), 3) := by decide +kernel
theorem dX3_prefixLength_73 : decode cX3_prefixLength 73 = .ok (.getstatic 60, 3) := by decide +kernel
theorem dX3_prefixLength_76 : decode cX3_prefixLength 76 = .ok (.iload_n 2, 1) := by decide +kernel
theorem dX3_prefixLength_77 : decode cX3_prefixLength 77 = .ok (.iaload, 1) := by decide +kernel
theorem dX3_prefixLength_78 : decode cX3_prefixLength 78 = .ok (.ireturn, 1) := by decide +kernel
theorem dX3_prefixValue_0 : decode cX3_prefixValue 0 = .ok (.aload_n 0, 1) := by decide +kernel
theorem dX3_prefixValue_1 : decode cX3_prefixValue 1 = .ok (.getfield 17, 3) := by decide +kernel
theorem dX3_prefixValue_4 : decode cX3_prefixValue 4 = .ok (.iload_n 2, 1) := by decide +kernel
theorem dX3_prefixValue_5 : decode cX3_prefixValue 5 = .ok (.aaload, 1) := by decide +kernel
theorem dX3_prefixValue_6 : decode cX3_prefixValue 6 = .ok (.iload_n 1, 1) := by decide +kernel
theorem dX3_prefixValue_7 : decode cX3_prefixValue 7 = .ok (.iaload, 1) := by decide +kernel
theorem dX3_prefixValue_8 : decode cX3_prefixValue 8 = .ok (.istore 4, 2) := by decide +kernel
theorem dX3_prefixValue_10 : decode cX3_prefixValue 10 = .ok (.iconst 0, 1) := by decide +kernel
theorem dX3_prefixValue_11 : decode cX3_prefixValue 11 = .ok (.istore 5, 2) := by decide +kernel
theorem dX3_prefixValue_13 : decode cX3_prefixValue 13 = .ok (.iload 5, 2) := by decide +kernel
theorem dX3_prefixValue_15 : decode cX3_prefixValue 15 = .ok (.bipush 64, 2) := by decide +kernel
theorem dX3_prefixValue_17 : decode cX3_prefixValue 17 = .ok (.if_icmp .ge 52, 3) := by decide +kernel
theorem dX3_prefixValue_20 : decode cX3_prefixValue 20 = .ok (.iload 4, 2) := by decide +kernel
theorem dX3_prefixValue_22 : decode cX3_prefixValue 22 = .ok (.aload_n 0, 1) := by decide +kernel
theorem dX3_prefixValue_23 : decode cX3_prefixValue 23 = .ok (.getfield 20, 3) := by decide +kernel
theorem dX3_prefixValue_26 : decode cX3_prefixValue 26 = .ok (.iload_n 2, 1) := by decide +kernel
theorem dX3_prefixValue_27 : decode cX3_prefixValue 27 = .ok (.aaload, 1) := by decide +kernel
theorem dX3_prefixValue_28 : decode cX3_prefixValue 28 = .ok (.iload_n 1, 1) := by decide +kernel
theorem dX3_prefixValue_29 : decode cX3_prefixValue 29 = .ok (.iaload, 1) := by decide +kernel
theorem dX3_prefixValue_30 : decode cX3_prefixValue 30 = .ok (.if_icmp .gt 39, 3) := by decide +kernel
theorem dX3_prefixValue_33 : decode cX3_prefixValue 33 = .ok (.iload 5, 2) := by decide +kernel
theorem dX3_prefixValue_35 : decode cX3_prefixValue 35 = .ok (.iload_n 3, 1) := by decide +kernel
theorem dX3_prefixValue_36 : decode cX3_prefixValue 36 = .ok (.if_icmp .ne 6, 3) := by decide +kernel
theorem dX3_prefixValue_39 : decode cX3_prefixValue 39 = .ok (.iload 4, 2) := by decide +kernel
theorem dX3_prefixValue_41 : decode cX3_prefixValue 41 = .ok (.ireturn, 1) := by decide +kernel
theorem dX3_prefixValue_42 : decode cX3_prefixValue 42 = .ok (.iload 4, 2) := by decide +kernel
theorem dX3_prefixValue_44 : decode cX3_prefixValue 44 = .ok (.iconst 1, 1) := by decide +kernel
theorem dX3_prefixValue_45 : decode cX3_prefixValue 45 = .ok (.getstatic 60, 3) := by decide +kernel
theorem dX3_prefixValue_48 : decode cX3_prefixValue 48 = .ok (.iload_n 2, 1) := by decide +kernel
theorem dX3_prefixValue_49 : decode cX3_prefixValue 49 = .ok (.iaload, 1) := by decide +kernel
theorem dX3_prefixValue_50 : decode cX3_prefixValue 50 = .ok (.aload_n 0, 1) := by decide +kernel
theorem dX3_prefixValue_51 : decode cX3_prefixValue 51 = .ok (.iload_n 1, 1) := by decide +kernel
theorem dX3_prefixValue_52 : decode cX3_prefixValue 52 = .ok (.iload_n 2, 1) := by decide +kernel
theorem dX3_prefixValue_53 : decode cX3_prefixValue 53 = .ok (.iload 4, 2) := by decide +kernel
theorem dX3_prefixValue_55 : decode cX3_prefixValue 55 = .ok (.invokevirtual 63, 3) := by decide +kernel
theorem dX3_prefixValue_58 : decode cX3_prefixValue 58 = .ok (.isub, 1) := by decide +kernel
theorem dX3_prefixValue_59 : decode cX3_prefixValue 59 = .ok (.ishl, 1) := by decide +kernel
theorem dX3_prefixValue_60 : decode cX3_prefixValue 60 = .ok (.iadd, 1) := by decide +kernel
theorem dX3_prefixValue_61 : decode cX3_prefixValue 61 = .ok (.istore 4, 2) := by decide +kernel
theorem dX3_prefixValue_63 : decode cX3_prefixValue 63 = .ok (.iinc 5 1, 3) := by decide +kernel
theorem dX3_prefixValue_66 : decode cX3_prefixValue 66 = .ok (.goto (-53), 3) := by decide +kernel
theorem dX3_prefixValue_69 : decode cX3_prefixValue 69 = .ok (.iconst (-1), 1) := by decide +kernel
theorem dX3_prefixValue_70 : decode cX3_prefixValue 70 = .ok (.ireturn, 1) := by decide +kernel
theorem dX3_prefixesOf_0 : decode cX3_prefixesOf 0 = .ok (.iload_n 3, 1) := by decide +kernel
theorem dX3_prefixesOf_1 : decode cX3_prefixesOf 1 = .ok (.ifCond .le 15, 3) := by decide +kernel
theorem dX3_prefixesOf_4 : decode cX3_prefixesOf 4 = .ok (.aload_n 0, 1) := by decide +kernel
theorem dX3_prefixesOf_5 : decode cX3_prefixesOf 5 = .ok (.iload_n 1, 1) := by decide +kernel
theorem dX3_prefixesOf_6 : decode cX3_prefixesOf 6 = .ok (.iload_n 2, 1) := by decide +kernel
theorem dX3_prefixesOf_7 : decode cX3_prefixesOf 7 = .ok (.iload_n 3, 1) := by decide +kernel
theorem dX3_prefixesOf_8 : decode cX3_prefixesOf 8 = .ok (.iconst 1, 1) := by decide +kernel
theorem dX3_prefixesOf_9 : decode cX3_prefixesOf 9 = .ok (.isub, 1) := by decide +kernel
theorem dX3_prefixesOf_10 : decode cX3_prefixesOf 10 = .ok (.invokevirtual 67, 3) := by decide +kernel
theorem dX3_prefixesOf_13 : decode cX3_prefixesOf 13 = .ok (.goto 4, 3) := by decide +kernel
theorem dX3_prefixesOf_16 : decode cX3_prefixesOf 16 = .ok (.iconst 0, 1) := by decide +kernel
theorem dX3_prefixesOf_17 : decode cX3_prefixesOf 17 = .ok (.istore 4, 2) := by decide +kernel
theorem dX3_prefixesOf_19 : decode cX3_prefixesOf 19 = .ok (.aload_n 0, 1) := by decide +kernel
theorem dX3_prefixesOf_20 : decode cX3_prefixesOf 20 = .ok (.iload_n 1, 1) := by decide +kernel
theorem dX3_prefixesOf_21 : decode cX3_prefixesOf 21 = .ok (.iload_n 2, 1) := by decide +kernel
theorem dX3_prefixesOf_22 : decode cX3_prefixesOf 22 = .ok (.iload_n 3, 1) := by decide +kernel
theorem dX3_prefixesOf_23 : decode cX3_prefixesOf 23 = .ok (.invokevirtual 67, 3) := by decide +kernel
theorem dX3_prefixesOf_26 : decode cX3_prefixesOf 26 = .ok (.iconst 2, 1) := by decide +kernel
theorem dX3_prefixesOf_27 : decode cX3_prefixesOf 27 = .ok (.iload 4, 2) := by decide +kernel
theorem dX3_prefixesOf_29 : decode cX3_prefixesOf 29 = .ok (.imul, 1) := by decide +kernel
theorem dX3_prefixesOf_30 : decode cX3_prefixesOf 30 = .ok (.isub, 1) := by decide +kernel
theorem dX3_prefixesOf_31 : decode cX3_prefixesOf 31 = .ok (.ireturn, 1) := by decide +kernel
theorem dX3_prefixesWithin_0 : decode cX3_prefixesWithin 0 = .ok (.getstatic 60, 3) := by decide +kernel
theorem dX3_prefixesWithin_3 : decode cX3_prefixesWithin 3 = .ok (.iload_n 2, 1) := by decide +kernel
theorem dX3_prefixesWithin_4 : decode cX3_prefixesWithin 4 = .ok (.iaload, 1) := by decide +kernel
theorem dX3_prefixesWithin_5 : decode cX3_prefixesWithin 5 = .ok (.iload_n 3, 1) := by decide +kernel
theorem dX3_prefixesWithin_6 : decode cX3_prefixesWithin 6 = .ok (.isub, 1) := by decide +kernel
theorem dX3_prefixesWithin_7 : decode cX3_prefixesWithin 7 = .ok (.istore 4, 2) := by decide +kernel
theorem dX3_prefixesWithin_9 : decode cX3_prefixesWithin 9 = .ok (.aload_n 0, 1) := by decide +kernel
theorem dX3_prefixesWithin_10 : decode cX3_prefixesWithin 10 = .ok (.getfield 17, 3) := by decide +kernel
theorem dX3_prefixesWithin_13 : decode cX3_prefixesWithin 13 = .ok (.iload_n 2, 1) := by decide +kernel
theorem dX3_prefixesWithin_14 : decode cX3_prefixesWithin 14 = .ok (.aaload, 1) := by decide +kernel
theorem dX3_prefixesWithin_15 : decode cX3_prefixesWithin 15 = .ok (.iload_n 1, 1) := by decide +kernel
theorem dX3_prefixesWithin_16 : decode cX3_prefixesWithin 16 = .ok (.iaload, 1) := by decide +kernel
theorem dX3_prefixesWithin_17 : decode cX3_prefixesWithin 17 = .ok (.iconst 1, 1) := by decide +kernel
theorem dX3_prefixesWithin_18 : decode cX3_prefixesWithin 18 = .ok (.iload 4, 2) := by decide +kernel
theorem dX3_prefixesWithin_20 : decode cX3_prefixesWithin 20 = .ok (.ishl, 1) := by decide +kernel
theorem dX3_prefixesWithin_21 : decode cX3_prefixesWithin 21 = .ok (.iadd, 1) := by decide +kernel
theorem dX3_prefixesWithin_22 : decode cX3_prefixesWithin 22 = .ok (.iconst 1, 1) := by decide +kernel
theorem dX3_prefixesWithin_23 : decode cX3_prefixesWithin 23 = .ok (.isub, 1) := by decide +kernel
theorem dX3_prefixesWithin_24 : decode cX3_prefixesWithin 24 = .ok (.iload 4, 2) := by decide +kernel
theorem dX3_prefixesWithin_26 : decode cX3_prefixesWithin 26 = .ok (.ishr, 1) := by decide +kernel
theorem dX3_prefixesWithin_27 : decode cX3_prefixesWithin 27 = .ok (.istore 5, 2) := by decide +kernel
theorem dX3_prefixesWithin_29 : decode cX3_prefixesWithin 29 = .ok (.aload_n 0, 1) := by decide +kernel
theorem dX3_prefixesWithin_30 : decode cX3_prefixesWithin 30 = .ok (.getfield 20, 3) := by decide +kernel
theorem dX3_prefixesWithin_33 : decode cX3_prefixesWithin 33 = .ok (.iload_n 2, 1) := by decide +kernel
theorem dX3_prefixesWithin_34 : decode cX3_prefixesWithin 34 = .ok (.aaload, 1) := by decide +kernel
theorem dX3_prefixesWithin_35 : decode cX3_prefixesWithin 35 = .ok (.iload_n 1, 1) := by decide +kernel
theorem dX3_prefixesWithin_36 : decode cX3_prefixesWithin 36 = .ok (.iaload, 1) := by decide +kernel
theorem dX3_prefixesWithin_37 : decode cX3_prefixesWithin 37 = .ok (.iconst 1, 1) := by decide +kernel
theorem dX3_prefixesWithin_38 : decode cX3_prefixesWithin 38 = .ok (.iadd, 1) := by decide +kernel
theorem dX3_prefixesWithin_39 : decode cX3_prefixesWithin 39 = .ok (.iload 4, 2) := by decide +kernel
theorem dX3_prefixesWithin_41 : decode cX3_prefixesWithin 41 = .ok (.ishr, 1) := by decide +kernel
theorem dX3_prefixesWithin_42 : decode cX3_prefixesWithin 42 = .ok (.istore 6, 2) := by decide +kernel
theorem dX3_prefixesWithin_44 : decode cX3_prefixesWithin 44 = .ok (.iconst 0, 1) := by decide +kernel
theorem dX3_prefixesWithin_45 : decode cX3_prefixesWithin 45 = .ok (.iload 6, 2) := by decide +kernel
theorem dX3_prefixesWithin_47 : decode cX3_prefixesWithin 47 = .ok (.iload 5, 2) := by decide +kernel
theorem dX3_prefixesWithin_49 : decode cX3_prefixesWithin 49 = .ok (.isub, 1) := by decide +kernel
theorem dX3_prefixesWithin_50 : decode cX3_prefixesWithin 50 = .ok (.invokestatic 48, 3) := by decide +kernel
theorem dX3_prefixesWithin_53 : decode cX3_prefixesWithin 53 = .ok (.ireturn, 1) := by decide +kernel
theorem dX4_init_0 : decode cX4_init 0 = .ok (.aload_n 0, 1) := by decide +kernel
theorem dX4_init_1 : decode cX4_init 1 = .ok (.invokespecial 3, 3) := by decide +kernel
theorem dX4_init_4 : decode cX4_init 4 = .ok (.aload_n 0, 1) := by decide +kernel
theorem dX4_init_5 : decode cX4_init 5 = .ok (.iconst 1, 1) := by decide +kernel
theorem dX4_init_6 : decode cX4_init 6 = .ok (.putfield 9, 3) := by decide +kernel
theorem dX4_init_9 : decode cX4_init 9 = .ok (.aload_n 0, 1) := by decide +kernel
theorem dX4_init_10 : decode cX4_init 10 = .ok (.iconst 0, 1) := by decide +kernel
theorem dX4_init_11 : decode cX4_init 11 = .ok (.putfield 15, 3) := by decide +kernel
theorem dX4_init_14 : decode cX4_init 14 = .ok (.aload_n 0, 1) := by decide +kernel
theorem dX4_init_15 : decode cX4_init 15 = .ok (.bipush 16, 2) := by decide +kernel
theorem dX4_init_17 : decode cX4_init 17 = .ok (.newarray .int, 2) := by decide +kernel
theorem dX4_init_19 : decode cX4_init 19 = .ok (.putfield 19, 3) := by decide +kernel
theorem dX4_init_22 : decode cX4_init 22 = .ok (.aload_n 0, 1) := by decide +kernel
theorem dX4_init_23 : decode cX4_init 23 = .ok (.bipush 16, 2) := by decide +kernel
theorem dX4_init_25 : decode cX4_init 25 = .ok (.newarray .boolean, 2) := by decide +kernel
theorem dX4_init_27 : decode cX4_init 27 = .ok (.putfield 23, 3) := by decide +kernel
theorem dX4_init_30 : decode cX4_init 30 = .ok (.aload_n 0, 1) := by decide +kernel
theorem dX4_init_31 : decode cX4_init 31 = .ok (.iconst 4, 1) := by decide +kernel
theorem dX4_init_32 : decode cX4_init 32 = .ok (.newarray .int, 2) := by decide +kernel
theorem dX4_init_34 : decode cX4_init 34 = .ok (.putfield 27, 3) := by decide +kernel
theorem dX4_init_37 : decode cX4_init 37 = .ok (.aload_n 0, 1) := by decide +kernel
theorem dX4_init_38 : decode cX4_init 38 = .ok (.iconst 4, 1) := by decide +kernel
theorem dX4_init_39 : decode cX4_init 39 = .ok (.bipush 64, 2) := by decide +kernel
theorem dX4_init_41 : decode cX4_init 41 = .ok (.multianewarray 30 2, 4) := by decide +kernel
theorem dX4_init_45 : decode cX4_init 45 = .ok (.putfield 32, 3) := by decide +kernel
theorem dX4_init_48 : decode cX4_init 48 = .ok (.aload_n 0, 1) := by decide +kernel
theorem dX4_init_49 : decode cX4_init 49 = .ok (.iconst 4, 1) := by decide +kernel
theorem dX4_init_50 : decode cX4_init 50 = .ok (.bipush 64, 2) := by decide +kernel
theorem dX4_init_52 : decode cX4_init 52 = .ok (.multianewarray 30 2, 4) := by decide +kernel
theorem dX4_init_56 : decode cX4_init 56 = .ok (.putfield 35, 3) := by decide +kernel
theorem dX4_init_59 : decode cX4_init 59 = .ok (.aload_n 0, 1) := by decide +kernel
theorem dX4_init_60 : decode cX4_init 60 = .ok (.aload_n 1, 1) := by decide +kernel
theorem dX4_init_61 : decode cX4_init 61 = .ok (.putfield 38, 3) := by decide +kernel
theorem dX4_init_64 : decode cX4_init 64 = .ok (.aload_n 0, 1) := by decide +kernel
theorem dX4_init_65 : decode cX4_init 65 = .ok (.aload_n 2, 1) := by decide +kernel
theorem dX4_init_66 : decode cX4_init 66 = .ok (.putfield 42, 3) := by decide +kernel
theorem dX4_init_69 : decode cX4_init 69 = .ok (.return_, 1) := by decide +kernel
theorem dX4_refresh_0 : decode cX4_refresh 0 = .ok (.aload_n 0, 1) := by decide +kernel
theorem dX4_refresh_1 : decode cX4_refresh 1 = .ok (.getfield 9, 3) := by decide +kernel
theorem dX4_refresh_4 : decode cX4_refresh 4 = .ok (.ifCond .ne 4, 3) := by decide +kernel
theorem dX4_refresh_7 : decode cX4_refresh 7 = .ok (.return_, 1) := by decide +kernel
theorem dX4_refresh_8 : decode cX4_refresh 8 = .ok (.aload_n 0, 1) := by decide +kernel
theorem dX4_refresh_9 : decode cX4_refresh 9 = .ok (.iconst 0, 1) := by decide +kernel
theorem dX4_refresh_10 : decode cX4_refresh 10 = .ok (.putfield 15, 3) := by decide +kernel
theorem dX4_refresh_13 : decode cX4_refresh 13 = .ok (.iconst 0, 1) := by decide +kernel
theorem dX4_refresh_14 : decode cX4_refresh 14 = .ok (.istore_n 1, 1) := by decide +kernel
theorem dX4_refresh_15 : decode cX4_refresh 15 = .ok (.iload_n 1, 1) := by decide +kernel
theorem dX4_refresh_16 : decode cX4_refresh 16 = .ok (.bipush 16, 2) := by decide +kernel
theorem dX4_refresh_18 : decode cX4_refresh 18 = .ok (.if_icmp .ge 23, 3) := by decide +kernel
theorem dX4_refresh_21 : decode cX4_refresh 21 = .ok (.aload_n 0, 1) := by decide +kernel
theorem dX4_refresh_22 : decode cX4_refresh 22 = .ok (.getfield 19, 3) := by decide +kernel
theorem dX4_refresh_25 : decode cX4_refresh 25 = .ok (.iload_n 1, 1) := by decide +kernel
theorem dX4_refresh_26 : decode cX4_refresh 26 = .ok (.iconst 0, 1) := by decide +kernel
theorem dX4_refresh_27 : decode cX4_refresh 27 = .ok (.iastore, 1) := by decide +kernel
theorem dX4_refresh_28 : decode cX4_refresh 28 = .ok (.aload_n 0, 1) := by decide +kernel
theorem dX4_refresh_29 : decode cX4_refresh 29 = .ok (.getfield 23, 3) := by decide +kernel
theorem dX4_refresh_32 : decode cX4_refresh 32 = .ok (.iload_n 1, 1) := by decide +kernel
theorem dX4_refresh_33 : decode cX4_refresh 33 = .ok (.iconst 0, 1) := by decide +kernel
theorem dX4_refresh_34 : decode cX4_refresh 34 = .ok (.bastore, 1) := by decide +kernel
theorem dX4_refresh_35 : decode cX4_refresh 35 = .ok (.iinc 1 1, 3) := by decide +kernel
theorem dX4_refresh_38 : decode cX4_refresh 38 = .ok (.goto (-23), 3) := by decide +kernel
theorem dX4_refresh_41 : decode cX4_refresh 41 = .ok (.iconst 0, 1) := by decide +kernel
theorem dX4_refresh_42 : decode cX4_refresh 42 = .ok (.istore_n 1, 1) := by decide +kernel
theorem dX4_refresh_43 : decode cX4_refresh 43 = .ok (.iload_n 1, 1) := by decide +kernel
theorem dX4_refresh_44 : decode cX4_refresh 44 = .ok (.iconst 4, 1) := by decide +kernel
theorem dX4_refresh_45 : decode cX4_refresh 45 = .ok (.if_icmp .ge 14, 3) := by decide +kernel
theorem dX4_refresh_48 : decode cX4_refresh 48 = .ok (.aload_n 0, 1) := by decide +kernel
theorem dX4_refresh_49 : decode cX4_refresh 49 = .ok (.iload_n 1, 1) := by decide +kernel
theorem dX4_refresh_50 : decode cX4_refresh 50 = .ok (.invokevirtual 46, 3) := by decide +kernel
theorem dX4_refresh_53 : decode cX4_refresh 53 = .ok (.iinc 1 1, 3) := by decide +kernel
theorem dX4_refresh_56 : decode cX4_refresh 56 = .ok (.goto (-13), 3) := by decide +kernel
theorem dX4_refresh_59 : decode cX4_refresh 59 = .ok (.aload_n 0, 1) := by decide +kernel
theorem dX4_refresh_60 : decode cX4_refresh 60 = .ok (.iconst 0, 1) := by decide +kernel
theorem dX4_refresh_61 : decode cX4_refresh 61 = .ok (.aload_n 0, 1) := by decide +kernel
theorem dX4_refresh_62 : decode cX4_refresh 62 = .ok (.getfield 42, 3) := by decide +kernel
theorem dX4_refresh_65 : decode cX4_refresh 65 = .ok (.invokevirtual 50, 3) := by decide +kernel
theorem dX4_refresh_68 : decode cX4_refresh 68 = .ok (.iconst 1, 1) := by decide +kernel
theorem dX4_refresh_69 : decode cX4_refresh 69 = .ok (.invokevirtual 56, 3) := by decide +kernel
theorem dX4_refresh_72 : decode cX4_refresh 72 = .ok (.aload_n 0, 1) := by decide +kernel
theorem dX4_refresh_73 : decode cX4_refresh 73 = .ok (.iconst 0, 1) := by decide +kernel
theorem dX4_refresh_74 : decode cX4_refresh 74 = .ok (.putfield 9, 3) := by decide +kernel
theorem dX4_refresh_77 : decode cX4_refresh 77 = .ok (.return_, 1) := by decide +kernel
theorem dX4_gatherRuns_0 : decode cX4_gatherRuns 0 = .ok (.iconst (-1), 1) := by decide +kernel
theorem dX4_gatherRuns_1 : decode cX4_gatherRuns 1 = .ok (.istore_n 2, 1) := by decide +kernel
theorem dX4_gatherRuns_2 : decode cX4_gatherRuns 2 = .ok (.iconst 0, 1) := by decide +kernel
theorem dX4_gatherRuns_3 : decode cX4_gatherRuns 3 = .ok (.istore_n 3, 1) := by decide +kernel
theorem dX4_gatherRuns_4 : decode cX4_gatherRuns 4 = .ok (.iload_n 3, 1) := by decide +kernel
theorem dX4_gatherRuns_5 : decode cX4_gatherRuns 5 = .ok (.getstatic 60, 3) := by decide +kernel
theorem dX4_gatherRuns_8 : decode cX4_gatherRuns 8 = .ok (.iload_n 1, 1) := by decide +kernel
theorem dX4_gatherRuns_9 : decode cX4_gatherRuns 9 = .ok (.iaload, 1) := by decide +kernel
theorem dX4_gatherRuns_10 : decode cX4_gatherRuns 10 = .ok (.if_icmp .gt 71, 3) := by decide +kernel
theorem dX4_gatherRuns_13 : decode cX4_gatherRuns 13 = .ok (.aload_n 0, 1) := by decide +kernel
theorem dX4_gatherRuns_14 : decode cX4_gatherRuns 14 = .ok (.getfield 42, 3) := by decide +kernel
theorem dX4_gatherRuns_17 : decode cX4_gatherRuns 17 = .ok (.iload_n 1, 1) := by decide +kernel
theorem dX4_gatherRuns_18 : decode cX4_gatherRuns 18 = .ok (.iload_n 3, 1) := by decide +kernel
theorem dX4_gatherRuns_19 : decode cX4_gatherRuns 19 = .ok (.invokevirtual 63, 3) := by decide +kernel
theorem dX4_gatherRuns_22 : decode cX4_gatherRuns 22 = .ok (.istore 4, 2) := by decide +kernel
theorem dX4_gatherRuns_24 : decode cX4_gatherRuns 24 = .ok (.iload_n 2, 1) := by decide +kernel
theorem dX4_gatherRuns_25 : decode cX4_gatherRuns 25 = .ok (.ifCond .lt 16, 3) := by decide +kernel
theorem dX4_gatherRuns_28 : decode cX4_gatherRuns 28 = .ok (.iload 4, 2) := by decide +kernel
theorem dX4_gatherRuns_30 : decode cX4_gatherRuns 30 = .ok (.aload_n 0, 1) := by decide +kernel
theorem dX4_gatherRuns_31 : decode cX4_gatherRuns 31 = .ok (.getfield 32, 3) := by decide +kernel
theorem dX4_gatherRuns_34 : decode cX4_gatherRuns 34 = .ok (.iload_n 1, 1) := by decide +kernel
theorem dX4_gatherRuns_35 : decode cX4_gatherRuns 35 = .ok (.aaload, 1) := by decide +kernel
theorem dX4_gatherRuns_36 : decode cX4_gatherRuns 36 = .ok (.iload_n 2, 1) := by decide +kernel
theorem dX4_gatherRuns_37 : decode cX4_gatherRuns 37 = .ok (.iaload, 1) := by decide +kernel
theorem dX4_gatherRuns_38 : decode cX4_gatherRuns 38 = .ok (.if_icmp .eq 25, 3) := by decide +kernel
theorem dX4_gatherRuns_41 : decode cX4_gatherRuns 41 = .ok (.iinc 2 1, 3) := by decide +kernel
theorem dX4_gatherRuns_44 : decode cX4_gatherRuns 44 = .ok (.aload_n 0, 1) := by decide +kernel
theorem dX4_gatherRuns_45 : decode cX4_gatherRuns 45 = .ok (.getfield 32, 3) := by decide +kernel
theorem dX4_gatherRuns_48 : decode cX4_gatherRuns 48 = .ok (.iload_n 1, 1) := by decide +kernel
theorem dX4_gatherRuns_49 : decode cX4_gatherRuns 49 = .ok (.aaload, 1) := by decide +kernel
theorem dX4_gatherRuns_50 : decode cX4_gatherRuns 50 = .ok (.iload_n 2, 1) := by decide +kernel
theorem dX4_gatherRuns_51 : decode cX4_gatherRuns 51 = .ok (.iload 4, 2) := by decide +kernel
theorem dX4_gatherRuns_53 : decode cX4_gatherRuns 53 = .ok (.iastore, 1) := by decide +kernel
theorem dX4_gatherRuns_54 : decode cX4_gatherRuns 54 = .ok (.aload_n 0, 1) := by decide +kernel
theorem dX4_gatherRuns_55 : decode cX4_gatherRuns 55 = .ok (.getfield 35, 3) := by decide +kernel
theorem dX4_gatherRuns_58 : decode cX4_gatherRuns 58 = .ok (.iload_n 1, 1) := by decide +kernel
theorem dX4_gatherRuns_59 : decode cX4_gatherRuns 59 = .ok (.aaload, 1) := by decide +kernel
theorem dX4_gatherRuns_60 : decode cX4_gatherRuns 60 = .ok (.iload_n 2, 1) := by decide +kernel
theorem dX4_gatherRuns_61 : decode cX4_gatherRuns 61 = .ok (.iconst 0, 1) := by decide +kernel
theorem dX4_gatherRuns_62 : decode cX4_gatherRuns 62 = .ok (.iastore, 1) := by decide +kernel
theorem dX4_gatherRuns_63 : decode cX4_gatherRuns 63 = .ok (.aload_n 0, 1) := by decide +kernel
theorem dX4_gatherRuns_64 : decode cX4_gatherRuns 64 = .ok (.getfield 35, 3) := by decide +kernel
theorem dX4_gatherRuns_67 : decode cX4_gatherRuns 67 = .ok (.iload_n 1, 1) := by decide +kernel
theorem dX4_gatherRuns_68 : decode cX4_gatherRuns 68 = .ok (.aaload, 1) := by decide +kernel
theorem dX4_gatherRuns_69 : decode cX4_gatherRuns 69 = .ok (.iload_n 2, 1) := by decide +kernel
theorem dX4_gatherRuns_70 : decode cX4_gatherRuns 70 = .ok (.dup2, 1) := by decide +kernel
theorem dX4_gatherRuns_71 : decode cX4_gatherRuns 71 = .ok (.iaload, 1) := by decide +kernel
theorem dX4_gatherRuns_72 : decode cX4_gatherRuns 72 = .ok (.iconst 1, 1) := by decide +kernel
theorem dX4_gatherRuns_73 : decode cX4_gatherRuns 73 = .ok (.iadd, 1) := by decide +kernel
theorem dX4_gatherRuns_74 : decode cX4_gatherRuns 74 = .ok (.iastore, 1) := by decide +kernel
theorem dX4_gatherRuns_75 : decode cX4_gatherRuns 75 = .ok (.iinc 3 1, 3) := by decide +kernel
theorem dX4_gatherRuns_78 : decode cX4_gatherRuns 78 = .ok (.goto (-74), 3) := by decide +kernel
theorem dX4_gatherRuns_81 : decode cX4_gatherRuns 81 = .ok (.aload_n 0, 1) := by decide +kernel
theorem dX4_gatherRuns_82 : decode cX4_gatherRuns 82 = .ok (.getfield 27, 3) := by decide +kernel
theorem dX4_gatherRuns_85 : decode cX4_gatherRuns 85 = .ok (.iload_n 1, 1) := by decide +kernel
theorem dX4_gatherRuns_86 : decode cX4_gatherRuns 86 = .ok (.iload_n 2, 1) := by decide +kernel
theorem dX4_gatherRuns_87 : decode cX4_gatherRuns 87 = .ok (.iconst 1, 1) := by decide +kernel
theorem dX4_gatherRuns_88 : decode cX4_gatherRuns 88 = .ok (.iadd, 1) := by decide +kernel
theorem dX4_gatherRuns_89 : decode cX4_gatherRuns 89 = .ok (.iastore, 1) := by decide +kernel
theorem dX4_gatherRuns_90 : decode cX4_gatherRuns 90 = .ok (.return_, 1) := by decide +kernel
theorem dX4_sweep_0 : decode cX4_sweep 0 = .ok (.iload_n 2, 1) := by decide +kernel
theorem dX4_sweep_1 : decode cX4_sweep 1 = .ok (.ifCond .eq 8, 3) := by decide +kernel
theorem dX4_sweep_4 : decode cX4_sweep 4 = .ok (.iload_n 1, 1) := by decide +kernel
theorem dX4_sweep_5 : decode cX4_sweep 5 = .ok (.iconst 4, 1) := by decide +kernel
theorem dX4_sweep_6 : decode cX4_sweep 6 = .ok (.if_icmp .lt 16, 3) := by decide +kernel
theorem dX4_sweep_9 : decode cX4_sweep 9 = .ok (.aload_n 0, 1) := by decide +kernel
theorem dX4_sweep_10 : decode cX4_sweep 10 = .ok (.iload_n 2, 1) := by decide +kernel
theorem dX4_sweep_11 : decode cX4_sweep 11 = .ok (.iload_n 3, 1) := by decide +kernel
theorem dX4_sweep_12 : decode cX4_sweep 12 = .ok (.getstatic 67, 3) := by decide +kernel
theorem dX4_sweep_15 : decode cX4_sweep 15 = .ok (.iload_n 1, 1) := by decide +kernel
theorem dX4_sweep_16 : decode cX4_sweep 16 = .ok (.iaload, 1) := by decide +kernel
theorem dX4_sweep_17 : decode cX4_sweep 17 = .ok (.imul, 1) := by decide +kernel
theorem dX4_sweep_18 : decode cX4_sweep 18 = .ok (.invokevirtual 70, 3) := by decide +kernel
theorem dX4_sweep_21 : decode cX4_sweep 21 = .ok (.return_, 1) := by decide +kernel
theorem dX4_sweep_22 : decode cX4_sweep 22 = .ok (.iload_n 2, 1) := by decide +kernel
theorem dX4_sweep_23 : decode cX4_sweep 23 = .ok (.aload_n 0, 1) := by decide +kernel
theorem dX4_sweep_24 : decode cX4_sweep 24 = .ok (.getfield 32, 3) := by decide +kernel
theorem dX4_sweep_27 : decode cX4_sweep 27 = .ok (.iload_n 1, 1) := by decide +kernel
theorem dX4_sweep_28 : decode cX4_sweep 28 = .ok (.aaload, 1) := by decide +kernel
theorem dX4_sweep_29 : decode cX4_sweep 29 = .ok (.iconst 0, 1) := by decide +kernel
theorem dX4_sweep_30 : decode cX4_sweep 30 = .ok (.iaload, 1) := by decide +kernel
theorem dX4_sweep_31 : decode cX4_sweep 31 = .ok (.iand, 1) := by decide +kernel
theorem dX4_sweep_32 : decode cX4_sweep 32 = .ok (.istore 4, 2) := by decide +kernel
theorem dX4_sweep_34 : decode cX4_sweep 34 = .ok (.aload_n 0, 1) := by decide +kernel
theorem dX4_sweep_35 : decode cX4_sweep 35 = .ok (.getfield 35, 3) := by decide +kernel
theorem dX4_sweep_38 : decode cX4_sweep 38 = .ok (.iload_n 1, 1) := by decide +kernel
theorem dX4_sweep_39 : decode cX4_sweep 39 = .ok (.aaload, 1) := by decide +kernel
theorem dX4_sweep_40 : decode cX4_sweep 40 = .ok (.iconst 0, 1) := by decide +kernel
theorem dX4_sweep_41 : decode cX4_sweep 41 = .ok (.iaload, 1) := by decide +kernel
theorem dX4_sweep_42 : decode cX4_sweep 42 = .ok (.istore 5, 2) := by decide +kernel
theorem dX4_sweep_44 : decode cX4_sweep 44 = .ok (.iconst 1, 1) := by decide +kernel
theorem dX4_sweep_45 : decode cX4_sweep 45 = .ok (.istore 6, 2) := by decide +kernel
theorem dX4_sweep_47 : decode cX4_sweep 47 = .ok (.iload 6, 2) := by decide +kernel
theorem dX4_sweep_49 : decode cX4_sweep 49 = .ok (.aload_n 0, 1) := by decide +kernel
theorem dX4_sweep_50 : decode cX4_sweep 50 = .ok (.getfield 27, 3) := by decide +kernel
theorem dX4_sweep_53 : decode cX4_sweep 53 = .ok (.iload_n 1, 1) := by decide +kernel
theorem dX4_sweep_54 : decode cX4_sweep 54 = .ok (.iaload, 1) := by decide +kernel
theorem dX4_sweep_55 : decode cX4_sweep 55 = .ok (.if_icmp .ge 63, 3) := by decide +kernel
theorem dX4_sweep_58 : decode cX4_sweep 58 = .ok (.iload_n 2, 1) := by decide +kernel
theorem dX4_sweep_59 : decode cX4_sweep 59 = .ok (.aload_n 0, 1) := by decide +kernel
theorem dX4_sweep_60 : decode cX4_sweep 60 = .ok (.getfield 32, 3) := by decide +kernel
theorem dX4_sweep_63 : decode cX4_sweep 63 = .ok (.iload_n 1, 1) := by decide +kernel
theorem dX4_sweep_64 : decode cX4_sweep 64 = .ok (.aaload, 1) := by decide +kernel
theorem dX4_sweep_65 : decode cX4_sweep 65 = .ok (.iload 6, 2) := by decide +kernel
theorem dX4_sweep_67 : decode cX4_sweep 67 = .ok (.iaload, 1) := by decide +kernel
theorem dX4_sweep_68 : decode cX4_sweep 68 = .ok (.iand, 1) := by decide +kernel
theorem dX4_sweep_69 : decode cX4_sweep 69 = .ok (.istore 7, 2) := by decide +kernel
theorem dX4_sweep_71 : decode cX4_sweep 71 = .ok (.iload 7, 2) := by decide +kernel
theorem dX4_sweep_73 : decode cX4_sweep 73 = .ok (.iload 4, 2) := by decide +kernel
theorem dX4_sweep_75 : decode cX4_sweep 75 = .ok (.if_icmp .eq 23, 3) := by decide +kernel
theorem dX4_sweep_78 : decode cX4_sweep 78 = .ok (.aload_n 0, 1) := by decide +kernel
theorem dX4_sweep_79 : decode cX4_sweep 79 = .ok (.iload_n 1, 1) := by decide +kernel
theorem dX4_sweep_80 : decode cX4_sweep 80 = .ok (.iconst 1, 1) := by decide +kernel
theorem dX4_sweep_81 : decode cX4_sweep 81 = .ok (.iadd, 1) := by decide +kernel
theorem dX4_sweep_82 : decode cX4_sweep 82 = .ok (.iload 4, 2) := by decide +kernel
theorem dX4_sweep_84 : decode cX4_sweep 84 = .ok (.iload_n 3, 1) := by decide +kernel
theorem dX4_sweep_85 : decode cX4_sweep 85 = .ok (.iload 5, 2) := by decide +kernel
theorem dX4_sweep_87 : decode cX4_sweep 87 = .ok (.imul, 1) := by decide +kernel
theorem dX4_sweep_88 : decode cX4_sweep 88 = .ok (.invokevirtual 56, 3) := by decide +kernel
theorem dX4_sweep_91 : decode cX4_sweep 91 = .ok (.iload 7, 2) := by decide +kernel
theorem dX4_sweep_93 : decode cX4_sweep 93 = .ok (.istore 4, 2) := by decide +kernel
theorem dX4_sweep_95 : decode cX4_sweep 95 = .ok (.iconst 0, 1) := by decide +kernel
theorem dX4_sweep_96 : decode cX4_sweep 96 = .ok (.istore 5, 2) := by decide +kernel
theorem dX4_sweep_98 : decode cX4_sweep 98 = .ok (.iload 5, 2) := by decide +kernel
theorem dX4_sweep_100 : decode cX4_sweep 100 = .ok (.aload_n 0, 1) := by decide +kernel
theorem dX4_sweep_101 : decode cX4_sweep 101 = .ok (.getfield 35, 3) := by decide +kernel
theorem dX4_sweep_104 : decode cX4_sweep 104 = .ok (.iload_n 1, 1) := by decide +kernel
theorem dX4_sweep_105 : decode cX4_sweep 105 = .ok (.aaload, 1) := by decide +kernel
theorem dX4_sweep_106 : decode cX4_sweep 106 = .ok (.iload 6, 2) := by decide +kernel
theorem dX4_sweep_108 : decode cX4_sweep 108 = .ok (.iaload, 1) := by decide +kernel
theorem dX4_sweep_109 : decode cX4_sweep 109 = .ok (.iadd, 1) := by decide +kernel
theorem dX4_sweep_110 : decode cX4_sweep 110 = .ok (.istore 5, 2) := by decide +kernel
theorem dX4_sweep_112 : decode cX4_sweep 112 = .ok (.iinc 6 1, 3) := by decide +kernel
theorem dX4_sweep_115 : decode cX4_sweep 115 = .ok (.goto (-68), 3) := by decide +kernel
theorem dX4_sweep_118 : decode cX4_sweep 118 = .ok (.aload_n 0, 1) := by decide +kernel
theorem dX4_sweep_119 : decode cX4_sweep 119 = .ok (.iload_n 1, 1) := by decide +kernel
theorem dX4_sweep_120 : decode cX4_sweep 120 = .ok (.iconst 1, 1) := by decide +kernel
theorem dX4_sweep_121 : decode cX4_sweep 121 = .ok (.iadd, 1) := by decide +kernel
theorem dX4_sweep_122 : decode cX4_sweep 122 = .ok (.iload 4, 2) := by decide +kernel
theorem dX4_sweep_124 : decode cX4_sweep 124 = .ok (.iload_n 3, 1) := by decide +kernel
theorem dX4_sweep_125 : decode cX4_sweep 125 = .ok (.iload 5, 2) := by decide +kernel
theorem dX4_sweep_127 : decode cX4_sweep 127 = .ok (.imul, 1) := by decide +kernel
theorem dX4_sweep_128 : decode cX4_sweep 128 = .ok (.invokevirtual 56, 3) := by decide +kernel
theorem dX4_sweep_131 : decode cX4_sweep 131 = .ok (.return_, 1) := by decide +kernel
theorem dX4_tally_0 : decode cX4_tally 0 = .ok (.iload_n 1, 1) := by decide +kernel
theorem dX4_tally_1 : decode cX4_tally 1 = .ok (.invokestatic 74, 3) := by decide +kernel
theorem dX4_tally_4 : decode cX4_tally 4 = .ok (.istore_n 3, 1) := by decide +kernel
theorem dX4_tally_5 : decode cX4_tally 5 = .ok (.iload_n 3, 1) := by decide +kernel
theorem dX4_tally_6 : decode cX4_tally 6 = .ok (.ifCond .ge 14, 3) := by decide +kernel
theorem dX4_tally_9 : decode cX4_tally 9 = .ok (.aload_n 0, 1) := by decide +kernel
theorem dX4_tally_10 : decode cX4_tally 10 = .ok (.dup, 1) := by decide +kernel
theorem dX4_tally_11 : decode cX4_tally 11 = .ok (.getfield 15, 3) := by decide +kernel
theorem dX4_tally_14 : decode cX4_tally 14 = .ok (.iload_n 2, 1) := by decide +kernel
theorem dX4_tally_15 : decode cX4_tally 15 = .ok (.iadd, 1) := by decide +kernel
theorem dX4_tally_16 : decode cX4_tally 16 = .ok (.putfield 15, 3) := by decide +kernel
theorem dX4_tally_19 : decode cX4_tally 19 = .ok (.return_, 1) := by decide +kernel
theorem dX4_tally_20 : decode cX4_tally 20 = .ok (.aload_n 0, 1) := by decide +kernel
theorem dX4_tally_21 : decode cX4_tally 21 = .ok (.getfield 19, 3) := by decide +kernel
theorem dX4_tally_24 : decode cX4_tally 24 = .ok (.iload_n 3, 1) := by decide +kernel
theorem dX4_tally_25 : decode cX4_tally 25 = .ok (.dup2, 1) := by decide +kernel
theorem dX4_tally_26 : decode cX4_tally 26 = .ok (.iaload, 1) := by decide +kernel
theorem dX4_tally_27 : decode cX4_tally 27 = .ok (.iload_n 2, 1) := by decide +kernel
theorem dX4_tally_28 : decode cX4_tally 28 = .ok (.iadd, 1) := by decide +kernel
theorem dX4_tally_29 : decode cX4_tally 29 = .ok (.iastore, 1) := by decide +kernel
theorem dX4_tally_30 : decode cX4_tally 30 = .ok (.iload_n 1, 1) := by decide +kernel
theorem dX4_tally_31 : decode cX4_tally 31 = .ok (.iload_n 1, 1) := by decide +kernel
theorem dX4_tally_32 : decode cX4_tally 32 = .ok (.iconst 1, 1) := by decide +kernel
theorem dX4_tally_33 : decode cX4_tally 33 = .ok (.isub, 1) := by decide +kernel
theorem dX4_tally_34 : decode cX4_tally 34 = .ok (.iand, 1) := by decide +kernel
theorem dX4_tally_35 : decode cX4_tally 35 = .ok (.invokestatic 74, 3) := by decide +kernel
theorem dX4_tally_38 : decode cX4_tally 38 = .ok (.istore 4, 2) := by decide +kernel
theorem dX4_tally_40 : decode cX4_tally 40 = .ok (.iload 4, 2) := by decide +kernel
theorem dX4_tally_42 : decode cX4_tally 42 = .ok (.ifCond .lt 17, 3) := by decide +kernel
theorem dX4_tally_45 : decode cX4_tally 45 = .ok (.aload_n 0, 1) := by decide +kernel
theorem dX4_tally_46 : decode cX4_tally 46 = .ok (.iload 4, 2) := by decide +kernel
theorem dX4_tally_48 : decode cX4_tally 48 = .ok (.invokevirtual 78, 3) := by decide +kernel
theorem dX4_tally_51 : decode cX4_tally 51 = .ok (.aload_n 0, 1) := by decide +kernel
theorem dX4_tally_52 : decode cX4_tally 52 = .ok (.iload_n 3, 1) := by decide +kernel
theorem dX4_tally_53 : decode cX4_tally 53 = .ok (.invokevirtual 78, 3) := by decide +kernel
theorem dX4_tally_56 : decode cX4_tally 56 = .ok (.if_icmp .eq 10, 3) := by decide +kernel
theorem dX4_tally_59 : decode cX4_tally 59 = .ok (.aload_n 0, 1) := by decide +kernel
theorem dX4_tally_60 : decode cX4_tally 60 = .ok (.getfield 23, 3) := by decide +kernel
theorem dX4_tally_63 : decode cX4_tally 63 = .ok (.iload_n 3, 1) := by decide +kernel
theorem dX4_tally_64 : decode cX4_tally 64 = .ok (.iconst 1, 1) := by decide +kernel
theorem dX4_tally_65 : decode cX4_tally 65 = .ok (.bastore, 1) := by decide +kernel
theorem dX4_tally_66 : decode cX4_tally 66 = .ok (.return_, 1) := by decide +kernel
theorem dX4_actionAt_0 : decode cX4_actionAt 0 = .ok (.aload_n 0, 1) := by decide +kernel
theorem dX4_actionAt_1 : decode cX4_actionAt 1 = .ok (.getfield 38, 3) := by decide +kernel
theorem dX4_actionAt_4 : decode cX4_actionAt 4 = .ok (.getfield 81, 3) := by decide +kernel
theorem dX4_actionAt_7 : decode cX4_actionAt 7 = .ok (.aload_n 0, 1) := by decide +kernel
theorem dX4_actionAt_8 : decode cX4_actionAt 8 = .ok (.getfield 38, 3) := by decide +kernel
theorem dX4_actionAt_11 : decode cX4_actionAt 11 = .ok (.getfield 86, 3) := by decide +kernel
theorem dX4_actionAt_14 : decode cX4_actionAt 14 = .ok (.iload_n 1, 1) := by decide +kernel
theorem dX4_actionAt_15 : decode cX4_actionAt 15 = .ok (.iaload, 1) := by decide +kernel
theorem dX4_actionAt_16 : decode cX4_actionAt 16 = .ok (.iaload, 1) := by decide +kernel
theorem dX4_actionAt_17 : decode cX4_actionAt 17 = .ok (.ireturn, 1) := by decide +kernel
theorem dX4_wonByAction_0 : decode cX4_wonByAction 0 = .ok (.iconst 0, 1) := by decide +kernel
theorem dX4_wonByAction_1 : decode cX4_wonByAction 1 = .ok (.istore_n 2, 1) := by decide +kernel
theorem dX4_wonByAction_2 : decode cX4_wonByAction 2 = .ok (.iconst 0, 1) := by decide +kernel
theorem dX4_wonByAction_3 : decode cX4_wonByAction 3 = .ok (.istore_n 3, 1) := by decide +kernel
theorem dX4_wonByAction_4 : decode cX4_wonByAction 4 = .ok (.iload_n 3, 1) := by decide +kernel
theorem dX4_wonByAction_5 : decode cX4_wonByAction 5 = .ok (.aload_n 0, 1) := by decide +kernel
theorem dX4_wonByAction_6 : decode cX4_wonByAction 6 = .ok (.getfield 38, 3) := by decide +kernel
theorem dX4_wonByAction_9 : decode cX4_wonByAction 9 = .ok (.getfield 89, 3) := by decide +kernel
theorem dX4_wonByAction_12 : decode cX4_wonByAction 12 = .ok (.if_icmp .ge 27, 3) := by decide +kernel
theorem dX4_wonByAction_15 : decode cX4_wonByAction 15 = .ok (.aload_n 0, 1) := by decide +kernel
theorem dX4_wonByAction_16 : decode cX4_wonByAction 16 = .ok (.iload_n 3, 1) := by decide +kernel
theorem dX4_wonByAction_17 : decode cX4_wonByAction 17 = .ok (.invokevirtual 78, 3) := by decide +kernel
theorem dX4_wonByAction_20 : decode cX4_wonByAction 20 = .ok (.iload_n 1, 1) := by decide +kernel
theorem dX4_wonByAction_21 : decode cX4_wonByAction 21 = .ok (.if_icmp .ne 12, 3) := by decide +kernel
theorem dX4_wonByAction_24 : decode cX4_wonByAction 24 = .ok (.iload_n 2, 1) := by decide +kernel
theorem dX4_wonByAction_25 : decode cX4_wonByAction 25 = .ok (.aload_n 0, 1) := by decide +kernel
theorem dX4_wonByAction_26 : decode cX4_wonByAction 26 = .ok (.getfield 19, 3) := by decide +kernel
theorem dX4_wonByAction_29 : decode cX4_wonByAction 29 = .ok (.iload_n 3, 1) := by decide +kernel
theorem dX4_wonByAction_30 : decode cX4_wonByAction 30 = .ok (.iaload, 1) := by decide +kernel
theorem dX4_wonByAction_31 : decode cX4_wonByAction 31 = .ok (.iadd, 1) := by decide +kernel
theorem dX4_wonByAction_32 : decode cX4_wonByAction 32 = .ok (.istore_n 2, 1) := by decide +kernel
theorem dX4_wonByAction_33 : decode cX4_wonByAction 33 = .ok (.iinc 3 1, 3) := by decide +kernel
theorem dX4_wonByAction_36 : decode cX4_wonByAction 36 = .ok (.goto (-32), 3) := by decide +kernel
theorem dX4_wonByAction_39 : decode cX4_wonByAction 39 = .ok (.iload_n 2, 1) := by decide +kernel
theorem dX4_wonByAction_40 : decode cX4_wonByAction 40 = .ok (.ireturn, 1) := by decide +kernel
theorem dX5_init_0 : decode cX5_init 0 = .ok (.aload_n 0, 1) := by decide +kernel
theorem dX5_init_1 : decode cX5_init 1 = .ok (.invokespecial 3, 3) := by decide +kernel
theorem dX5_init_4 : decode cX5_init 4 = .ok (.aload_n 0, 1) := by decide +kernel
theorem dX5_init_5 : decode cX5_init 5 = .ok (.iconst 1, 1) := by decide +kernel
theorem dX5_init_6 : decode cX5_init 6 = .ok (.putfield 9, 3) := by decide +kernel
theorem dX5_init_9 : decode cX5_init 9 = .ok (.aload_n 0, 1) := by decide +kernel
theorem dX5_init_10 : decode cX5_init 10 = .ok (.iconst 0, 1) := by decide +kernel
theorem dX5_init_11 : decode cX5_init 11 = .ok (.putfield 15, 3) := by decide +kernel
theorem dX5_init_14 : decode cX5_init 14 = .ok (.aload_n 0, 1) := by decide +kernel
theorem dX5_init_15 : decode cX5_init 15 = .ok (.sipush 1029, 3) := by decide +kernel
theorem dX5_init_18 : decode cX5_init 18 = .ok (.newarray .int, 2) := by decide +kernel
theorem dX5_init_20 : decode cX5_init 20 = .ok (.putfield 19, 3) := by decide +kernel
theorem dX5_init_23 : decode cX5_init 23 = .ok (.aload_n 0, 1) := by decide +kernel
theorem dX5_init_24 : decode cX5_init 24 = .ok (.sipush 1029, 3) := by decide +kernel
theorem dX5_init_27 : decode cX5_init 27 = .ok (.newarray .int, 2) := by decide +kernel
theorem dX5_init_29 : decode cX5_init 29 = .ok (.putfield 23, 3) := by decide +kernel
theorem dX5_init_32 : decode cX5_init 32 = .ok (.aload_n 0, 1) := by decide +kernel
theorem dX5_init_33 : decode cX5_init 33 = .ok (.sipush 1029, 3) := by decide +kernel
theorem dX5_init_36 : decode cX5_init 36 = .ok (.newarray .int, 2) := by decide +kernel
theorem dX5_init_38 : decode cX5_init 38 = .ok (.putfield 26, 3) := by decide +kernel
theorem dX5_init_41 : decode cX5_init 41 = .ok (.aload_n 0, 1) := by decide +kernel
theorem dX5_init_42 : decode cX5_init 42 = .ok (.sipush 1029, 3) := by decide +kernel
theorem dX5_init_45 : decode cX5_init 45 = .ok (.newarray .int, 2) := by decide +kernel
theorem dX5_init_47 : decode cX5_init 47 = .ok (.putfield 29, 3) := by decide +kernel
theorem dX5_init_50 : decode cX5_init 50 = .ok (.aload_n 0, 1) := by decide +kernel
theorem dX5_init_51 : decode cX5_init 51 = .ok (.sipush 2048, 3) := by decide +kernel
theorem dX5_init_54 : decode cX5_init 54 = .ok (.newarray .int, 2) := by decide +kernel
theorem dX5_init_56 : decode cX5_init 56 = .ok (.putfield 32, 3) := by decide +kernel
theorem dX5_init_59 : decode cX5_init 59 = .ok (.aload_n 0, 1) := by decide +kernel
theorem dX5_init_60 : decode cX5_init 60 = .ok (.iconst 4, 1) := by decide +kernel
theorem dX5_init_61 : decode cX5_init 61 = .ok (.bipush 7, 2) := by decide +kernel
theorem dX5_init_63 : decode cX5_init 63 = .ok (.multianewarray 35 2, 4) := by decide +kernel
theorem dX5_init_67 : decode cX5_init 67 = .ok (.putfield 37, 3) := by decide +kernel
theorem dX5_init_70 : decode cX5_init 70 = .ok (.aload_n 0, 1) := by decide +kernel
theorem dX5_init_71 : decode cX5_init 71 = .ok (.iconst (-1), 1) := by decide +kernel
theorem dX5_init_72 : decode cX5_init 72 = .ok (.putfield 40, 3) := by decide +kernel
theorem dX5_init_75 : decode cX5_init 75 = .ok (.aload_n 0, 1) := by decide +kernel
theorem dX5_init_76 : decode cX5_init 76 = .ok (.iconst 0, 1) := by decide +kernel
theorem dX5_init_77 : decode cX5_init 77 = .ok (.putfield 43, 3) := by decide +kernel
theorem dX5_init_80 : decode cX5_init 80 = .ok (.aload_n 0, 1) := by decide +kernel
theorem dX5_init_81 : decode cX5_init 81 = .ok (.bipush 16, 2) := by decide +kernel
theorem dX5_init_83 : decode cX5_init 83 = .ok (.newarray .int, 2) := by decide +kernel
theorem dX5_init_85 : decode cX5_init 85 = .ok (.putfield 46, 3) := by decide +kernel
theorem dX5_init_88 : decode cX5_init 88 = .ok (.aload_n 0, 1) := by decide +kernel
theorem dX5_init_89 : decode cX5_init 89 = .ok (.aload_n 1, 1) := by decide +kernel
theorem dX5_init_90 : decode cX5_init 90 = .ok (.putfield 49, 3) := by decide +kernel
theorem dX5_init_93 : decode cX5_init 93 = .ok (.return_, 1) := by decide +kernel
theorem dX5_lengthIn_0 : decode cX5_lengthIn 0 = .ok (.aload_n 0, 1) := by decide +kernel
theorem dX5_lengthIn_1 : decode cX5_lengthIn 1 = .ok (.getfield 29, 3) := by decide +kernel
theorem dX5_lengthIn_4 : decode cX5_lengthIn 4 = .ok (.iload_n 1, 1) := by decide +kernel
theorem dX5_lengthIn_5 : decode cX5_lengthIn 5 = .ok (.iaload, 1) := by decide +kernel
theorem dX5_lengthIn_6 : decode cX5_lengthIn 6 = .ok (.getstatic 53, 3) := by decide +kernel
theorem dX5_lengthIn_9 : decode cX5_lengthIn 9 = .ok (.iload_n 2, 1) := by decide +kernel
theorem dX5_lengthIn_10 : decode cX5_lengthIn 10 = .ok (.iaload, 1) := by decide +kernel
theorem dX5_lengthIn_11 : decode cX5_lengthIn 11 = .ok (.ishr, 1) := by decide +kernel
theorem dX5_lengthIn_12 : decode cX5_lengthIn 12 = .ok (.getstatic 56, 3) := by decide +kernel
theorem dX5_lengthIn_15 : decode cX5_lengthIn 15 = .ok (.iload_n 2, 1) := by decide +kernel
theorem dX5_lengthIn_16 : decode cX5_lengthIn 16 = .ok (.iaload, 1) := by decide +kernel
theorem dX5_lengthIn_17 : decode cX5_lengthIn 17 = .ok (.iand, 1) := by decide +kernel
theorem dX5_lengthIn_18 : decode cX5_lengthIn 18 = .ok (.ireturn, 1) := by decide +kernel
theorem dX5_refresh_0 : decode cX5_refresh 0 = .ok (.aload_n 0, 1) := by decide +kernel
theorem dX5_refresh_1 : decode cX5_refresh 1 = .ok (.getfield 9, 3) := by decide +kernel
theorem dX5_refresh_4 : decode cX5_refresh 4 = .ok (.ifCond .ne 4, 3) := by decide +kernel
theorem dX5_refresh_7 : decode cX5_refresh 7 = .ok (.return_, 1) := by decide +kernel
theorem dX5_refresh_8 : decode cX5_refresh 8 = .ok (.aload_n 0, 1) := by decide +kernel
theorem dX5_refresh_9 : decode cX5_refresh 9 = .ok (.iconst 0, 1) := by decide +kernel
theorem dX5_refresh_10 : decode cX5_refresh 10 = .ok (.putfield 15, 3) := by decide +kernel
theorem dX5_refresh_13 : decode cX5_refresh 13 = .ok (.aload_n 0, 1) := by decide +kernel
theorem dX5_refresh_14 : decode cX5_refresh 14 = .ok (.getfield 32, 3) := by decide +kernel
theorem dX5_refresh_17 : decode cX5_refresh 17 = .ok (.iconst (-1), 1) := by decide +kernel
theorem dX5_refresh_18 : decode cX5_refresh 18 = .ok (.invokestatic 59, 3) := by decide +kernel
theorem dX5_refresh_21 : decode cX5_refresh 21 = .ok (.iconst 0, 1) := by decide +kernel
theorem dX5_refresh_22 : decode cX5_refresh 22 = .ok (.istore_n 1, 1) := by decide +kernel
theorem dX5_refresh_23 : decode cX5_refresh 23 = .ok (.iload_n 1, 1) := by decide +kernel
theorem dX5_refresh_24 : decode cX5_refresh 24 = .ok (.aload_n 0, 1) := by decide +kernel
theorem dX5_refresh_25 : decode cX5_refresh 25 = .ok (.getfield 49, 3) := by decide +kernel
theorem dX5_refresh_28 : decode cX5_refresh 28 = .ok (.getfield 65, 3) := by decide +kernel
theorem dX5_refresh_31 : decode cX5_refresh 31 = .ok (.if_icmp .ge 30, 3) := by decide +kernel
theorem dX5_refresh_34 : decode cX5_refresh 34 = .ok (.aload_n 0, 1) := by decide +kernel
theorem dX5_refresh_35 : decode cX5_refresh 35 = .ok (.aload_n 0, 1) := by decide +kernel
theorem dX5_refresh_36 : decode cX5_refresh 36 = .ok (.getfield 49, 3) := by decide +kernel
theorem dX5_refresh_39 : decode cX5_refresh 39 = .ok (.getfield 68, 3) := by decide +kernel
theorem dX5_refresh_42 : decode cX5_refresh 42 = .ok (.iload_n 1, 1) := by decide +kernel
theorem dX5_refresh_43 : decode cX5_refresh 43 = .ok (.iaload, 1) := by decide +kernel
theorem dX5_refresh_44 : decode cX5_refresh 44 = .ok (.invokevirtual 71, 3) := by decide +kernel
theorem dX5_refresh_47 : decode cX5_refresh 47 = .ok (.aload_n 0, 1) := by decide +kernel
theorem dX5_refresh_48 : decode cX5_refresh 48 = .ok (.iconst 0, 1) := by decide +kernel
theorem dX5_refresh_49 : decode cX5_refresh 49 = .ok (.iconst 0, 1) := by decide +kernel
theorem dX5_refresh_50 : decode cX5_refresh 50 = .ok (.iconst 1, 1) := by decide +kernel
theorem dX5_refresh_51 : decode cX5_refresh 51 = .ok (.iload_n 1, 1) := by decide +kernel
theorem dX5_refresh_52 : decode cX5_refresh 52 = .ok (.invokevirtual 75, 3) := by decide +kernel
theorem dX5_refresh_55 : decode cX5_refresh 55 = .ok (.iinc 1 1, 3) := by decide +kernel
theorem dX5_refresh_58 : decode cX5_refresh 58 = .ok (.goto (-35), 3) := by decide +kernel
theorem dX5_refresh_61 : decode cX5_refresh 61 = .ok (.aload_n 0, 1) := by decide +kernel
theorem dX5_refresh_62 : decode cX5_refresh 62 = .ok (.iconst 0, 1) := by decide +kernel
theorem dX5_refresh_63 : decode cX5_refresh 63 = .ok (.putfield 9, 3) := by decide +kernel
theorem dX5_refresh_66 : decode cX5_refresh 66 = .ok (.return_, 1) := by decide +kernel
theorem dX5_countPieces_0 : decode cX5_countPieces 0 = .ok (.iconst 0, 1) := by decide +kernel
theorem dX5_countPieces_1 : decode cX5_countPieces 1 = .ok (.istore_n 2, 1) := by decide +kernel
theorem dX5_countPieces_2 : decode cX5_countPieces 2 = .ok (.iload_n 2, 1) := by decide +kernel
theorem dX5_countPieces_3 : decode cX5_countPieces 3 = .ok (.iconst 4, 1) := by decide +kernel
theorem dX5_countPieces_4 : decode cX5_countPieces 4 = .ok (.if_icmp .ge 44, 3) := by decide +kernel
theorem dX5_countPieces_7 : decode cX5_countPieces 7 = .ok (.iconst 0, 1) := by decide +kernel
theorem dX5_countPieces_8 : decode cX5_countPieces 8 = .ok (.istore_n 3, 1) := by decide +kernel
theorem dX5_countPieces_9 : decode cX5_countPieces 9 = .ok (.iload_n 3, 1) := by decide +kernel
theorem dX5_countPieces_10 : decode cX5_countPieces 10 = .ok (.getstatic 79, 3) := by decide +kernel
theorem dX5_countPieces_13 : decode cX5_countPieces 13 = .ok (.iload_n 2, 1) := by decide +kernel
theorem dX5_countPieces_14 : decode cX5_countPieces 14 = .ok (.iaload, 1) := by decide +kernel
theorem dX5_countPieces_15 : decode cX5_countPieces 15 = .ok (.if_icmp .gt 27, 3) := by decide +kernel
theorem dX5_countPieces_18 : decode cX5_countPieces 18 = .ok (.aload_n 0, 1) := by decide +kernel
theorem dX5_countPieces_19 : decode cX5_countPieces 19 = .ok (.getfield 37, 3) := by decide +kernel
theorem dX5_countPieces_22 : decode cX5_countPieces 22 = .ok (.iload_n 2, 1) := by decide +kernel
theorem dX5_countPieces_23 : decode cX5_countPieces 23 = .ok (.aaload, 1) := by decide +kernel
theorem dX5_countPieces_24 : decode cX5_countPieces 24 = .ok (.iload_n 3, 1) := by decide +kernel
theorem dX5_countPieces_25 : decode cX5_countPieces 25 = .ok (.aload_n 0, 1) := by decide +kernel
theorem dX5_countPieces_26 : decode cX5_countPieces 26 = .ok (.getfield 49, 3) := by decide +kernel
theorem dX5_countPieces_29 : decode cX5_countPieces 29 = .ok (.iload_n 1, 1) := by decide +kernel
theorem dX5_countPieces_30 : decode cX5_countPieces 30 = .ok (.iload_n 2, 1) := by decide +kernel
theorem dX5_countPieces_31 : decode cX5_countPieces 31 = .ok (.iload_n 3, 1) := by decide +kernel
theorem dX5_countPieces_32 : decode cX5_countPieces 32 = .ok (.invokevirtual 82, 3) := by decide +kernel
theorem dX5_countPieces_35 : decode cX5_countPieces 35 = .ok (.iastore, 1) := by decide +kernel
theorem dX5_countPieces_36 : decode cX5_countPieces 36 = .ok (.iinc 3 1, 3) := by decide +kernel
theorem dX5_countPieces_39 : decode cX5_countPieces 39 = .ok (.goto (-30), 3) := by decide +kernel
theorem dX5_countPieces_42 : decode cX5_countPieces 42 = .ok (.iinc 2 1, 3) := by decide +kernel
theorem dX5_countPieces_45 : decode cX5_countPieces 45 = .ok (.goto (-43), 3) := by decide +kernel
theorem dX5_countPieces_48 : decode cX5_countPieces 48 = .ok (.return_, 1) := by decide +kernel
theorem dX5_enter_0 : decode cX5_enter 0 = .ok (.iload_n 1, 1) := by decide +kernel
theorem dX5_enter_1 : decode cX5_enter 1 = .ok (.iconst 4, 1) := by decide +kernel
theorem dX5_enter_2 : decode cX5_enter 2 = .ok (.if_icmp .lt 12, 3) := by decide +kernel
theorem dX5_enter_5 : decode cX5_enter 5 = .ok (.aload_n 0, 1) := by decide +kernel
theorem dX5_enter_6 : decode cX5_enter 6 = .ok (.iload_n 2, 1) := by decide +kernel
theorem dX5_enter_7 : decode cX5_enter 7 = .ok (.iload_n 3, 1) := by decide +kernel
theorem dX5_enter_8 : decode cX5_enter 8 = .ok (.iload 4, 2) := by decide +kernel
theorem dX5_enter_10 : decode cX5_enter 10 = .ok (.invokevirtual 86, 3) := by decide +kernel
theorem dX5_enter_13 : decode cX5_enter 13 = .ok (.return_, 1) := by decide +kernel
theorem dX5_enter_14 : decode cX5_enter 14 = .ok (.getstatic 79, 3) := by decide +kernel
theorem dX5_enter_17 : decode cX5_enter 17 = .ok (.iload_n 1, 1) := by decide +kernel
theorem dX5_enter_18 : decode cX5_enter 18 = .ok (.iaload, 1) := by decide +kernel
theorem dX5_enter_19 : decode cX5_enter 19 = .ok (.istore 5, 2) := by decide +kernel
theorem dX5_enter_21 : decode cX5_enter 21 = .ok (.iload 5, 2) := by decide +kernel
theorem dX5_enter_23 : decode cX5_enter 23 = .ok (.ifCond .lt 51, 3) := by decide +kernel
theorem dX5_enter_26 : decode cX5_enter 26 = .ok (.aload_n 0, 1) := by decide +kernel
theorem dX5_enter_27 : decode cX5_enter 27 = .ok (.getfield 37, 3) := by decide +kernel
theorem dX5_enter_30 : decode cX5_enter 30 = .ok (.iload_n 1, 1) := by decide +kernel
theorem dX5_enter_31 : decode cX5_enter 31 = .ok (.aaload, 1) := by decide +kernel
theorem dX5_enter_32 : decode cX5_enter 32 = .ok (.iload 5, 2) := by decide +kernel
theorem dX5_enter_34 : decode cX5_enter 34 = .ok (.iaload, 1) := by decide +kernel
theorem dX5_enter_35 : decode cX5_enter 35 = .ok (.ifCond .le 33, 3) := by decide +kernel
theorem dX5_enter_38 : decode cX5_enter 38 = .ok (.aload_n 0, 1) := by decide +kernel
theorem dX5_enter_39 : decode cX5_enter 39 = .ok (.iload_n 1, 1) := by decide +kernel
theorem dX5_enter_40 : decode cX5_enter 40 = .ok (.iconst 1, 1) := by decide +kernel
theorem dX5_enter_41 : decode cX5_enter 41 = .ok (.iadd, 1) := by decide +kernel
theorem dX5_enter_42 : decode cX5_enter 42 = .ok (.iload_n 2, 1) := by decide +kernel
theorem dX5_enter_43 : decode cX5_enter 43 = .ok (.iload 5, 2) := by decide +kernel
theorem dX5_enter_45 : decode cX5_enter 45 = .ok (.getstatic 53, 3) := by decide +kernel
theorem dX5_enter_48 : decode cX5_enter 48 = .ok (.iload_n 1, 1) := by decide +kernel
theorem dX5_enter_49 : decode cX5_enter 49 = .ok (.iaload, 1) := by decide +kernel
theorem dX5_enter_50 : decode cX5_enter 50 = .ok (.ishl, 1) := by decide +kernel
theorem dX5_enter_51 : decode cX5_enter 51 = .ok (.ior, 1) := by decide +kernel
theorem dX5_enter_52 : decode cX5_enter 52 = .ok (.iload_n 3, 1) := by decide +kernel
theorem dX5_enter_53 : decode cX5_enter 53 = .ok (.aload_n 0, 1) := by decide +kernel
theorem dX5_enter_54 : decode cX5_enter 54 = .ok (.getfield 37, 3) := by decide +kernel
theorem dX5_enter_57 : decode cX5_enter 57 = .ok (.iload_n 1, 1) := by decide +kernel
theorem dX5_enter_58 : decode cX5_enter 58 = .ok (.aaload, 1) := by decide +kernel
theorem dX5_enter_59 : decode cX5_enter 59 = .ok (.iload 5, 2) := by decide +kernel
theorem dX5_enter_61 : decode cX5_enter 61 = .ok (.iaload, 1) := by decide +kernel
theorem dX5_enter_62 : decode cX5_enter 62 = .ok (.imul, 1) := by decide +kernel
theorem dX5_enter_63 : decode cX5_enter 63 = .ok (.iload 4, 2) := by decide +kernel
theorem dX5_enter_65 : decode cX5_enter 65 = .ok (.invokevirtual 75, 3) := by decide +kernel
theorem dX5_enter_68 : decode cX5_enter 68 = .ok (.iinc 5 (-1), 3) := by decide +kernel
theorem dX5_enter_71 : decode cX5_enter 71 = .ok (.goto (-50), 3) := by decide +kernel
theorem dX5_enter_74 : decode cX5_enter 74 = .ok (.return_, 1) := by decide +kernel
theorem dX5_put_0 : decode cX5_put 0 = .ok (.aload_n 0, 1) := by decide +kernel
theorem dX5_put_1 : decode cX5_put 1 = .ok (.getfield 32, 3) := by decide +kernel
theorem dX5_put_4 : decode cX5_put 4 = .ok (.iload_n 1, 1) := by decide +kernel
theorem dX5_put_5 : decode cX5_put 5 = .ok (.iaload, 1) := by decide +kernel
theorem dX5_put_6 : decode cX5_put 6 = .ok (.istore 4, 2) := by decide +kernel
theorem dX5_put_8 : decode cX5_put 8 = .ok (.iload 4, 2) := by decide +kernel
theorem dX5_put_10 : decode cX5_put 10 = .ok (.ifCond .ge 70, 3) := by decide +kernel
theorem dX5_put_13 : decode cX5_put 13 = .ok (.aload_n 0, 1) := by decide +kernel
theorem dX5_put_14 : decode cX5_put 14 = .ok (.getfield 15, 3) := by decide +kernel
theorem dX5_put_17 : decode cX5_put 17 = .ok (.sipush 1029, 3) := by decide +kernel
theorem dX5_put_20 : decode cX5_put 20 = .ok (.if_icmp .lt 4, 3) := by decide +kernel
theorem dX5_put_23 : decode cX5_put 23 = .ok (.return_, 1) := by decide +kernel
theorem dX5_put_24 : decode cX5_put 24 = .ok (.aload_n 0, 1) := by decide +kernel
theorem dX5_put_25 : decode cX5_put 25 = .ok (.getfield 15, 3) := by decide +kernel
theorem dX5_put_28 : decode cX5_put 28 = .ok (.istore 4, 2) := by decide +kernel
theorem dX5_put_30 : decode cX5_put 30 = .ok (.aload_n 0, 1) := by decide +kernel
theorem dX5_put_31 : decode cX5_put 31 = .ok (.dup, 1) := by decide +kernel
theorem dX5_put_32 : decode cX5_put 32 = .ok (.getfield 15, 3) := by decide +kernel
theorem dX5_put_35 : decode cX5_put 35 = .ok (.iconst 1, 1) := by decide +kernel
theorem dX5_put_36 : decode cX5_put 36 = .ok (.iadd, 1) := by decide +kernel
theorem dX5_put_37 : decode cX5_put 37 = .ok (.putfield 15, 3) := by decide +kernel
theorem dX5_put_40 : decode cX5_put 40 = .ok (.aload_n 0, 1) := by decide +kernel
theorem dX5_put_41 : decode cX5_put 41 = .ok (.getfield 32, 3) := by decide +kernel
theorem dX5_put_44 : decode cX5_put 44 = .ok (.iload_n 1, 1) := by decide +kernel
theorem dX5_put_45 : decode cX5_put 45 = .ok (.iload 4, 2) := by decide +kernel
theorem dX5_put_47 : decode cX5_put 47 = .ok (.iastore, 1) := by decide +kernel
theorem dX5_put_48 : decode cX5_put 48 = .ok (.aload_n 0, 1) := by decide +kernel
theorem dX5_put_49 : decode cX5_put 49 = .ok (.getfield 29, 3) := by decide +kernel
theorem dX5_put_52 : decode cX5_put 52 = .ok (.iload 4, 2) := by decide +kernel
theorem dX5_put_54 : decode cX5_put 54 = .ok (.iload_n 1, 1) := by decide +kernel
theorem dX5_put_55 : decode cX5_put 55 = .ok (.iastore, 1) := by decide +kernel
theorem dX5_put_56 : decode cX5_put 56 = .ok (.aload_n 0, 1) := by decide +kernel
theorem dX5_put_57 : decode cX5_put 57 = .ok (.getfield 23, 3) := by decide +kernel
theorem dX5_put_60 : decode cX5_put 60 = .ok (.iload 4, 2) := by decide +kernel
theorem dX5_put_62 : decode cX5_put 62 = .ok (.iload_n 3, 1) := by decide +kernel
theorem dX5_put_63 : decode cX5_put 63 = .ok (.iastore, 1) := by decide +kernel
theorem dX5_put_64 : decode cX5_put 64 = .ok (.aload_n 0, 1) := by decide +kernel
theorem dX5_put_65 : decode cX5_put 65 = .ok (.getfield 19, 3) := by decide +kernel
theorem dX5_put_68 : decode cX5_put 68 = .ok (.iload 4, 2) := by decide +kernel
theorem dX5_put_70 : decode cX5_put 70 = .ok (.iconst 0, 1) := by decide +kernel
theorem dX5_put_71 : decode cX5_put 71 = .ok (.iastore, 1) := by decide +kernel
theorem dX5_put_72 : decode cX5_put 72 = .ok (.aload_n 0, 1) := by decide +kernel
theorem dX5_put_73 : decode cX5_put 73 = .ok (.getfield 26, 3) := by decide +kernel
theorem dX5_put_76 : decode cX5_put 76 = .ok (.iload 4, 2) := by decide +kernel
theorem dX5_put_78 : decode cX5_put 78 = .ok (.iconst 0, 1) := by decide +kernel
theorem dX5_put_79 : decode cX5_put 79 = .ok (.iastore, 1) := by decide +kernel
theorem dX5_put_80 : decode cX5_put 80 = .ok (.aload_n 0, 1) := by decide +kernel
theorem dX5_put_81 : decode cX5_put 81 = .ok (.getfield 19, 3) := by decide +kernel
theorem dX5_put_84 : decode cX5_put 84 = .ok (.iload 4, 2) := by decide +kernel
theorem dX5_put_86 : decode cX5_put 86 = .ok (.dup2, 1) := by decide +kernel
theorem dX5_put_87 : decode cX5_put 87 = .ok (.iaload, 1) := by decide +kernel
theorem dX5_put_88 : decode cX5_put 88 = .ok (.iload_n 2, 1) := by decide +kernel
theorem dX5_put_89 : decode cX5_put 89 = .ok (.iadd, 1) := by decide +kernel
theorem dX5_put_90 : decode cX5_put 90 = .ok (.iastore, 1) := by decide +kernel
theorem dX5_put_91 : decode cX5_put 91 = .ok (.aload_n 0, 1) := by decide +kernel
theorem dX5_put_92 : decode cX5_put 92 = .ok (.getfield 26, 3) := by decide +kernel
theorem dX5_put_95 : decode cX5_put 95 = .ok (.iload 4, 2) := by decide +kernel
theorem dX5_put_97 : decode cX5_put 97 = .ok (.dup2, 1) := by decide +kernel
theorem dX5_put_98 : decode cX5_put 98 = .ok (.iaload, 1) := by decide +kernel
theorem dX5_put_99 : decode cX5_put 99 = .ok (.iconst 1, 1) := by decide +kernel
theorem dX5_put_100 : decode cX5_put 100 = .ok (.iadd, 1) := by decide +kernel
theorem dX5_put_101 : decode cX5_put 101 = .ok (.iastore, 1) := by decide +kernel
theorem dX5_put_102 : decode cX5_put 102 = .ok (.return_, 1) := by decide +kernel
theorem dX5_search_0 : decode cX5_search 0 = .ok (.iconst 0, 1) := by decide +kernel
theorem dX5_search_1 : decode cX5_search 1 = .ok (.istore_n 2, 1) := by decide +kernel
theorem dX5_search_2 : decode cX5_search 2 = .ok (.iload_n 2, 1) := by decide +kernel
theorem dX5_search_3 : decode cX5_search 3 = .ok (.aload_n 0, 1) := by decide +kernel
theorem dX5_search_4 : decode cX5_search 4 = .ok (.getfield 49, 3) := by decide +kernel
theorem dX5_search_7 : decode cX5_search 7 = .ok (.getfield 65, 3) := by decide +kernel
theorem dX5_search_10 : decode cX5_search 10 = .ok (.if_icmp .ge 29, 3) := by decide +kernel
theorem dX5_search_13 : decode cX5_search 13 = .ok (.aload_n 0, 1) := by decide +kernel
theorem dX5_search_14 : decode cX5_search 14 = .ok (.getfield 46, 3) := by decide +kernel
theorem dX5_search_17 : decode cX5_search 17 = .ok (.iload_n 2, 1) := by decide +kernel
theorem dX5_search_18 : decode cX5_search 18 = .ok (.aload_n 0, 1) := by decide +kernel
theorem dX5_search_19 : decode cX5_search 19 = .ok (.aload_n 0, 1) := by decide +kernel
theorem dX5_search_20 : decode cX5_search 20 = .ok (.getfield 49, 3) := by decide +kernel
theorem dX5_search_23 : decode cX5_search 23 = .ok (.getfield 68, 3) := by decide +kernel
theorem dX5_search_26 : decode cX5_search 26 = .ok (.iload_n 2, 1) := by decide +kernel
theorem dX5_search_27 : decode cX5_search 27 = .ok (.iaload, 1) := by decide +kernel
theorem dX5_search_28 : decode cX5_search 28 = .ok (.aload_n 1, 1) := by decide +kernel
theorem dX5_search_29 : decode cX5_search 29 = .ok (.invokevirtual 90, 3) := by decide +kernel
theorem dX5_search_32 : decode cX5_search 32 = .ok (.iastore, 1) := by decide +kernel
theorem dX5_search_33 : decode cX5_search 33 = .ok (.iinc 2 1, 3) := by decide +kernel
theorem dX5_search_36 : decode cX5_search 36 = .ok (.goto (-34), 3) := by decide +kernel
theorem dX5_search_39 : decode cX5_search 39 = .ok (.aload_n 0, 1) := by decide +kernel
theorem dX5_search_40 : decode cX5_search 40 = .ok (.iconst (-1), 1) := by decide +kernel
theorem dX5_search_41 : decode cX5_search 41 = .ok (.putfield 40, 3) := by decide +kernel
theorem dX5_search_44 : decode cX5_search 44 = .ok (.aload_n 0, 1) := by decide +kernel
theorem dX5_search_45 : decode cX5_search 45 = .ok (.iconst 0, 1) := by decide +kernel
theorem dX5_search_46 : decode cX5_search 46 = .ok (.putfield 43, 3) := by decide +kernel
theorem dX5_search_49 : decode cX5_search 49 = .ok (.iconst 0, 1) := by decide +kernel
theorem dX5_search_50 : decode cX5_search 50 = .ok (.istore_n 2, 1) := by decide +kernel
theorem dX5_search_51 : decode cX5_search 51 = .ok (.iload_n 2, 1) := by decide +kernel
theorem dX5_search_52 : decode cX5_search 52 = .ok (.aload_n 0, 1) := by decide +kernel
theorem dX5_search_53 : decode cX5_search 53 = .ok (.getfield 15, 3) := by decide +kernel
theorem dX5_search_56 : decode cX5_search 56 = .ok (.if_icmp .ge 75, 3) := by decide +kernel
theorem dX5_search_59 : decode cX5_search 59 = .ok (.aload_n 0, 1) := by decide +kernel
theorem dX5_search_60 : decode cX5_search 60 = .ok (.getfield 40, 3) := by decide +kernel
theorem dX5_search_63 : decode cX5_search 63 = .ok (.ifCond .lt 17, 3) := by decide +kernel
theorem dX5_search_66 : decode cX5_search 66 = .ok (.aload_n 0, 1) := by decide +kernel
theorem dX5_search_67 : decode cX5_search 67 = .ok (.getfield 23, 3) := by decide +kernel
theorem dX5_search_70 : decode cX5_search 70 = .ok (.iload_n 2, 1) := by decide +kernel
theorem dX5_search_71 : decode cX5_search 71 = .ok (.iaload, 1) := by decide +kernel
theorem dX5_search_72 : decode cX5_search 72 = .ok (.aload_n 0, 1) := by decide +kernel
theorem dX5_search_73 : decode cX5_search 73 = .ok (.getfield 40, 3) := by decide +kernel
theorem dX5_search_76 : decode cX5_search 76 = .ok (.if_icmp .lt 4, 3) := by decide +kernel
theorem dX5_search_79 : decode cX5_search 79 = .ok (.return_, 1) := by decide +kernel
theorem dX5_search_80 : decode cX5_search 80 = .ok (.aload_n 0, 1) := by decide +kernel
theorem dX5_search_81 : decode cX5_search 81 = .ok (.dup, 1) := by decide +kernel
theorem dX5_search_82 : decode cX5_search 82 = .ok (.getfield 43, 3) := by decide +kernel
theorem dX5_search_85 : decode cX5_search 85 = .ok (.iconst 1, 1) := by decide +kernel
theorem dX5_search_86 : decode cX5_search 86 = .ok (.iadd, 1) := by decide +kernel
theorem dX5_search_87 : decode cX5_search 87 = .ok (.putfield 43, 3) := by decide +kernel
theorem dX5_search_90 : decode cX5_search 90 = .ok (.aload_n 0, 1) := by decide +kernel
theorem dX5_search_91 : decode cX5_search 91 = .ok (.aload_n 0, 1) := by decide +kernel
theorem dX5_search_92 : decode cX5_search 92 = .ok (.getfield 29, 3) := by decide +kernel
theorem dX5_search_95 : decode cX5_search 95 = .ok (.iload_n 2, 1) := by decide +kernel
theorem dX5_search_96 : decode cX5_search 96 = .ok (.iaload, 1) := by decide +kernel
theorem dX5_search_97 : decode cX5_search 97 = .ok (.invokevirtual 94, 3) := by decide +kernel
theorem dX5_search_100 : decode cX5_search 100 = .ok (.istore_n 3, 1) := by decide +kernel
theorem dX5_search_101 : decode cX5_search 101 = .ok (.iload_n 3, 1) := by decide +kernel
theorem dX5_search_102 : decode cX5_search 102 = .ok (.ifCond .lt 23, 3) := by decide +kernel
theorem dX5_search_105 : decode cX5_search 105 = .ok (.aload_n 0, 1) := by decide +kernel
theorem dX5_search_106 : decode cX5_search 106 = .ok (.getfield 40, 3) := by decide +kernel
theorem dX5_search_109 : decode cX5_search 109 = .ok (.ifCond .lt 11, 3) := by decide +kernel
theorem dX5_search_112 : decode cX5_search 112 = .ok (.iload_n 3, 1) := by decide +kernel
theorem dX5_search_113 : decode cX5_search 113 = .ok (.aload_n 0, 1) := by decide +kernel
theorem dX5_search_114 : decode cX5_search 114 = .ok (.getfield 40, 3) := by decide +kernel
theorem dX5_search_117 : decode cX5_search 117 = .ok (.if_icmp .ge 8, 3) := by decide +kernel
theorem dX5_search_120 : decode cX5_search 120 = .ok (.aload_n 0, 1) := by decide +kernel
theorem dX5_search_121 : decode cX5_search 121 = .ok (.iload_n 3, 1) := by decide +kernel
theorem dX5_search_122 : decode cX5_search 122 = .ok (.putfield 40, 3) := by decide +kernel
theorem dX5_search_125 : decode cX5_search 125 = .ok (.iinc 2 1, 3) := by decide +kernel
theorem dX5_search_128 : decode cX5_search 128 = .ok (.goto (-77), 3) := by decide +kernel
theorem dX5_search_131 : decode cX5_search 131 = .ok (.return_, 1) := by decide +kernel
theorem dX5_packetKey_0 : decode cX5_packetKey 0 = .ok (.iconst 0, 1) := by decide +kernel
theorem dX5_packetKey_1 : decode cX5_packetKey 1 = .ok (.istore_n 3, 1) := by decide +kernel
theorem dX5_packetKey_2 : decode cX5_packetKey 2 = .ok (.iconst 0, 1) := by decide +kernel
theorem dX5_packetKey_3 : decode cX5_packetKey 3 = .ok (.istore 4, 2) := by decide +kernel
theorem dX5_packetKey_5 : decode cX5_packetKey 5 = .ok (.iload 4, 2) := by decide +kernel
theorem dX5_packetKey_7 : decode cX5_packetKey 7 = .ok (.iconst 4, 1) := by decide +kernel
theorem dX5_packetKey_8 : decode cX5_packetKey 8 = .ok (.if_icmp .ge 52, 3) := by decide +kernel
theorem dX5_packetKey_11 : decode cX5_packetKey 11 = .ok (.aload_n 0, 1) := by decide +kernel
theorem dX5_packetKey_12 : decode cX5_packetKey 12 = .ok (.getfield 49, 3) := by decide +kernel
theorem dX5_packetKey_15 : decode cX5_packetKey 15 = .ok (.iload_n 1, 1) := by decide +kernel
theorem dX5_packetKey_16 : decode cX5_packetKey 16 = .ok (.iload 4, 2) := by decide +kernel
theorem dX5_packetKey_18 : decode cX5_packetKey 18 = .ok (.aload_n 2, 1) := by decide +kernel
theorem dX5_packetKey_19 : decode cX5_packetKey 19 = .ok (.iload 4, 2) := by decide +kernel
theorem dX5_packetKey_21 : decode cX5_packetKey 21 = .ok (.iaload, 1) := by decide +kernel
theorem dX5_packetKey_22 : decode cX5_packetKey 22 = .ok (.invokevirtual 98, 3) := by decide +kernel
theorem dX5_packetKey_25 : decode cX5_packetKey 25 = .ok (.ifCond .ne 5, 3) := by decide +kernel
theorem dX5_packetKey_28 : decode cX5_packetKey 28 = .ok (.iconst (-1), 1) := by decide +kernel
theorem dX5_packetKey_29 : decode cX5_packetKey 29 = .ok (.ireturn, 1) := by decide +kernel
theorem dX5_packetKey_30 : decode cX5_packetKey 30 = .ok (.iload_n 3, 1) := by decide +kernel
theorem dX5_packetKey_31 : decode cX5_packetKey 31 = .ok (.aload_n 0, 1) := by decide +kernel
theorem dX5_packetKey_32 : decode cX5_packetKey 32 = .ok (.getfield 49, 3) := by decide +kernel
theorem dX5_packetKey_35 : decode cX5_packetKey 35 = .ok (.iload_n 1, 1) := by decide +kernel
theorem dX5_packetKey_36 : decode cX5_packetKey 36 = .ok (.iload 4, 2) := by decide +kernel
theorem dX5_packetKey_38 : decode cX5_packetKey 38 = .ok (.aload_n 2, 1) := by decide +kernel
theorem dX5_packetKey_39 : decode cX5_packetKey 39 = .ok (.iload 4, 2) := by decide +kernel
theorem dX5_packetKey_41 : decode cX5_packetKey 41 = .ok (.iaload, 1) := by decide +kernel
theorem dX5_packetKey_42 : decode cX5_packetKey 42 = .ok (.invokevirtual 102, 3) := by decide +kernel
theorem dX5_packetKey_45 : decode cX5_packetKey 45 = .ok (.getstatic 53, 3) := by decide +kernel
theorem dX5_packetKey_48 : decode cX5_packetKey 48 = .ok (.iload 4, 2) := by decide +kernel
theorem dX5_packetKey_50 : decode cX5_packetKey 50 = .ok (.iaload, 1) := by decide +kernel
theorem dX5_packetKey_51 : decode cX5_packetKey 51 = .ok (.ishl, 1) := by decide +kernel
theorem dX5_packetKey_52 : decode cX5_packetKey 52 = .ok (.ior, 1) := by decide +kernel
theorem dX5_packetKey_53 : decode cX5_packetKey 53 = .ok (.istore_n 3, 1) := by decide +kernel
theorem dX5_packetKey_54 : decode cX5_packetKey 54 = .ok (.iinc 4 1, 3) := by decide +kernel
theorem dX5_packetKey_57 : decode cX5_packetKey 57 = .ok (.goto (-52), 3) := by decide +kernel
theorem dX5_packetKey_60 : decode cX5_packetKey 60 = .ok (.iload_n 3, 1) := by decide +kernel
theorem dX5_packetKey_61 : decode cX5_packetKey 61 = .ok (.ireturn, 1) := by decide +kernel
theorem dX5_firstWithKey_0 : decode cX5_firstWithKey 0 = .ok (.iconst 0, 1) := by decide +kernel
theorem dX5_firstWithKey_1 : decode cX5_firstWithKey 1 = .ok (.istore_n 2, 1) := by decide +kernel
theorem dX5_firstWithKey_2 : decode cX5_firstWithKey 2 = .ok (.iload_n 2, 1) := by decide +kernel
theorem dX5_firstWithKey_3 : decode cX5_firstWithKey 3 = .ok (.aload_n 0, 1) := by decide +kernel
theorem dX5_firstWithKey_4 : decode cX5_firstWithKey 4 = .ok (.getfield 49, 3) := by decide +kernel
theorem dX5_firstWithKey_7 : decode cX5_firstWithKey 7 = .ok (.getfield 65, 3) := by decide +kernel
theorem dX5_firstWithKey_10 : decode cX5_firstWithKey 10 = .ok (.if_icmp .ge 21, 3) := by decide +kernel
theorem dX5_firstWithKey_13 : decode cX5_firstWithKey 13 = .ok (.aload_n 0, 1) := by decide +kernel
theorem dX5_firstWithKey_14 : decode cX5_firstWithKey 14 = .ok (.getfield 46, 3) := by decide +kernel
theorem dX5_firstWithKey_17 : decode cX5_firstWithKey 17 = .ok (.iload_n 2, 1) := by decide +kernel
theorem dX5_firstWithKey_18 : decode cX5_firstWithKey 18 = .ok (.iaload, 1) := by decide +kernel
theorem dX5_firstWithKey_19 : decode cX5_firstWithKey 19 = .ok (.iload_n 1, 1) := by decide +kernel
theorem dX5_firstWithKey_20 : decode cX5_firstWithKey 20 = .ok (.if_icmp .ne 5, 3) := by decide +kernel
theorem dX5_firstWithKey_23 : decode cX5_firstWithKey 23 = .ok (.iload_n 2, 1) := by decide +kernel
theorem dX5_firstWithKey_24 : decode cX5_firstWithKey 24 = .ok (.ireturn, 1) := by decide +kernel
theorem dX5_firstWithKey_25 : decode cX5_firstWithKey 25 = .ok (.iinc 2 1, 3) := by decide +kernel
theorem dX5_firstWithKey_28 : decode cX5_firstWithKey 28 = .ok (.goto (-26), 3) := by decide +kernel
theorem dX5_firstWithKey_31 : decode cX5_firstWithKey 31 = .ok (.iconst (-1), 1) := by decide +kernel
theorem dX5_firstWithKey_32 : decode cX5_firstWithKey 32 = .ok (.ireturn, 1) := by decide +kernel
theorem dX6_init_0 : decode cX6_init 0 = .ok (.aload_n 0, 1) := by decide +kernel
theorem dX6_init_1 : decode cX6_init 1 = .ok (.invokespecial 1, 3) := by decide +kernel
theorem dX6_init_4 : decode cX6_init 4 = .ok (.aload_n 0, 1) := by decide +kernel
theorem dX6_init_5 : decode cX6_init 5 = .ok (.new 7, 3) := by decide +kernel
theorem dX6_init_8 : decode cX6_init 8 = .ok (.dup, 1) := by decide +kernel
theorem dX6_init_9 : decode cX6_init 9 = .ok (.invokespecial 9, 3) := by decide +kernel
theorem dX6_init_12 : decode cX6_init 12 = .ok (.putfield 10, 3) := by decide +kernel
theorem dX6_init_15 : decode cX6_init 15 = .ok (.aload_n 0, 1) := by decide +kernel
theorem dX6_init_16 : decode cX6_init 16 = .ok (.new 16, 3) := by decide +kernel
theorem dX6_init_19 : decode cX6_init 19 = .ok (.dup, 1) := by decide +kernel
theorem dX6_init_20 : decode cX6_init 20 = .ok (.aload_n 0, 1) := by decide +kernel
theorem dX6_init_21 : decode cX6_init 21 = .ok (.getfield 10, 3) := by decide +kernel
theorem dX6_init_24 : decode cX6_init 24 = .ok (.invokespecial 18, 3) := by decide +kernel
theorem dX6_init_27 : decode cX6_init 27 = .ok (.putfield 21, 3) := by decide +kernel
theorem dX6_init_30 : decode cX6_init 30 = .ok (.aload_n 0, 1) := by decide +kernel
theorem dX6_init_31 : decode cX6_init 31 = .ok (.new 25, 3) := by decide +kernel
theorem dX6_init_34 : decode cX6_init 34 = .ok (.dup, 1) := by decide +kernel
theorem dX6_init_35 : decode cX6_init 35 = .ok (.aload_n 0, 1) := by decide +kernel
theorem dX6_init_36 : decode cX6_init 36 = .ok (.getfield 10, 3) := by decide +kernel
theorem dX6_init_39 : decode cX6_init 39 = .ok (.aload_n 0, 1) := by decide +kernel
theorem dX6_init_40 : decode cX6_init 40 = .ok (.getfield 21, 3) := by decide +kernel
theorem dX6_init_43 : decode cX6_init 43 = .ok (.invokespecial 27, 3) := by decide +kernel
theorem dX6_init_46 : decode cX6_init 46 = .ok (.putfield 30, 3) := by decide +kernel
theorem dX6_init_49 : decode cX6_init 49 = .ok (.aload_n 0, 1) := by decide +kernel
theorem dX6_init_50 : decode cX6_init 50 = .ok (.new 34, 3) := by decide +kernel
theorem dX6_init_53 : decode cX6_init 53 = .ok (.dup, 1) := by decide +kernel
theorem dX6_init_54 : decode cX6_init 54 = .ok (.aload_n 0, 1) := by decide +kernel
theorem dX6_init_55 : decode cX6_init 55 = .ok (.getfield 10, 3) := by decide +kernel
theorem dX6_init_58 : decode cX6_init 58 = .ok (.invokespecial 36, 3) := by decide +kernel
theorem dX6_init_61 : decode cX6_init 61 = .ok (.putfield 37, 3) := by decide +kernel
theorem dX6_init_64 : decode cX6_init 64 = .ok (.aload_n 0, 1) := by decide +kernel
theorem dX6_init_65 : decode cX6_init 65 = .ok (.new 41, 3) := by decide +kernel
theorem dX6_init_68 : decode cX6_init 68 = .ok (.dup, 1) := by decide +kernel
theorem dX6_init_69 : decode cX6_init 69 = .ok (.aload_n 0, 1) := by decide +kernel
theorem dX6_init_70 : decode cX6_init 70 = .ok (.getfield 21, 3) := by decide +kernel
theorem dX6_init_73 : decode cX6_init 73 = .ok (.invokespecial 43, 3) := by decide +kernel
theorem dX6_init_76 : decode cX6_init 76 = .ok (.putfield 46, 3) := by decide +kernel
theorem dX6_init_79 : decode cX6_init 79 = .ok (.aload_n 0, 1) := by decide +kernel
theorem dX6_init_80 : decode cX6_init 80 = .ok (.iconst 2, 1) := by decide +kernel
theorem dX6_init_81 : decode cX6_init 81 = .ok (.anewarray 50, 3) := by decide +kernel
theorem dX6_init_84 : decode cX6_init 84 = .ok (.putfield 52, 3) := by decide +kernel
theorem dX6_init_87 : decode cX6_init 87 = .ok (.iconst 0, 1) := by decide +kernel
theorem dX6_init_88 : decode cX6_init 88 = .ok (.istore_n 1, 1) := by decide +kernel
theorem dX6_init_89 : decode cX6_init 89 = .ok (.iload_n 1, 1) := by decide +kernel
theorem dX6_init_90 : decode cX6_init 90 = .ok (.iconst 2, 1) := by decide +kernel
theorem dX6_init_91 : decode cX6_init 91 = .ok (.if_icmp .ge 22, 3) := by decide +kernel
theorem dX6_init_94 : decode cX6_init 94 = .ok (.aload_n 0, 1) := by decide +kernel
theorem dX6_init_95 : decode cX6_init 95 = .ok (.getfield 52, 3) := by decide +kernel
theorem dX6_init_98 : decode cX6_init 98 = .ok (.iload_n 1, 1) := by decide +kernel
theorem dX6_init_99 : decode cX6_init 99 = .ok (.new 50, 3) := by decide +kernel
theorem dX6_init_102 : decode cX6_init 102 = .ok (.dup, 1) := by decide +kernel
theorem dX6_init_103 : decode cX6_init 103 = .ok (.invokespecial 56, 3) := by decide +kernel
theorem dX6_init_106 : decode cX6_init 106 = .ok (.aastore, 1) := by decide +kernel
theorem dX6_init_107 : decode cX6_init 107 = .ok (.iinc 1 1, 3) := by decide +kernel
theorem dX6_init_110 : decode cX6_init 110 = .ok (.goto (-21), 3) := by decide +kernel
theorem dX6_init_113 : decode cX6_init 113 = .ok (.aload_n 0, 1) := by decide +kernel
theorem dX6_init_114 : decode cX6_init 114 = .ok (.iconst 4, 1) := by decide +kernel
theorem dX6_init_115 : decode cX6_init 115 = .ok (.newarray .int, 2) := by decide +kernel
theorem dX6_init_117 : decode cX6_init 117 = .ok (.putfield 57, 3) := by decide +kernel
theorem dX6_init_120 : decode cX6_init 120 = .ok (.aload_n 0, 1) := by decide +kernel
theorem dX6_init_121 : decode cX6_init 121 = .ok (.iconst 4, 1) := by decide +kernel
theorem dX6_init_122 : decode cX6_init 122 = .ok (.newarray .int, 2) := by decide +kernel
theorem dX6_init_124 : decode cX6_init 124 = .ok (.putfield 61, 3) := by decide +kernel
theorem dX6_init_127 : decode cX6_init 127 = .ok (.aload_n 0, 1) := by decide +kernel
theorem dX6_init_128 : decode cX6_init 128 = .ok (.iconst 4, 1) := by decide +kernel
theorem dX6_init_129 : decode cX6_init 129 = .ok (.newarray .int, 2) := by decide +kernel
theorem dX6_init_131 : decode cX6_init 131 = .ok (.putfield 64, 3) := by decide +kernel
theorem dX6_init_134 : decode cX6_init 134 = .ok (.aload_n 0, 1) := by decide +kernel
theorem dX6_init_135 : decode cX6_init 135 = .ok (.invokevirtual 67, 3) := by decide +kernel
theorem dX6_init_138 : decode cX6_init 138 = .ok (.return_, 1) := by decide +kernel
theorem dX6_draft_0 : decode cX6_draft 0 = .ok (.iload_n 1, 1) := by decide +kernel
theorem dX6_draft_1 : decode cX6_draft 1 = .ok (.invokestatic 70, 3) := by decide +kernel
theorem dX6_draft_4 : decode cX6_draft 4 = .ok (.ifCond .ne 5, 3) := by decide +kernel
theorem dX6_draft_7 : decode cX6_draft 7 = .ok (.iconst (-1), 1) := by decide +kernel
theorem dX6_draft_8 : decode cX6_draft 8 = .ok (.ireturn, 1) := by decide +kernel
theorem dX6_draft_9 : decode cX6_draft 9 = .ok (.iload_n 1, 1) := by decide +kernel
theorem dX6_draft_10 : decode cX6_draft 10 = .ok (.iload_n 2, 1) := by decide +kernel
theorem dX6_draft_11 : decode cX6_draft 11 = .ok (.invokestatic 74, 3) := by decide +kernel
theorem dX6_draft_14 : decode cX6_draft 14 = .ok (.ifCond .eq 16, 3) := by decide +kernel
theorem dX6_draft_17 : decode cX6_draft 17 = .ok (.iload_n 1, 1) := by decide +kernel
theorem dX6_draft_18 : decode cX6_draft 18 = .ok (.iload_n 3, 1) := by decide +kernel
theorem dX6_draft_19 : decode cX6_draft 19 = .ok (.invokestatic 74, 3) := by decide +kernel
theorem dX6_draft_22 : decode cX6_draft 22 = .ok (.ifCond .eq 8, 3) := by decide +kernel
theorem dX6_draft_25 : decode cX6_draft 25 = .ok (.iload_n 2, 1) := by decide +kernel
theorem dX6_draft_26 : decode cX6_draft 26 = .ok (.iload_n 3, 1) := by decide +kernel
theorem dX6_draft_27 : decode cX6_draft 27 = .ok (.if_icmp .le 6, 3) := by decide +kernel
theorem dX6_draft_30 : decode cX6_draft 30 = .ok (.bipush (-2), 2) := by decide +kernel
theorem dX6_draft_32 : decode cX6_draft 32 = .ok (.ireturn, 1) := by decide +kernel
theorem dX6_draft_33 : decode cX6_draft 33 = .ok (.aload_n 0, 1) := by decide +kernel
theorem dX6_draft_34 : decode cX6_draft 34 = .ok (.getfield 57, 3) := by decide +kernel
theorem dX6_draft_37 : decode cX6_draft 37 = .ok (.iload_n 1, 1) := by decide +kernel
theorem dX6_draft_38 : decode cX6_draft 38 = .ok (.iload_n 2, 1) := by decide +kernel
theorem dX6_draft_39 : decode cX6_draft 39 = .ok (.iastore, 1) := by decide +kernel
theorem dX6_draft_40 : decode cX6_draft 40 = .ok (.aload_n 0, 1) := by decide +kernel
theorem dX6_draft_41 : decode cX6_draft 41 = .ok (.getfield 61, 3) := by decide +kernel
theorem dX6_draft_44 : decode cX6_draft 44 = .ok (.iload_n 1, 1) := by decide +kernel
theorem dX6_draft_45 : decode cX6_draft 45 = .ok (.iload_n 3, 1) := by decide +kernel
theorem dX6_draft_46 : decode cX6_draft 46 = .ok (.iastore, 1) := by decide +kernel
theorem dX6_draft_47 : decode cX6_draft 47 = .ok (.iload_n 3, 1) := by decide +kernel
theorem dX6_draft_48 : decode cX6_draft 48 = .ok (.iload_n 2, 1) := by decide +kernel
theorem dX6_draft_49 : decode cX6_draft 49 = .ok (.isub, 1) := by decide +kernel
theorem dX6_draft_50 : decode cX6_draft 50 = .ok (.iconst 1, 1) := by decide +kernel
theorem dX6_draft_51 : decode cX6_draft 51 = .ok (.iadd, 1) := by decide +kernel
theorem dX6_draft_52 : decode cX6_draft 52 = .ok (.ireturn, 1) := by decide +kernel
theorem dX6_rule_0 : decode cX6_rule 0 = .ok (.iload_n 1, 1) := by decide +kernel
theorem dX6_rule_1 : decode cX6_rule 1 = .ok (.invokestatic 78, 3) := by decide +kernel
theorem dX6_rule_4 : decode cX6_rule 4 = .ok (.ifCond .eq 10, 3) := by decide +kernel
theorem dX6_rule_7 : decode cX6_rule 7 = .ok (.iload_n 2, 1) := by decide +kernel
theorem dX6_rule_8 : decode cX6_rule 8 = .ok (.invokestatic 81, 3) := by decide +kernel
theorem dX6_rule_11 : decode cX6_rule 11 = .ok (.ifCond .ne 6, 3) := by decide +kernel
theorem dX6_rule_14 : decode cX6_rule 14 = .ok (.bipush (-2), 2) := by decide +kernel
theorem dX6_rule_16 : decode cX6_rule 16 = .ok (.ireturn, 1) := by decide +kernel
theorem dX6_rule_17 : decode cX6_rule 17 = .ok (.aload_n 0, 1) := by decide +kernel
theorem dX6_rule_18 : decode cX6_rule 18 = .ok (.getfield 10, 3) := by decide +kernel
theorem dX6_rule_21 : decode cX6_rule 21 = .ok (.getfield 84, 3) := by decide +kernel
theorem dX6_rule_24 : decode cX6_rule 24 = .ok (.bipush 16, 2) := by decide +kernel
theorem dX6_rule_26 : decode cX6_rule 26 = .ok (.if_icmp .lt 6, 3) := by decide +kernel
theorem dX6_rule_29 : decode cX6_rule 29 = .ok (.bipush (-4), 2) := by decide +kernel
theorem dX6_rule_31 : decode cX6_rule 31 = .ok (.ireturn, 1) := by decide +kernel
theorem dX6_rule_32 : decode cX6_rule 32 = .ok (.aload_n 0, 1) := by decide +kernel
theorem dX6_rule_33 : decode cX6_rule 33 = .ok (.getfield 10, 3) := by decide +kernel
theorem dX6_rule_36 : decode cX6_rule 36 = .ok (.aload_n 0, 1) := by decide +kernel
theorem dX6_rule_37 : decode cX6_rule 37 = .ok (.getfield 57, 3) := by decide +kernel
theorem dX6_rule_40 : decode cX6_rule 40 = .ok (.aload_n 0, 1) := by decide +kernel
theorem dX6_rule_41 : decode cX6_rule 41 = .ok (.getfield 61, 3) := by decide +kernel
theorem dX6_rule_44 : decode cX6_rule 44 = .ok (.iload_n 1, 1) := by decide +kernel
theorem dX6_rule_45 : decode cX6_rule 45 = .ok (.iload_n 2, 1) := by decide +kernel
theorem dX6_rule_46 : decode cX6_rule 46 = .ok (.invokevirtual 88, 3) := by decide +kernel
theorem dX6_rule_49 : decode cX6_rule 49 = .ok (.aload_n 0, 1) := by decide +kernel
theorem dX6_rule_50 : decode cX6_rule 50 = .ok (.invokevirtual 67, 3) := by decide +kernel
theorem dX6_rule_53 : decode cX6_rule 53 = .ok (.aload_n 0, 1) := by decide +kernel
theorem dX6_rule_54 : decode cX6_rule 54 = .ok (.invokevirtual 92, 3) := by decide +kernel
theorem dX6_rule_57 : decode cX6_rule 57 = .ok (.aload_n 0, 1) := by decide +kernel
theorem dX6_rule_58 : decode cX6_rule 58 = .ok (.getfield 10, 3) := by decide +kernel
theorem dX6_rule_61 : decode cX6_rule 61 = .ok (.getfield 84, 3) := by decide +kernel
theorem dX6_rule_64 : decode cX6_rule 64 = .ok (.iconst 1, 1) := by decide +kernel
theorem dX6_rule_65 : decode cX6_rule 65 = .ok (.isub, 1) := by decide +kernel
theorem dX6_rule_66 : decode cX6_rule 66 = .ok (.ireturn, 1) := by decide +kernel
theorem dX6_drop_0 : decode cX6_drop 0 = .ok (.aload_n 0, 1) := by decide +kernel
theorem dX6_drop_1 : decode cX6_drop 1 = .ok (.getfield 10, 3) := by decide +kernel
theorem dX6_drop_4 : decode cX6_drop 4 = .ok (.iload_n 1, 1) := by decide +kernel
theorem dX6_drop_5 : decode cX6_drop 5 = .ok (.invokevirtual 95, 3) := by decide +kernel
theorem dX6_drop_8 : decode cX6_drop 8 = .ok (.ifCond .ne 5, 3) := by decide +kernel
theorem dX6_drop_11 : decode cX6_drop 11 = .ok (.iconst (-1), 1) := by decide +kernel
theorem dX6_drop_12 : decode cX6_drop 12 = .ok (.ireturn, 1) := by decide +kernel
theorem dX6_drop_13 : decode cX6_drop 13 = .ok (.aload_n 0, 1) := by decide +kernel
theorem dX6_drop_14 : decode cX6_drop 14 = .ok (.getfield 10, 3) := by decide +kernel
theorem dX6_drop_17 : decode cX6_drop 17 = .ok (.iload_n 1, 1) := by decide +kernel
theorem dX6_drop_18 : decode cX6_drop 18 = .ok (.invokevirtual 98, 3) := by decide +kernel
theorem dX6_drop_21 : decode cX6_drop 21 = .ok (.aload_n 0, 1) := by decide +kernel
