theorem dX7_listTuples_157 : decode cX7_listTuples 157 = .ok (.iconst 1, 1) := by decide +kernel
theorem dX7_listTuples_158 : decode cX7_listTuples 158 = .ok (.iadd, 1) := by decide +kernel
theorem dX7_listTuples_159 : decode cX7_listTuples 159 = .ok (.putfield 199, 3) := by decide +kernel
theorem dX7_listTuples_162 : decode cX7_listTuples 162 = .ok (.iinc 2 1, 3) := by decide +kernel
theorem dX7_listTuples_165 : decode cX7_listTuples 165 = .ok (.goto (-62), 3) := by decide +kernel
theorem dX7_listTuples_168 : decode cX7_listTuples 168 = .ok (.iinc 1 1, 3) := by decide +kernel
theorem dX7_listTuples_171 : decode cX7_listTuples 171 = .ok (.goto (-78), 3) := by decide +kernel
theorem dX7_listTuples_174 : decode cX7_listTuples 174 = .ok (.return_, 1) := by decide +kernel
theorem dX7_entries_0 : decode cX7_entries 0 = .ok (.iconst 0, 1) := by decide +kernel
theorem dX7_entries_1 : decode cX7_entries 1 = .ok (.istore_n 2, 1) := by decide +kernel
theorem dX7_entries_2 : decode cX7_entries 2 = .ok (.iconst 0, 1) := by decide +kernel
theorem dX7_entries_3 : decode cX7_entries 3 = .ok (.istore_n 3, 1) := by decide +kernel
theorem dX7_entries_4 : decode cX7_entries 4 = .ok (.iload_n 3, 1) := by decide +kernel
theorem dX7_entries_5 : decode cX7_entries 5 = .ok (.aload_n 0, 1) := by decide +kernel
theorem dX7_entries_6 : decode cX7_entries 6 = .ok (.getfield 104, 3) := by decide +kernel
theorem dX7_entries_9 : decode cX7_entries 9 = .ok (.if_icmp .ge 18, 3) := by decide +kernel
theorem dX7_entries_12 : decode cX7_entries 12 = .ok (.iload_n 2, 1) := by decide +kernel
theorem dX7_entries_13 : decode cX7_entries 13 = .ok (.aload_n 0, 1) := by decide +kernel
theorem dX7_entries_14 : decode cX7_entries 14 = .ok (.iload_n 3, 1) := by decide +kernel
theorem dX7_entries_15 : decode cX7_entries 15 = .ok (.iload_n 1, 1) := by decide +kernel
theorem dX7_entries_16 : decode cX7_entries 16 = .ok (.invokevirtual 190, 3) := by decide +kernel
theorem dX7_entries_19 : decode cX7_entries 19 = .ok (.iadd, 1) := by decide +kernel
theorem dX7_entries_20 : decode cX7_entries 20 = .ok (.istore_n 2, 1) := by decide +kernel
theorem dX7_entries_21 : decode cX7_entries 21 = .ok (.iinc 3 1, 3) := by decide +kernel
theorem dX7_entries_24 : decode cX7_entries 24 = .ok (.goto (-20), 3) := by decide +kernel
theorem dX7_entries_27 : decode cX7_entries 27 = .ok (.iload_n 2, 1) := by decide +kernel
theorem dX7_entries_28 : decode cX7_entries 28 = .ok (.ireturn, 1) := by decide +kernel
theorem dX7_tuple_0 : decode cX7_tuple 0 = .ok (.iload_n 2, 1) := by decide +kernel
theorem dX7_tuple_1 : decode cX7_tuple 1 = .ok (.iconst 0, 1) := by decide +kernel
theorem dX7_tuple_2 : decode cX7_tuple 2 = .ok (.bipush 6, 2) := by decide +kernel
theorem dX7_tuple_4 : decode cX7_tuple 4 = .ok (.invokestatic 100, 3) := by decide +kernel
theorem dX7_tuple_7 : decode cX7_tuple 7 = .ok (.ifCond .ne 6, 3) := by decide +kernel
theorem dX7_tuple_10 : decode cX7_tuple 10 = .ok (.bipush (-2), 2) := by decide +kernel
theorem dX7_tuple_12 : decode cX7_tuple 12 = .ok (.ireturn, 1) := by decide +kernel
theorem dX7_tuple_13 : decode cX7_tuple 13 = .ok (.aload_n 0, 1) := by decide +kernel
theorem dX7_tuple_14 : decode cX7_tuple 14 = .ok (.invokevirtual 202, 3) := by decide +kernel
theorem dX7_tuple_17 : decode cX7_tuple 17 = .ok (.iload_n 1, 1) := by decide +kernel
theorem dX7_tuple_18 : decode cX7_tuple 18 = .ok (.iconst 0, 1) := by decide +kernel
theorem dX7_tuple_19 : decode cX7_tuple 19 = .ok (.aload_n 0, 1) := by decide +kernel
theorem dX7_tuple_20 : decode cX7_tuple 20 = .ok (.getfield 199, 3) := by decide +kernel
theorem dX7_tuple_23 : decode cX7_tuple 23 = .ok (.iconst 1, 1) := by decide +kernel
theorem dX7_tuple_24 : decode cX7_tuple 24 = .ok (.isub, 1) := by decide +kernel
theorem dX7_tuple_25 : decode cX7_tuple 25 = .ok (.invokestatic 100, 3) := by decide +kernel
theorem dX7_tuple_28 : decode cX7_tuple 28 = .ok (.ifCond .ne 6, 3) := by decide +kernel
theorem dX7_tuple_31 : decode cX7_tuple 31 = .ok (.bipush (-6), 2) := by decide +kernel
theorem dX7_tuple_33 : decode cX7_tuple 33 = .ok (.ireturn, 1) := by decide +kernel
theorem dX7_tuple_34 : decode cX7_tuple 34 = .ok (.iload_n 2, 1) := by decide +kernel
theorem dX7_tuple_35 : decode cX7_tuple 35 = .ok (.iconst 4, 1) := by decide +kernel
theorem dX7_tuple_36 : decode cX7_tuple 36 = .ok (.if_icmp .ge 14, 3) := by decide +kernel
theorem dX7_tuple_39 : decode cX7_tuple 39 = .ok (.aload_n 0, 1) := by decide +kernel
theorem dX7_tuple_40 : decode cX7_tuple 40 = .ok (.getfield 57, 3) := by decide +kernel
theorem dX7_tuple_43 : decode cX7_tuple 43 = .ok (.iload_n 1, 1) := by decide +kernel
theorem dX7_tuple_44 : decode cX7_tuple 44 = .ok (.iaload, 1) := by decide +kernel
theorem dX7_tuple_45 : decode cX7_tuple 45 = .ok (.iload_n 2, 1) := by decide +kernel
theorem dX7_tuple_46 : decode cX7_tuple 46 = .ok (.invokestatic 187, 3) := by decide +kernel
theorem dX7_tuple_49 : decode cX7_tuple 49 = .ok (.ireturn, 1) := by decide +kernel
theorem dX7_tuple_50 : decode cX7_tuple 50 = .ok (.iload_n 2, 1) := by decide +kernel
theorem dX7_tuple_51 : decode cX7_tuple 51 = .ok (.iconst 4, 1) := by decide +kernel
theorem dX7_tuple_52 : decode cX7_tuple 52 = .ok (.if_icmp .ne 16, 3) := by decide +kernel
theorem dX7_tuple_55 : decode cX7_tuple 55 = .ok (.aload_n 0, 1) := by decide +kernel
theorem dX7_tuple_56 : decode cX7_tuple 56 = .ok (.aload_n 0, 1) := by decide +kernel
theorem dX7_tuple_57 : decode cX7_tuple 57 = .ok (.getfield 57, 3) := by decide +kernel
theorem dX7_tuple_60 : decode cX7_tuple 60 = .ok (.iload_n 1, 1) := by decide +kernel
theorem dX7_tuple_61 : decode cX7_tuple 61 = .ok (.iaload, 1) := by decide +kernel
theorem dX7_tuple_62 : decode cX7_tuple 62 = .ok (.invokevirtual 205, 3) := by decide +kernel
theorem dX7_tuple_65 : decode cX7_tuple 65 = .ok (.goto 36, 3) := by decide +kernel
theorem dX7_tuple_68 : decode cX7_tuple 68 = .ok (.iload_n 2, 1) := by decide +kernel
theorem dX7_tuple_69 : decode cX7_tuple 69 = .ok (.iconst 5, 1) := by decide +kernel
theorem dX7_tuple_70 : decode cX7_tuple 70 = .ok (.if_icmp .ne 17, 3) := by decide +kernel
theorem dX7_tuple_73 : decode cX7_tuple 73 = .ok (.aload_n 0, 1) := by decide +kernel
theorem dX7_tuple_74 : decode cX7_tuple 74 = .ok (.getfield 29, 3) := by decide +kernel
theorem dX7_tuple_77 : decode cX7_tuple 77 = .ok (.aload_n 0, 1) := by decide +kernel
theorem dX7_tuple_78 : decode cX7_tuple 78 = .ok (.getfield 60, 3) := by decide +kernel
theorem dX7_tuple_81 : decode cX7_tuple 81 = .ok (.iload_n 1, 1) := by decide +kernel
theorem dX7_tuple_82 : decode cX7_tuple 82 = .ok (.iaload, 1) := by decide +kernel
theorem dX7_tuple_83 : decode cX7_tuple 83 = .ok (.iaload, 1) := by decide +kernel
theorem dX7_tuple_84 : decode cX7_tuple 84 = .ok (.goto 17, 3) := by decide +kernel
theorem dX7_tuple_87 : decode cX7_tuple 87 = .ok (.aload_n 0, 1) := by decide +kernel
theorem dX7_tuple_88 : decode cX7_tuple 88 = .ok (.getfield 63, 3) := by decide +kernel
theorem dX7_tuple_91 : decode cX7_tuple 91 = .ok (.aload_n 0, 1) := by decide +kernel
theorem dX7_tuple_92 : decode cX7_tuple 92 = .ok (.getfield 57, 3) := by decide +kernel
theorem dX7_tuple_95 : decode cX7_tuple 95 = .ok (.iload_n 1, 1) := by decide +kernel
theorem dX7_tuple_96 : decode cX7_tuple 96 = .ok (.iaload, 1) := by decide +kernel
theorem dX7_tuple_97 : decode cX7_tuple 97 = .ok (.iaload, 1) := by decide +kernel
theorem dX7_tuple_98 : decode cX7_tuple 98 = .ok (.invokestatic 208, 3) := by decide +kernel
theorem dX7_tuple_101 : decode cX7_tuple 101 = .ok (.ireturn, 1) := by decide +kernel
theorem dX7_codeOf_0 : decode cX7_codeOf 0 = .ok (.sipush 147, 3) := by decide +kernel
theorem dX7_codeOf_3 : decode cX7_codeOf 3 = .ok (.bipush 6, 2) := by decide +kernel
theorem dX7_codeOf_5 : decode cX7_codeOf 5 = .ok (.aload_n 0, 1) := by decide +kernel
theorem dX7_codeOf_6 : decode cX7_codeOf 6 = .ok (.iload_n 1, 1) := by decide +kernel
theorem dX7_codeOf_7 : decode cX7_codeOf 7 = .ok (.iconst 0, 1) := by decide +kernel
theorem dX7_codeOf_8 : decode cX7_codeOf 8 = .ok (.iload_n 2, 1) := by decide +kernel
theorem dX7_codeOf_9 : decode cX7_codeOf 9 = .ok (.invokevirtual 211, 3) := by decide +kernel
theorem dX7_codeOf_12 : decode cX7_codeOf 12 = .ok (.isub, 1) := by decide +kernel
theorem dX7_codeOf_13 : decode cX7_codeOf 13 = .ok (.imul, 1) := by decide +kernel
theorem dX7_codeOf_14 : decode cX7_codeOf 14 = .ok (.bipush 21, 2) := by decide +kernel
theorem dX7_codeOf_16 : decode cX7_codeOf 16 = .ok (.bipush 6, 2) := by decide +kernel
theorem dX7_codeOf_18 : decode cX7_codeOf 18 = .ok (.aload_n 0, 1) := by decide +kernel
theorem dX7_codeOf_19 : decode cX7_codeOf 19 = .ok (.iload_n 1, 1) := by decide +kernel
theorem dX7_codeOf_20 : decode cX7_codeOf 20 = .ok (.iconst 1, 1) := by decide +kernel
theorem dX7_codeOf_21 : decode cX7_codeOf 21 = .ok (.iload_n 3, 1) := by decide +kernel
theorem dX7_codeOf_22 : decode cX7_codeOf 22 = .ok (.invokevirtual 211, 3) := by decide +kernel
theorem dX7_codeOf_25 : decode cX7_codeOf 25 = .ok (.isub, 1) := by decide +kernel
theorem dX7_codeOf_26 : decode cX7_codeOf 26 = .ok (.imul, 1) := by decide +kernel
theorem dX7_codeOf_27 : decode cX7_codeOf 27 = .ok (.iadd, 1) := by decide +kernel
theorem dX7_codeOf_28 : decode cX7_codeOf 28 = .ok (.iconst 3, 1) := by decide +kernel
theorem dX7_codeOf_29 : decode cX7_codeOf 29 = .ok (.bipush 6, 2) := by decide +kernel
theorem dX7_codeOf_31 : decode cX7_codeOf 31 = .ok (.aload_n 0, 1) := by decide +kernel
theorem dX7_codeOf_32 : decode cX7_codeOf 32 = .ok (.iload_n 1, 1) := by decide +kernel
theorem dX7_codeOf_33 : decode cX7_codeOf 33 = .ok (.iconst 2, 1) := by decide +kernel
theorem dX7_codeOf_34 : decode cX7_codeOf 34 = .ok (.iload 4, 2) := by decide +kernel
theorem dX7_codeOf_36 : decode cX7_codeOf 36 = .ok (.invokevirtual 211, 3) := by decide +kernel
theorem dX7_codeOf_39 : decode cX7_codeOf 39 = .ok (.isub, 1) := by decide +kernel
theorem dX7_codeOf_40 : decode cX7_codeOf 40 = .ok (.imul, 1) := by decide +kernel
theorem dX7_codeOf_41 : decode cX7_codeOf 41 = .ok (.iadd, 1) := by decide +kernel
theorem dX7_codeOf_42 : decode cX7_codeOf 42 = .ok (.iconst 2, 1) := by decide +kernel
theorem dX7_codeOf_43 : decode cX7_codeOf 43 = .ok (.iadd, 1) := by decide +kernel
theorem dX7_codeOf_44 : decode cX7_codeOf 44 = .ok (.aload_n 0, 1) := by decide +kernel
theorem dX7_codeOf_45 : decode cX7_codeOf 45 = .ok (.iload_n 1, 1) := by decide +kernel
theorem dX7_codeOf_46 : decode cX7_codeOf 46 = .ok (.iconst 3, 1) := by decide +kernel
theorem dX7_codeOf_47 : decode cX7_codeOf 47 = .ok (.iload 5, 2) := by decide +kernel
theorem dX7_codeOf_49 : decode cX7_codeOf 49 = .ok (.invokevirtual 211, 3) := by decide +kernel
theorem dX7_codeOf_52 : decode cX7_codeOf 52 = .ok (.isub, 1) := by decide +kernel
theorem dX7_codeOf_53 : decode cX7_codeOf 53 = .ok (.ireturn, 1) := by decide +kernel
theorem dX7_probe_0 : decode cX7_probe 0 = .ok (.iload_n 1, 1) := by decide +kernel
theorem dX7_probe_1 : decode cX7_probe 1 = .ok (.iload_n 2, 1) := by decide +kernel
theorem dX7_probe_2 : decode cX7_probe 2 = .ok (.iload_n 3, 1) := by decide +kernel
theorem dX7_probe_3 : decode cX7_probe 3 = .ok (.iload 4, 2) := by decide +kernel
theorem dX7_probe_5 : decode cX7_probe 5 = .ok (.invokestatic 150, 3) := by decide +kernel
theorem dX7_probe_8 : decode cX7_probe 8 = .ok (.ifCond .eq 13, 3) := by decide +kernel
theorem dX7_probe_11 : decode cX7_probe 11 = .ok (.iload 5, 2) := by decide +kernel
theorem dX7_probe_13 : decode cX7_probe 13 = .ok (.iconst 0, 1) := by decide +kernel
theorem dX7_probe_14 : decode cX7_probe 14 = .ok (.iconst 2, 1) := by decide +kernel
theorem dX7_probe_15 : decode cX7_probe 15 = .ok (.invokestatic 100, 3) := by decide +kernel
theorem dX7_probe_18 : decode cX7_probe 18 = .ok (.ifCond .ne 6, 3) := by decide +kernel
theorem dX7_probe_21 : decode cX7_probe 21 = .ok (.bipush (-2), 2) := by decide +kernel
theorem dX7_probe_23 : decode cX7_probe 23 = .ok (.ireturn, 1) := by decide +kernel
theorem dX7_probe_24 : decode cX7_probe 24 = .ok (.aload_n 0, 1) := by decide +kernel
theorem dX7_probe_25 : decode cX7_probe 25 = .ok (.invokevirtual 202, 3) := by decide +kernel
theorem dX7_probe_28 : decode cX7_probe 28 = .ok (.aload_n 0, 1) := by decide +kernel
theorem dX7_probe_29 : decode cX7_probe 29 = .ok (.iload_n 1, 1) := by decide +kernel
theorem dX7_probe_30 : decode cX7_probe 30 = .ok (.iload_n 2, 1) := by decide +kernel
theorem dX7_probe_31 : decode cX7_probe 31 = .ok (.iload_n 3, 1) := by decide +kernel
theorem dX7_probe_32 : decode cX7_probe 32 = .ok (.iload 4, 2) := by decide +kernel
theorem dX7_probe_34 : decode cX7_probe 34 = .ok (.invokevirtual 154, 3) := by decide +kernel
theorem dX7_probe_37 : decode cX7_probe 37 = .ok (.istore 6, 2) := by decide +kernel
theorem dX7_probe_39 : decode cX7_probe 39 = .ok (.iconst 0, 1) := by decide +kernel
theorem dX7_probe_40 : decode cX7_probe 40 = .ok (.istore 7, 2) := by decide +kernel
theorem dX7_probe_42 : decode cX7_probe 42 = .ok (.iload 7, 2) := by decide +kernel
theorem dX7_probe_44 : decode cX7_probe 44 = .ok (.aload_n 0, 1) := by decide +kernel
theorem dX7_probe_45 : decode cX7_probe 45 = .ok (.getfield 104, 3) := by decide +kernel
theorem dX7_probe_48 : decode cX7_probe 48 = .ok (.if_icmp .ge 47, 3) := by decide +kernel
theorem dX7_probe_51 : decode cX7_probe 51 = .ok (.aload_n 0, 1) := by decide +kernel
theorem dX7_probe_52 : decode cX7_probe 52 = .ok (.getfield 66, 3) := by decide +kernel
theorem dX7_probe_55 : decode cX7_probe 55 = .ok (.iload 7, 2) := by decide +kernel
theorem dX7_probe_57 : decode cX7_probe 57 = .ok (.iload 6, 2) := by decide +kernel
theorem dX7_probe_59 : decode cX7_probe 59 = .ok (.iload 7, 2) := by decide +kernel
theorem dX7_probe_61 : decode cX7_probe 61 = .ok (.invokestatic 107, 3) := by decide +kernel
theorem dX7_probe_64 : decode cX7_probe 64 = .ok (.ifCond .eq 22, 3) := by decide +kernel
theorem dX7_probe_67 : decode cX7_probe 67 = .ok (.aload_n 0, 1) := by decide +kernel
theorem dX7_probe_68 : decode cX7_probe 68 = .ok (.aload_n 0, 1) := by decide +kernel
theorem dX7_probe_69 : decode cX7_probe 69 = .ok (.getfield 29, 3) := by decide +kernel
theorem dX7_probe_72 : decode cX7_probe 72 = .ok (.iload 7, 2) := by decide +kernel
theorem dX7_probe_74 : decode cX7_probe 74 = .ok (.iaload, 1) := by decide +kernel
theorem dX7_probe_75 : decode cX7_probe 75 = .ok (.iload_n 1, 1) := by decide +kernel
theorem dX7_probe_76 : decode cX7_probe 76 = .ok (.iload_n 2, 1) := by decide +kernel
theorem dX7_probe_77 : decode cX7_probe 77 = .ok (.iload_n 3, 1) := by decide +kernel
theorem dX7_probe_78 : decode cX7_probe 78 = .ok (.iload 4, 2) := by decide +kernel
theorem dX7_probe_80 : decode cX7_probe 80 = .ok (.invokevirtual 214, 3) := by decide +kernel
theorem dX7_probe_83 : decode cX7_probe 83 = .ok (.goto 5, 3) := by decide +kernel
theorem dX7_probe_86 : decode cX7_probe 86 = .ok (.bipush (-6), 2) := by decide +kernel
theorem dX7_probe_88 : decode cX7_probe 88 = .ok (.iastore, 1) := by decide +kernel
theorem dX7_probe_89 : decode cX7_probe 89 = .ok (.iinc 7 1, 3) := by decide +kernel
theorem dX7_probe_92 : decode cX7_probe 92 = .ok (.goto (-50), 3) := by decide +kernel
theorem dX7_probe_95 : decode cX7_probe 95 = .ok (.aload_n 0, 1) := by decide +kernel
theorem dX7_probe_96 : decode cX7_probe 96 = .ok (.getfield 104, 3) := by decide +kernel
theorem dX7_probe_99 : decode cX7_probe 99 = .ok (.istore 7, 2) := by decide +kernel
theorem dX7_probe_101 : decode cX7_probe 101 = .ok (.iconst 0, 1) := by decide +kernel
theorem dX7_probe_102 : decode cX7_probe 102 = .ok (.istore 8, 2) := by decide +kernel
theorem dX7_probe_104 : decode cX7_probe 104 = .ok (.iload 8, 2) := by decide +kernel
theorem dX7_probe_106 : decode cX7_probe 106 = .ok (.aload_n 0, 1) := by decide +kernel
theorem dX7_probe_107 : decode cX7_probe 107 = .ok (.getfield 199, 3) := by decide +kernel
theorem dX7_probe_110 : decode cX7_probe 110 = .ok (.if_icmp .ge 73, 3) := by decide +kernel
theorem dX7_probe_113 : decode cX7_probe 113 = .ok (.aload_n 0, 1) := by decide +kernel
theorem dX7_probe_114 : decode cX7_probe 114 = .ok (.getfield 60, 3) := by decide +kernel
theorem dX7_probe_117 : decode cX7_probe 117 = .ok (.iload 8, 2) := by decide +kernel
theorem dX7_probe_119 : decode cX7_probe 119 = .ok (.iaload, 1) := by decide +kernel
theorem dX7_probe_120 : decode cX7_probe 120 = .ok (.iload 7, 2) := by decide +kernel
theorem dX7_probe_122 : decode cX7_probe 122 = .ok (.if_icmp .ge 61, 3) := by decide +kernel
theorem dX7_probe_125 : decode cX7_probe 125 = .ok (.aload_n 0, 1) := by decide +kernel
theorem dX7_probe_126 : decode cX7_probe 126 = .ok (.getfield 104, 3) := by decide +kernel
theorem dX7_probe_129 : decode cX7_probe 129 = .ok (.iconst 1, 1) := by decide +kernel
theorem dX7_probe_130 : decode cX7_probe 130 = .ok (.isub, 1) := by decide +kernel
theorem dX7_probe_131 : decode cX7_probe 131 = .ok (.istore 9, 2) := by decide +kernel
theorem dX7_probe_133 : decode cX7_probe 133 = .ok (.iload 9, 2) := by decide +kernel
theorem dX7_probe_135 : decode cX7_probe 135 = .ok (.ifCond .lt 42, 3) := by decide +kernel
theorem dX7_probe_138 : decode cX7_probe 138 = .ok (.aload_n 0, 1) := by decide +kernel
theorem dX7_probe_139 : decode cX7_probe 139 = .ok (.getfield 66, 3) := by decide +kernel
theorem dX7_probe_142 : decode cX7_probe 142 = .ok (.iload 9, 2) := by decide +kernel
theorem dX7_probe_144 : decode cX7_probe 144 = .ok (.iaload, 1) := by decide +kernel
theorem dX7_probe_145 : decode cX7_probe 145 = .ok (.aload_n 0, 1) := by decide +kernel
theorem dX7_probe_146 : decode cX7_probe 146 = .ok (.getfield 57, 3) := by decide +kernel
theorem dX7_probe_149 : decode cX7_probe 149 = .ok (.iload 8, 2) := by decide +kernel
theorem dX7_probe_151 : decode cX7_probe 151 = .ok (.iaload, 1) := by decide +kernel
theorem dX7_probe_152 : decode cX7_probe 152 = .ok (.if_icmp .ne 15, 3) := by decide +kernel
theorem dX7_probe_155 : decode cX7_probe 155 = .ok (.iload 9, 2) := by decide +kernel
theorem dX7_probe_157 : decode cX7_probe 157 = .ok (.iload 7, 2) := by decide +kernel
theorem dX7_probe_159 : decode cX7_probe 159 = .ok (.if_icmp .ge 8, 3) := by decide +kernel
theorem dX7_probe_162 : decode cX7_probe 162 = .ok (.iload 9, 2) := by decide +kernel
theorem dX7_probe_164 : decode cX7_probe 164 = .ok (.goto 5, 3) := by decide +kernel
theorem dX7_probe_167 : decode cX7_probe 167 = .ok (.iload 7, 2) := by decide +kernel
theorem dX7_probe_169 : decode cX7_probe 169 = .ok (.istore 7, 2) := by decide +kernel
theorem dX7_probe_171 : decode cX7_probe 171 = .ok (.iinc 9 (-1), 3) := by decide +kernel
theorem dX7_probe_174 : decode cX7_probe 174 = .ok (.goto (-41), 3) := by decide +kernel
theorem dX7_probe_177 : decode cX7_probe 177 = .ok (.iinc 8 1, 3) := by decide +kernel
theorem dX7_probe_180 : decode cX7_probe 180 = .ok (.goto (-76), 3) := by decide +kernel
theorem dX7_probe_183 : decode cX7_probe 183 = .ok (.iload 5, 2) := by decide +kernel
theorem dX7_probe_185 : decode cX7_probe 185 = .ok (.iconst 1, 1) := by decide +kernel
theorem dX7_probe_186 : decode cX7_probe 186 = .ok (.if_icmp .ne 6, 3) := by decide +kernel
theorem dX7_probe_189 : decode cX7_probe 189 = .ok (.iload 8, 2) := by decide +kernel
theorem dX7_probe_191 : decode cX7_probe 191 = .ok (.ireturn, 1) := by decide +kernel
theorem dX7_probe_192 : decode cX7_probe 192 = .ok (.iload 5, 2) := by decide +kernel
theorem dX7_probe_194 : decode cX7_probe 194 = .ok (.iconst 2, 1) := by decide +kernel
theorem dX7_probe_195 : decode cX7_probe 195 = .ok (.if_icmp .ne 20, 3) := by decide +kernel
theorem dX7_probe_198 : decode cX7_probe 198 = .ok (.iload 8, 2) := by decide +kernel
theorem dX7_probe_200 : decode cX7_probe 200 = .ok (.ifCond .ne 8, 3) := by decide +kernel
theorem dX7_probe_203 : decode cX7_probe 203 = .ok (.bipush (-6), 2) := by decide +kernel
theorem dX7_probe_205 : decode cX7_probe 205 = .ok (.goto 31, 3) := by decide +kernel
theorem dX7_probe_208 : decode cX7_probe 208 = .ok (.iload 8, 2) := by decide +kernel
theorem dX7_probe_210 : decode cX7_probe 210 = .ok (.iconst 1, 1) := by decide +kernel
theorem dX7_probe_211 : decode cX7_probe 211 = .ok (.isub, 1) := by decide +kernel
theorem dX7_probe_212 : decode cX7_probe 212 = .ok (.goto 24, 3) := by decide +kernel
theorem dX7_probe_215 : decode cX7_probe 215 = .ok (.iload 7, 2) := by decide +kernel
theorem dX7_probe_217 : decode cX7_probe 217 = .ok (.aload_n 0, 1) := by decide +kernel
theorem dX7_probe_218 : decode cX7_probe 218 = .ok (.getfield 104, 3) := by decide +kernel
theorem dX7_probe_221 : decode cX7_probe 221 = .ok (.if_icmp .ne 8, 3) := by decide +kernel
theorem dX7_probe_224 : decode cX7_probe 224 = .ok (.bipush (-6), 2) := by decide +kernel
theorem dX7_probe_226 : decode cX7_probe 226 = .ok (.goto 10, 3) := by decide +kernel
theorem dX7_probe_229 : decode cX7_probe 229 = .ok (.aload_n 0, 1) := by decide +kernel
theorem dX7_probe_230 : decode cX7_probe 230 = .ok (.getfield 29, 3) := by decide +kernel
theorem dX7_probe_233 : decode cX7_probe 233 = .ok (.iload 7, 2) := by decide +kernel
theorem dX7_probe_235 : decode cX7_probe 235 = .ok (.iaload, 1) := by decide +kernel
theorem dX7_probe_236 : decode cX7_probe 236 = .ok (.ireturn, 1) := by decide +kernel
theorem dX7_halved_0 : decode cX7_halved 0 = .ok (.aload_n 0, 1) := by decide +kernel
theorem dX7_halved_1 : decode cX7_halved 1 = .ok (.getfield 69, 3) := by decide +kernel
theorem dX7_halved_4 : decode cX7_halved 4 = .ok (.iconst 4, 1) := by decide +kernel
theorem dX7_halved_5 : decode cX7_halved 5 = .ok (.iload_n 1, 1) := by decide +kernel
theorem dX7_halved_6 : decode cX7_halved 6 = .ok (.imul, 1) := by decide +kernel
theorem dX7_halved_7 : decode cX7_halved 7 = .ok (.iload_n 2, 1) := by decide +kernel
theorem dX7_halved_8 : decode cX7_halved 8 = .ok (.iadd, 1) := by decide +kernel
theorem dX7_halved_9 : decode cX7_halved 9 = .ok (.iaload, 1) := by decide +kernel
theorem dX7_halved_10 : decode cX7_halved 10 = .ok (.istore 4, 2) := by decide +kernel
theorem dX7_halved_12 : decode cX7_halved 12 = .ok (.aload_n 0, 1) := by decide +kernel
theorem dX7_halved_13 : decode cX7_halved 13 = .ok (.getfield 72, 3) := by decide +kernel
theorem dX7_halved_16 : decode cX7_halved 16 = .ok (.iconst 4, 1) := by decide +kernel
theorem dX7_halved_17 : decode cX7_halved 17 = .ok (.iload_n 1, 1) := by decide +kernel
theorem dX7_halved_18 : decode cX7_halved 18 = .ok (.imul, 1) := by decide +kernel
theorem dX7_halved_19 : decode cX7_halved 19 = .ok (.iload_n 2, 1) := by decide +kernel
theorem dX7_halved_20 : decode cX7_halved 20 = .ok (.iadd, 1) := by decide +kernel
theorem dX7_halved_21 : decode cX7_halved 21 = .ok (.iaload, 1) := by decide +kernel
theorem dX7_halved_22 : decode cX7_halved 22 = .ok (.istore 5, 2) := by decide +kernel
theorem dX7_halved_24 : decode cX7_halved 24 = .ok (.iload 4, 2) := by decide +kernel
theorem dX7_halved_26 : decode cX7_halved 26 = .ok (.iload 5, 2) := by decide +kernel
theorem dX7_halved_28 : decode cX7_halved 28 = .ok (.iadd, 1) := by decide +kernel
theorem dX7_halved_29 : decode cX7_halved 29 = .ok (.iconst 2, 1) := by decide +kernel
theorem dX7_halved_30 : decode cX7_halved 30 = .ok (.idiv, 1) := by decide +kernel
theorem dX7_halved_31 : decode cX7_halved 31 = .ok (.istore 6, 2) := by decide +kernel
theorem dX7_halved_33 : decode cX7_halved 33 = .ok (.aload_n 0, 1) := by decide +kernel
theorem dX7_halved_34 : decode cX7_halved 34 = .ok (.getfield 75, 3) := by decide +kernel
theorem dX7_halved_37 : decode cX7_halved 37 = .ok (.iload_n 1, 1) := by decide +kernel
theorem dX7_halved_38 : decode cX7_halved 38 = .ok (.iaload, 1) := by decide +kernel
theorem dX7_halved_39 : decode cX7_halved 39 = .ok (.iload_n 3, 1) := by decide +kernel
theorem dX7_halved_40 : decode cX7_halved 40 = .ok (.ifCond .ne 15, 3) := by decide +kernel
theorem dX7_halved_43 : decode cX7_halved 43 = .ok (.aload_n 0, 1) := by decide +kernel
theorem dX7_halved_44 : decode cX7_halved 44 = .ok (.iload_n 2, 1) := by decide +kernel
theorem dX7_halved_45 : decode cX7_halved 45 = .ok (.iload 4, 2) := by decide +kernel
theorem dX7_halved_47 : decode cX7_halved 47 = .ok (.iload 6, 2) := by decide +kernel
theorem dX7_halved_49 : decode cX7_halved 49 = .ok (.invokevirtual 143, 3) := by decide +kernel
theorem dX7_halved_52 : decode cX7_halved 52 = .ok (.goto 14, 3) := by decide +kernel
theorem dX7_halved_55 : decode cX7_halved 55 = .ok (.aload_n 0, 1) := by decide +kernel
theorem dX7_halved_56 : decode cX7_halved 56 = .ok (.iload_n 2, 1) := by decide +kernel
theorem dX7_halved_57 : decode cX7_halved 57 = .ok (.iload 6, 2) := by decide +kernel
theorem dX7_halved_59 : decode cX7_halved 59 = .ok (.iconst 1, 1) := by decide +kernel
theorem dX7_halved_60 : decode cX7_halved 60 = .ok (.iadd, 1) := by decide +kernel
theorem dX7_halved_61 : decode cX7_halved 61 = .ok (.iload 5, 2) := by decide +kernel
theorem dX7_halved_63 : decode cX7_halved 63 = .ok (.invokevirtual 143, 3) := by decide +kernel
theorem dX7_halved_66 : decode cX7_halved 66 = .ok (.iand, 1) := by decide +kernel
theorem dX7_halved_67 : decode cX7_halved 67 = .ok (.ireturn, 1) := by decide +kernel
theorem dX7_cutOf_0 : decode cX7_cutOf 0 = .ok (.aload_n 0, 1) := by decide +kernel
theorem dX7_cutOf_1 : decode cX7_cutOf 1 = .ok (.getfield 75, 3) := by decide +kernel
theorem dX7_cutOf_4 : decode cX7_cutOf 4 = .ok (.iload_n 1, 1) := by decide +kernel
theorem dX7_cutOf_5 : decode cX7_cutOf 5 = .ok (.iaload, 1) := by decide +kernel
theorem dX7_cutOf_6 : decode cX7_cutOf 6 = .ok (.invokestatic 208, 3) := by decide +kernel
theorem dX7_cutOf_9 : decode cX7_cutOf 9 = .ok (.istore_n 2, 1) := by decide +kernel
theorem dX7_cutOf_10 : decode cX7_cutOf 10 = .ok (.bipush (-6), 2) := by decide +kernel
theorem dX7_cutOf_12 : decode cX7_cutOf 12 = .ok (.istore_n 3, 1) := by decide +kernel
theorem dX7_cutOf_13 : decode cX7_cutOf 13 = .ok (.iload_n 2, 1) := by decide +kernel
theorem dX7_cutOf_14 : decode cX7_cutOf 14 = .ok (.istore 4, 2) := by decide +kernel
theorem dX7_cutOf_16 : decode cX7_cutOf 16 = .ok (.iconst 0, 1) := by decide +kernel
theorem dX7_cutOf_17 : decode cX7_cutOf 17 = .ok (.istore 5, 2) := by decide +kernel
theorem dX7_cutOf_19 : decode cX7_cutOf 19 = .ok (.iconst 0, 1) := by decide +kernel
theorem dX7_cutOf_20 : decode cX7_cutOf 20 = .ok (.istore 6, 2) := by decide +kernel
theorem dX7_cutOf_22 : decode cX7_cutOf 22 = .ok (.iload 6, 2) := by decide +kernel
theorem dX7_cutOf_24 : decode cX7_cutOf 24 = .ok (.iconst 4, 1) := by decide +kernel
theorem dX7_cutOf_25 : decode cX7_cutOf 25 = .ok (.if_icmp .ge 139, 3) := by decide +kernel
theorem dX7_cutOf_28 : decode cX7_cutOf 28 = .ok (.iload_n 2, 1) := by decide +kernel
theorem dX7_cutOf_29 : decode cX7_cutOf 29 = .ok (.aload_n 0, 1) := by decide +kernel
theorem dX7_cutOf_30 : decode cX7_cutOf 30 = .ok (.getfield 22, 3) := by decide +kernel
theorem dX7_cutOf_33 : decode cX7_cutOf 33 = .ok (.if_icmp .le 131, 3) := by decide +kernel
theorem dX7_cutOf_36 : decode cX7_cutOf 36 = .ok (.aload_n 0, 1) := by decide +kernel
theorem dX7_cutOf_37 : decode cX7_cutOf 37 = .ok (.getfield 78, 3) := by decide +kernel
theorem dX7_cutOf_40 : decode cX7_cutOf 40 = .ok (.iload_n 1, 1) := by decide +kernel
theorem dX7_cutOf_41 : decode cX7_cutOf 41 = .ok (.iaload, 1) := by decide +kernel
theorem dX7_cutOf_42 : decode cX7_cutOf 42 = .ok (.aload_n 0, 1) := by decide +kernel
theorem dX7_cutOf_43 : decode cX7_cutOf 43 = .ok (.getfield 26, 3) := by decide +kernel
theorem dX7_cutOf_46 : decode cX7_cutOf 46 = .ok (.if_icmp .ge 118, 3) := by decide +kernel
theorem dX7_cutOf_49 : decode cX7_cutOf 49 = .ok (.aload_n 0, 1) := by decide +kernel
theorem dX7_cutOf_50 : decode cX7_cutOf 50 = .ok (.getfield 72, 3) := by decide +kernel
theorem dX7_cutOf_53 : decode cX7_cutOf 53 = .ok (.iconst 4, 1) := by decide +kernel
theorem dX7_cutOf_54 : decode cX7_cutOf 54 = .ok (.iload_n 1, 1) := by decide +kernel
theorem dX7_cutOf_55 : decode cX7_cutOf 55 = .ok (.imul, 1) := by decide +kernel
theorem dX7_cutOf_56 : decode cX7_cutOf 56 = .ok (.iload 6, 2) := by decide +kernel
theorem dX7_cutOf_58 : decode cX7_cutOf 58 = .ok (.iadd, 1) := by decide +kernel
theorem dX7_cutOf_59 : decode cX7_cutOf 59 = .ok (.iaload, 1) := by decide +kernel
theorem dX7_cutOf_60 : decode cX7_cutOf 60 = .ok (.aload_n 0, 1) := by decide +kernel
theorem dX7_cutOf_61 : decode cX7_cutOf 61 = .ok (.getfield 69, 3) := by decide +kernel
theorem dX7_cutOf_64 : decode cX7_cutOf 64 = .ok (.iconst 4, 1) := by decide +kernel
theorem dX7_cutOf_65 : decode cX7_cutOf 65 = .ok (.iload_n 1, 1) := by decide +kernel
theorem dX7_cutOf_66 : decode cX7_cutOf 66 = .ok (.imul, 1) := by decide +kernel
theorem dX7_cutOf_67 : decode cX7_cutOf 67 = .ok (.iload 6, 2) := by decide +kernel
theorem dX7_cutOf_69 : decode cX7_cutOf 69 = .ok (.iadd, 1) := by decide +kernel
theorem dX7_cutOf_70 : decode cX7_cutOf 70 = .ok (.iaload, 1) := by decide +kernel
theorem dX7_cutOf_71 : decode cX7_cutOf 71 = .ok (.if_icmp .le 87, 3) := by decide +kernel
theorem dX7_cutOf_74 : decode cX7_cutOf 74 = .ok (.aload_n 0, 1) := by decide +kernel
theorem dX7_cutOf_75 : decode cX7_cutOf 75 = .ok (.iload_n 1, 1) := by decide +kernel
theorem dX7_cutOf_76 : decode cX7_cutOf 76 = .ok (.iload 6, 2) := by decide +kernel
theorem dX7_cutOf_78 : decode cX7_cutOf 78 = .ok (.iconst 0, 1) := by decide +kernel
theorem dX7_cutOf_79 : decode cX7_cutOf 79 = .ok (.invokevirtual 218, 3) := by decide +kernel
theorem dX7_cutOf_82 : decode cX7_cutOf 82 = .ok (.invokestatic 208, 3) := by decide +kernel
theorem dX7_cutOf_85 : decode cX7_cutOf 85 = .ok (.istore 7, 2) := by decide +kernel
theorem dX7_cutOf_87 : decode cX7_cutOf 87 = .ok (.aload_n 0, 1) := by decide +kernel
theorem dX7_cutOf_88 : decode cX7_cutOf 88 = .ok (.iload_n 1, 1) := by decide +kernel
theorem dX7_cutOf_89 : decode cX7_cutOf 89 = .ok (.iload 6, 2) := by decide +kernel
theorem dX7_cutOf_91 : decode cX7_cutOf 91 = .ok (.iconst 1, 1) := by decide +kernel
theorem dX7_cutOf_92 : decode cX7_cutOf 92 = .ok (.invokevirtual 218, 3) := by decide +kernel
theorem dX7_cutOf_95 : decode cX7_cutOf 95 = .ok (.invokestatic 208, 3) := by decide +kernel
theorem dX7_cutOf_98 : decode cX7_cutOf 98 = .ok (.istore 8, 2) := by decide +kernel
theorem dX7_cutOf_100 : decode cX7_cutOf 100 = .ok (.iload 7, 2) := by decide +kernel
theorem dX7_cutOf_102 : decode cX7_cutOf 102 = .ok (.iload 8, 2) := by decide +kernel
theorem dX7_cutOf_104 : decode cX7_cutOf 104 = .ok (.if_icmp .le 8, 3) := by decide +kernel
theorem dX7_cutOf_107 : decode cX7_cutOf 107 = .ok (.iload 7, 2) := by decide +kernel
theorem dX7_cutOf_109 : decode cX7_cutOf 109 = .ok (.goto 5, 3) := by decide +kernel
theorem dX7_cutOf_112 : decode cX7_cutOf 112 = .ok (.iload 8, 2) := by decide +kernel
theorem dX7_cutOf_114 : decode cX7_cutOf 114 = .ok (.istore 9, 2) := by decide +kernel
theorem dX7_cutOf_116 : decode cX7_cutOf 116 = .ok (.iload 9, 2) := by decide +kernel
theorem dX7_cutOf_118 : decode cX7_cutOf 118 = .ok (.iload 4, 2) := by decide +kernel
theorem dX7_cutOf_120 : decode cX7_cutOf 120 = .ok (.if_icmp .lt 24, 3) := by decide +kernel
theorem dX7_cutOf_123 : decode cX7_cutOf 123 = .ok (.iload_n 3, 1) := by decide +kernel
theorem dX7_cutOf_124 : decode cX7_cutOf 124 = .ok (.ifCond .lt 34, 3) := by decide +kernel
theorem dX7_cutOf_127 : decode cX7_cutOf 127 = .ok (.iload 9, 2) := by decide +kernel
theorem dX7_cutOf_129 : decode cX7_cutOf 129 = .ok (.iload 4, 2) := by decide +kernel
theorem dX7_cutOf_131 : decode cX7_cutOf 131 = .ok (.if_icmp .ne 27, 3) := by decide +kernel
theorem dX7_cutOf_134 : decode cX7_cutOf 134 = .ok (.iload 7, 2) := by decide +kernel
theorem dX7_cutOf_136 : decode cX7_cutOf 136 = .ok (.iload 8, 2) := by decide +kernel
theorem dX7_cutOf_138 : decode cX7_cutOf 138 = .ok (.iadd, 1) := by decide +kernel
theorem dX7_cutOf_139 : decode cX7_cutOf 139 = .ok (.iload 5, 2) := by decide +kernel
theorem dX7_cutOf_141 : decode cX7_cutOf 141 = .ok (.if_icmp .ge 17, 3) := by decide +kernel
theorem dX7_cutOf_144 : decode cX7_cutOf 144 = .ok (.iload 6, 2) := by decide +kernel
theorem dX7_cutOf_146 : decode cX7_cutOf 146 = .ok (.istore_n 3, 1) := by decide +kernel
theorem dX7_cutOf_147 : decode cX7_cutOf 147 = .ok (.iload 9, 2) := by decide +kernel
theorem dX7_cutOf_149 : decode cX7_cutOf 149 = .ok (.istore 4, 2) := by decide +kernel
theorem dX7_cutOf_151 : decode cX7_cutOf 151 = .ok (.iload 7, 2) := by decide +kernel
theorem dX7_cutOf_153 : decode cX7_cutOf 153 = .ok (.iload 8, 2) := by decide +kernel
theorem dX7_cutOf_155 : decode cX7_cutOf 155 = .ok (.iadd, 1) := by decide +kernel
theorem dX7_cutOf_156 : decode cX7_cutOf 156 = .ok (.istore 5, 2) := by decide +kernel
theorem dX7_cutOf_158 : decode cX7_cutOf 158 = .ok (.iinc 6 1, 3) := by decide +kernel
theorem dX7_cutOf_161 : decode cX7_cutOf 161 = .ok (.goto (-139), 3) := by decide +kernel
theorem dX7_cutOf_164 : decode cX7_cutOf 164 = .ok (.iload_n 3, 1) := by decide +kernel
theorem dX7_cutOf_165 : decode cX7_cutOf 165 = .ok (.ireturn, 1) := by decide +kernel
theorem dX7_addBelow_0 : decode cX7_addBelow 0 = .ok (.aload_n 0, 1) := by decide +kernel
theorem dX7_addBelow_1 : decode cX7_addBelow 1 = .ok (.getfield 75, 3) := by decide +kernel
theorem dX7_addBelow_4 : decode cX7_addBelow 4 = .ok (.aload_n 0, 1) := by decide +kernel
theorem dX7_addBelow_5 : decode cX7_addBelow 5 = .ok (.getfield 221, 3) := by decide +kernel
theorem dX7_addBelow_8 : decode cX7_addBelow 8 = .ok (.aload_n 0, 1) := by decide +kernel
theorem dX7_addBelow_9 : decode cX7_addBelow 9 = .ok (.iload_n 1, 1) := by decide +kernel
theorem dX7_addBelow_10 : decode cX7_addBelow 10 = .ok (.iload_n 2, 1) := by decide +kernel
theorem dX7_addBelow_11 : decode cX7_addBelow 11 = .ok (.iload_n 3, 1) := by decide +kernel
theorem dX7_addBelow_12 : decode cX7_addBelow 12 = .ok (.invokevirtual 218, 3) := by decide +kernel
theorem dX7_addBelow_15 : decode cX7_addBelow 15 = .ok (.iastore, 1) := by decide +kernel
theorem dX7_addBelow_16 : decode cX7_addBelow 16 = .ok (.aload_n 0, 1) := by decide +kernel
theorem dX7_addBelow_17 : decode cX7_addBelow 17 = .ok (.getfield 78, 3) := by decide +kernel
theorem dX7_addBelow_20 : decode cX7_addBelow 20 = .ok (.aload_n 0, 1) := by decide +kernel
theorem dX7_addBelow_21 : decode cX7_addBelow 21 = .ok (.getfield 221, 3) := by decide +kernel
theorem dX7_addBelow_24 : decode cX7_addBelow 24 = .ok (.aload_n 0, 1) := by decide +kernel
theorem dX7_addBelow_25 : decode cX7_addBelow 25 = .ok (.getfield 78, 3) := by decide +kernel
theorem dX7_addBelow_28 : decode cX7_addBelow 28 = .ok (.iload_n 1, 1) := by decide +kernel
theorem dX7_addBelow_29 : decode cX7_addBelow 29 = .ok (.iaload, 1) := by decide +kernel
theorem dX7_addBelow_30 : decode cX7_addBelow 30 = .ok (.iconst 1, 1) := by decide +kernel
theorem dX7_addBelow_31 : decode cX7_addBelow 31 = .ok (.iadd, 1) := by decide +kernel
theorem dX7_addBelow_32 : decode cX7_addBelow 32 = .ok (.iastore, 1) := by decide +kernel
theorem dX7_addBelow_33 : decode cX7_addBelow 33 = .ok (.iconst 0, 1) := by decide +kernel
theorem dX7_addBelow_34 : decode cX7_addBelow 34 = .ok (.istore 4, 2) := by decide +kernel
theorem dX7_addBelow_36 : decode cX7_addBelow 36 = .ok (.iload 4, 2) := by decide +kernel
theorem dX7_addBelow_38 : decode cX7_addBelow 38 = .ok (.iconst 4, 1) := by decide +kernel
theorem dX7_addBelow_39 : decode cX7_addBelow 39 = .ok (.if_icmp .ge 110, 3) := by decide +kernel
theorem dX7_addBelow_42 : decode cX7_addBelow 42 = .ok (.aload_n 0, 1) := by decide +kernel
theorem dX7_addBelow_43 : decode cX7_addBelow 43 = .ok (.getfield 69, 3) := by decide +kernel
theorem dX7_addBelow_46 : decode cX7_addBelow 46 = .ok (.iconst 4, 1) := by decide +kernel
theorem dX7_addBelow_47 : decode cX7_addBelow 47 = .ok (.iload_n 1, 1) := by decide +kernel
theorem dX7_addBelow_48 : decode cX7_addBelow 48 = .ok (.imul, 1) := by decide +kernel
theorem dX7_addBelow_49 : decode cX7_addBelow 49 = .ok (.iload 4, 2) := by decide +kernel
theorem dX7_addBelow_51 : decode cX7_addBelow 51 = .ok (.iadd, 1) := by decide +kernel
theorem dX7_addBelow_52 : decode cX7_addBelow 52 = .ok (.iaload, 1) := by decide +kernel
theorem dX7_addBelow_53 : decode cX7_addBelow 53 = .ok (.istore 5, 2) := by decide +kernel
theorem dX7_addBelow_55 : decode cX7_addBelow 55 = .ok (.aload_n 0, 1) := by decide +kernel
theorem dX7_addBelow_56 : decode cX7_addBelow 56 = .ok (.getfield 72, 3) := by decide +kernel
theorem dX7_addBelow_59 : decode cX7_addBelow 59 = .ok (.iconst 4, 1) := by decide +kernel
theorem dX7_addBelow_60 : decode cX7_addBelow 60 = .ok (.iload_n 1, 1) := by decide +kernel
theorem dX7_addBelow_61 : decode cX7_addBelow 61 = .ok (.imul, 1) := by decide +kernel
theorem dX7_addBelow_62 : decode cX7_addBelow 62 = .ok (.iload 4, 2) := by decide +kernel
theorem dX7_addBelow_64 : decode cX7_addBelow 64 = .ok (.iadd, 1) := by decide +kernel
theorem dX7_addBelow_65 : decode cX7_addBelow 65 = .ok (.iaload, 1) := by decide +kernel
theorem dX7_addBelow_66 : decode cX7_addBelow 66 = .ok (.istore 6, 2) := by decide +kernel
theorem dX7_addBelow_68 : decode cX7_addBelow 68 = .ok (.aload_n 0, 1) := by decide +kernel
theorem dX7_addBelow_69 : decode cX7_addBelow 69 = .ok (.getfield 69, 3) := by decide +kernel
theorem dX7_addBelow_72 : decode cX7_addBelow 72 = .ok (.iconst 4, 1) := by decide +kernel
theorem dX7_addBelow_73 : decode cX7_addBelow 73 = .ok (.aload_n 0, 1) := by decide +kernel
theorem dX7_addBelow_74 : decode cX7_addBelow 74 = .ok (.getfield 221, 3) := by decide +kernel
theorem dX7_addBelow_77 : decode cX7_addBelow 77 = .ok (.imul, 1) := by decide +kernel
theorem dX7_addBelow_78 : decode cX7_addBelow 78 = .ok (.iload 4, 2) := by decide +kernel
theorem dX7_addBelow_80 : decode cX7_addBelow 80 = .ok (.iadd, 1) := by decide +kernel
theorem dX7_addBelow_81 : decode cX7_addBelow 81 = .ok (.iload 4, 2) := by decide +kernel
theorem dX7_addBelow_83 : decode cX7_addBelow 83 = .ok (.iload_n 2, 1) := by decide +kernel
theorem dX7_addBelow_84 : decode cX7_addBelow 84 = .ok (.if_icmp .ne 20, 3) := by decide +kernel
theorem dX7_addBelow_87 : decode cX7_addBelow 87 = .ok (.iload_n 3, 1) := by decide +kernel
theorem dX7_addBelow_88 : decode cX7_addBelow 88 = .ok (.iconst 1, 1) := by decide +kernel
theorem dX7_addBelow_89 : decode cX7_addBelow 89 = .ok (.if_icmp .ne 15, 3) := by decide +kernel
theorem dX7_addBelow_92 : decode cX7_addBelow 92 = .ok (.iload 5, 2) := by decide +kernel
theorem dX7_addBelow_94 : decode cX7_addBelow 94 = .ok (.iload 6, 2) := by decide +kernel
theorem dX7_addBelow_96 : decode cX7_addBelow 96 = .ok (.iadd, 1) := by decide +kernel
theorem dX7_addBelow_97 : decode cX7_addBelow 97 = .ok (.iconst 2, 1) := by decide +kernel
theorem dX7_addBelow_98 : decode cX7_addBelow 98 = .ok (.idiv, 1) := by decide +kernel
theorem dX7_addBelow_99 : decode cX7_addBelow 99 = .ok (.iconst 1, 1) := by decide +kernel
theorem dX7_addBelow_100 : decode cX7_addBelow 100 = .ok (.iadd, 1) := by decide +kernel
theorem dX7_addBelow_101 : decode cX7_addBelow 101 = .ok (.goto 5, 3) := by decide +kernel
theorem dX7_addBelow_104 : decode cX7_addBelow 104 = .ok (.iload 5, 2) := by decide +kernel
theorem dX7_addBelow_106 : decode cX7_addBelow 106 = .ok (.iastore, 1) := by decide +kernel
theorem dX7_addBelow_107 : decode cX7_addBelow 107 = .ok (.aload_n 0, 1) := by decide +kernel
theorem dX7_addBelow_108 : decode cX7_addBelow 108 = .ok (.getfield 72, 3) := by decide +kernel
theorem dX7_addBelow_111 : decode cX7_addBelow 111 = .ok (.iconst 4, 1) := by decide +kernel
theorem dX7_addBelow_112 : decode cX7_addBelow 112 = .ok (.aload_n 0, 1) := by decide +kernel
theorem dX7_addBelow_113 : decode cX7_addBelow 113 = .ok (.getfield 221, 3) := by decide +kernel
theorem dX7_addBelow_116 : decode cX7_addBelow 116 = .ok (.imul, 1) := by decide +kernel
theorem dX7_addBelow_117 : decode cX7_addBelow 117 = .ok (.iload 4, 2) := by decide +kernel
theorem dX7_addBelow_119 : decode cX7_addBelow 119 = .ok (.iadd, 1) := by decide +kernel
theorem dX7_addBelow_120 : decode cX7_addBelow 120 = .ok (.iload 4, 2) := by decide +kernel
theorem dX7_addBelow_122 : decode cX7_addBelow 122 = .ok (.iload_n 2, 1) := by decide +kernel
theorem dX7_addBelow_123 : decode cX7_addBelow 123 = .ok (.if_icmp .ne 17, 3) := by decide +kernel
theorem dX7_addBelow_126 : decode cX7_addBelow 126 = .ok (.iload_n 3, 1) := by decide +kernel
theorem dX7_addBelow_127 : decode cX7_addBelow 127 = .ok (.ifCond .ne 13, 3) := by decide +kernel
theorem dX7_addBelow_130 : decode cX7_addBelow 130 = .ok (.iload 5, 2) := by decide +kernel
theorem dX7_addBelow_132 : decode cX7_addBelow 132 = .ok (.iload 6, 2) := by decide +kernel
theorem dX7_addBelow_134 : decode cX7_addBelow 134 = .ok (.iadd, 1) := by decide +kernel
theorem dX7_addBelow_135 : decode cX7_addBelow 135 = .ok (.iconst 2, 1) := by decide +kernel
theorem dX7_addBelow_136 : decode cX7_addBelow 136 = .ok (.idiv, 1) := by decide +kernel
theorem dX7_addBelow_137 : decode cX7_addBelow 137 = .ok (.goto 5, 3) := by decide +kernel
theorem dX7_addBelow_140 : decode cX7_addBelow 140 = .ok (.iload 6, 2) := by decide +kernel
theorem dX7_addBelow_142 : decode cX7_addBelow 142 = .ok (.iastore, 1) := by decide +kernel
theorem dX7_addBelow_143 : decode cX7_addBelow 143 = .ok (.iinc 4 1, 3) := by decide +kernel
theorem dX7_addBelow_146 : decode cX7_addBelow 146 = .ok (.goto (-110), 3) := by decide +kernel
theorem dX7_addBelow_149 : decode cX7_addBelow 149 = .ok (.aload_n 0, 1) := by decide +kernel
theorem dX7_addBelow_150 : decode cX7_addBelow 150 = .ok (.dup, 1) := by decide +kernel
theorem dX7_addBelow_151 : decode cX7_addBelow 151 = .ok (.getfield 221, 3) := by decide +kernel
theorem dX7_addBelow_154 : decode cX7_addBelow 154 = .ok (.iconst 1, 1) := by decide +kernel
theorem dX7_addBelow_155 : decode cX7_addBelow 155 = .ok (.iadd, 1) := by decide +kernel
theorem dX7_addBelow_156 : decode cX7_addBelow 156 = .ok (.putfield 221, 3) := by decide +kernel
theorem dX7_addBelow_159 : decode cX7_addBelow 159 = .ok (.return_, 1) := by decide +kernel
theorem dX7_growTree_0 : decode cX7_growTree 0 = .ok (.aload_n 0, 1) := by decide +kernel
theorem dX7_growTree_1 : decode cX7_growTree 1 = .ok (.invokevirtual 147, 3) := by decide +kernel
theorem dX7_growTree_4 : decode cX7_growTree 4 = .ok (.aload_n 0, 1) := by decide +kernel
theorem dX7_growTree_5 : decode cX7_growTree 5 = .ok (.getfield 121, 3) := by decide +kernel
theorem dX7_growTree_8 : decode cX7_growTree 8 = .ok (.ifCond .eq 4, 3) := by decide +kernel
theorem dX7_growTree_11 : decode cX7_growTree 11 = .ok (.return_, 1) := by decide +kernel
theorem dX7_growTree_12 : decode cX7_growTree 12 = .ok (.aload_n 0, 1) := by decide +kernel
theorem dX7_growTree_13 : decode cX7_growTree 13 = .ok (.iconst 1, 1) := by decide +kernel
theorem dX7_growTree_14 : decode cX7_growTree 14 = .ok (.putfield 121, 3) := by decide +kernel
theorem dX7_growTree_17 : decode cX7_growTree 17 = .ok (.aload_n 0, 1) := by decide +kernel
theorem dX7_growTree_18 : decode cX7_growTree 18 = .ok (.iconst 1, 1) := by decide +kernel
theorem dX7_growTree_19 : decode cX7_growTree 19 = .ok (.putfield 221, 3) := by decide +kernel
theorem dX7_growTree_22 : decode cX7_growTree 22 = .ok (.aload_n 0, 1) := by decide +kernel
theorem dX7_growTree_23 : decode cX7_growTree 23 = .ok (.getfield 75, 3) := by decide +kernel
theorem dX7_growTree_26 : decode cX7_growTree 26 = .ok (.iconst 0, 1) := by decide +kernel
theorem dX7_growTree_27 : decode cX7_growTree 27 = .ok (.iconst 1, 1) := by decide +kernel
theorem dX7_growTree_28 : decode cX7_growTree 28 = .ok (.aload_n 0, 1) := by decide +kernel
theorem dX7_growTree_29 : decode cX7_growTree 29 = .ok (.getfield 104, 3) := by decide +kernel
theorem dX7_growTree_32 : decode cX7_growTree 32 = .ok (.ishl, 1) := by decide +kernel
theorem dX7_growTree_33 : decode cX7_growTree 33 = .ok (.iconst 1, 1) := by decide +kernel
theorem dX7_growTree_34 : decode cX7_growTree 34 = .ok (.isub, 1) := by decide +kernel
theorem dX7_growTree_35 : decode cX7_growTree 35 = .ok (.iastore, 1) := by decide +kernel
theorem dX7_growTree_36 : decode cX7_growTree 36 = .ok (.aload_n 0, 1) := by decide +kernel
theorem dX7_growTree_37 : decode cX7_growTree 37 = .ok (.getfield 78, 3) := by decide +kernel
theorem dX7_growTree_40 : decode cX7_growTree 40 = .ok (.iconst 0, 1) := by decide +kernel
theorem dX7_growTree_41 : decode cX7_growTree 41 = .ok (.iconst 0, 1) := by decide +kernel
theorem dX7_growTree_42 : decode cX7_growTree 42 = .ok (.iastore, 1) := by decide +kernel
theorem dX7_growTree_43 : decode cX7_growTree 43 = .ok (.iconst 0, 1) := by decide +kernel
theorem dX7_growTree_44 : decode cX7_growTree 44 = .ok (.istore_n 1, 1) := by decide +kernel
theorem dX7_growTree_45 : decode cX7_growTree 45 = .ok (.iload_n 1, 1) := by decide +kernel
theorem dX7_growTree_46 : decode cX7_growTree 46 = .ok (.iconst 4, 1) := by decide +kernel
theorem dX7_growTree_47 : decode cX7_growTree 47 = .ok (.if_icmp .ge 26, 3) := by decide +kernel
theorem dX7_growTree_50 : decode cX7_growTree 50 = .ok (.aload_n 0, 1) := by decide +kernel
theorem dX7_growTree_51 : decode cX7_growTree 51 = .ok (.getfield 69, 3) := by decide +kernel
theorem dX7_growTree_54 : decode cX7_growTree 54 = .ok (.iload_n 1, 1) := by decide +kernel
theorem dX7_growTree_55 : decode cX7_growTree 55 = .ok (.iconst 0, 1) := by decide +kernel
theorem dX7_growTree_56 : decode cX7_growTree 56 = .ok (.iastore, 1) := by decide +kernel
theorem dX7_growTree_57 : decode cX7_growTree 57 = .ok (.aload_n 0, 1) := by decide +kernel
theorem dX7_growTree_58 : decode cX7_growTree 58 = .ok (.getfield 72, 3) := by decide +kernel
theorem dX7_growTree_61 : decode cX7_growTree 61 = .ok (.iload_n 1, 1) := by decide +kernel
theorem dX7_growTree_62 : decode cX7_growTree 62 = .ok (.iload_n 1, 1) := by decide +kernel
theorem dX7_growTree_63 : decode cX7_growTree 63 = .ok (.invokestatic 124, 3) := by decide +kernel
theorem dX7_growTree_66 : decode cX7_growTree 66 = .ok (.iastore, 1) := by decide +kernel
theorem dX7_growTree_67 : decode cX7_growTree 67 = .ok (.iinc 1 1, 3) := by decide +kernel
theorem dX7_growTree_70 : decode cX7_growTree 70 = .ok (.goto (-25), 3) := by decide +kernel
theorem dX7_growTree_73 : decode cX7_growTree 73 = .ok (.iconst 0, 1) := by decide +kernel
theorem dX7_growTree_74 : decode cX7_growTree 74 = .ok (.istore_n 1, 1) := by decide +kernel
theorem dX7_growTree_75 : decode cX7_growTree 75 = .ok (.iload_n 1, 1) := by decide +kernel
theorem dX7_growTree_76 : decode cX7_growTree 76 = .ok (.aload_n 0, 1) := by decide +kernel
theorem dX7_growTree_77 : decode cX7_growTree 77 = .ok (.getfield 221, 3) := by decide +kernel
theorem dX7_growTree_80 : decode cX7_growTree 80 = .ok (.if_icmp .ge 63, 3) := by decide +kernel
theorem dX7_growTree_83 : decode cX7_growTree 83 = .ok (.aload_n 0, 1) := by decide +kernel
theorem dX7_growTree_84 : decode cX7_growTree 84 = .ok (.getfield 81, 3) := by decide +kernel
theorem dX7_growTree_87 : decode cX7_growTree 87 = .ok (.iload_n 1, 1) := by decide +kernel
theorem dX7_growTree_88 : decode cX7_growTree 88 = .ok (.aload_n 0, 1) := by decide +kernel
theorem dX7_growTree_89 : decode cX7_growTree 89 = .ok (.iload_n 1, 1) := by decide +kernel
theorem dX7_growTree_90 : decode cX7_growTree 90 = .ok (.invokevirtual 224, 3) := by decide +kernel
theorem dX7_growTree_93 : decode cX7_growTree 93 = .ok (.iastore, 1) := by decide +kernel
theorem dX7_growTree_94 : decode cX7_growTree 94 = .ok (.aload_n 0, 1) := by decide +kernel
theorem dX7_growTree_95 : decode cX7_growTree 95 = .ok (.getfield 84, 3) := by decide +kernel
theorem dX7_growTree_98 : decode cX7_growTree 98 = .ok (.iload_n 1, 1) := by decide +kernel
theorem dX7_growTree_99 : decode cX7_growTree 99 = .ok (.aload_n 0, 1) := by decide +kernel
theorem dX7_growTree_100 : decode cX7_growTree 100 = .ok (.getfield 221, 3) := by decide +kernel
theorem dX7_growTree_103 : decode cX7_growTree 103 = .ok (.iastore, 1) := by decide +kernel
theorem dX7_growTree_104 : decode cX7_growTree 104 = .ok (.aload_n 0, 1) := by decide +kernel
theorem dX7_growTree_105 : decode cX7_growTree 105 = .ok (.getfield 81, 3) := by decide +kernel
theorem dX7_growTree_108 : decode cX7_growTree 108 = .ok (.iload_n 1, 1) := by decide +kernel
theorem dX7_growTree_109 : decode cX7_growTree 109 = .ok (.iaload, 1) := by decide +kernel
theorem dX7_growTree_110 : decode cX7_growTree 110 = .ok (.ifCond .lt 27, 3) := by decide +kernel
theorem dX7_growTree_113 : decode cX7_growTree 113 = .ok (.aload_n 0, 1) := by decide +kernel
theorem dX7_growTree_114 : decode cX7_growTree 114 = .ok (.iload_n 1, 1) := by decide +kernel
theorem dX7_growTree_115 : decode cX7_growTree 115 = .ok (.aload_n 0, 1) := by decide +kernel
theorem dX7_growTree_116 : decode cX7_growTree 116 = .ok (.getfield 81, 3) := by decide +kernel
theorem dX7_growTree_119 : decode cX7_growTree 119 = .ok (.iload_n 1, 1) := by decide +kernel
theorem dX7_growTree_120 : decode cX7_growTree 120 = .ok (.iaload, 1) := by decide +kernel
theorem dX7_growTree_121 : decode cX7_growTree 121 = .ok (.iconst 0, 1) := by decide +kernel
theorem dX7_growTree_122 : decode cX7_growTree 122 = .ok (.invokevirtual 227, 3) := by decide +kernel
theorem dX7_growTree_125 : decode cX7_growTree 125 = .ok (.aload_n 0, 1) := by decide +kernel
theorem dX7_growTree_126 : decode cX7_growTree 126 = .ok (.iload_n 1, 1) := by decide +kernel
theorem dX7_growTree_127 : decode cX7_growTree 127 = .ok (.aload_n 0, 1) := by decide +kernel
theorem dX7_growTree_128 : decode cX7_growTree 128 = .ok (.getfield 81, 3) := by decide +kernel
theorem dX7_growTree_131 : decode cX7_growTree 131 = .ok (.iload_n 1, 1) := by decide +kernel
theorem dX7_growTree_132 : decode cX7_growTree 132 = .ok (.iaload, 1) := by decide +kernel
theorem dX7_growTree_133 : decode cX7_growTree 133 = .ok (.iconst 1, 1) := by decide +kernel
theorem dX7_growTree_134 : decode cX7_growTree 134 = .ok (.invokevirtual 227, 3) := by decide +kernel
theorem dX7_growTree_137 : decode cX7_growTree 137 = .ok (.iinc 1 1, 3) := by decide +kernel
theorem dX7_growTree_140 : decode cX7_growTree 140 = .ok (.goto (-65), 3) := by decide +kernel
theorem dX7_growTree_143 : decode cX7_growTree 143 = .ok (.return_, 1) := by decide +kernel
theorem dX7_grow_0 : decode cX7_grow 0 = .ok (.iload_n 1, 1) := by decide +kernel
theorem dX7_grow_1 : decode cX7_grow 1 = .ok (.iconst 0, 1) := by decide +kernel
theorem dX7_grow_2 : decode cX7_grow 2 = .ok (.iconst 1, 1) := by decide +kernel
theorem dX7_grow_3 : decode cX7_grow 3 = .ok (.invokestatic 100, 3) := by decide +kernel
theorem dX7_grow_6 : decode cX7_grow 6 = .ok (.ifCond .eq 21, 3) := by decide +kernel
theorem dX7_grow_9 : decode cX7_grow 9 = .ok (.iload_n 2, 1) := by decide +kernel
theorem dX7_grow_10 : decode cX7_grow 10 = .ok (.iconst 1, 1) := by decide +kernel
theorem dX7_grow_11 : decode cX7_grow 11 = .ok (.iload_n 1, 1) := by decide +kernel
theorem dX7_grow_12 : decode cX7_grow 12 = .ok (.ifCond .ne 7, 3) := by decide +kernel
theorem dX7_grow_15 : decode cX7_grow 15 = .ok (.iconst 4, 1) := by decide +kernel
theorem dX7_grow_16 : decode cX7_grow 16 = .ok (.goto 5, 3) := by decide +kernel
theorem dX7_grow_19 : decode cX7_grow 19 = .ok (.bipush 8, 2) := by decide +kernel
theorem dX7_grow_21 : decode cX7_grow 21 = .ok (.invokestatic 100, 3) := by decide +kernel
theorem dX7_grow_24 : decode cX7_grow 24 = .ok (.ifCond .ne 6, 3) := by decide +kernel
theorem dX7_grow_27 : decode cX7_grow 27 = .ok (.bipush (-2), 2) := by decide +kernel
theorem dX7_grow_29 : decode cX7_grow 29 = .ok (.ireturn, 1) := by decide +kernel
theorem dX7_grow_30 : decode cX7_grow 30 = .ok (.iload_n 1, 1) := by decide +kernel
theorem dX7_grow_31 : decode cX7_grow 31 = .ok (.ifCond .ne 10, 3) := by decide +kernel
theorem dX7_grow_34 : decode cX7_grow 34 = .ok (.aload_n 0, 1) := by decide +kernel
theorem dX7_grow_35 : decode cX7_grow 35 = .ok (.getfield 22, 3) := by decide +kernel
theorem dX7_grow_38 : decode cX7_grow 38 = .ok (.goto 7, 3) := by decide +kernel
theorem dX7_grow_41 : decode cX7_grow 41 = .ok (.aload_n 0, 1) := by decide +kernel
theorem dX7_grow_42 : decode cX7_grow 42 = .ok (.getfield 26, 3) := by decide +kernel
theorem dX7_grow_45 : decode cX7_grow 45 = .ok (.istore_n 3, 1) := by decide +kernel
theorem dX7_grow_46 : decode cX7_grow 46 = .ok (.aload_n 0, 1) := by decide +kernel
theorem dX7_grow_47 : decode cX7_grow 47 = .ok (.iload_n 1, 1) := by decide +kernel
theorem dX7_grow_48 : decode cX7_grow 48 = .ok (.ifCond .ne 7, 3) := by decide +kernel
theorem dX7_grow_51 : decode cX7_grow 51 = .ok (.iload_n 2, 1) := by decide +kernel
theorem dX7_grow_52 : decode cX7_grow 52 = .ok (.goto 7, 3) := by decide +kernel
theorem dX7_grow_55 : decode cX7_grow 55 = .ok (.aload_n 0, 1) := by decide +kernel
theorem dX7_grow_56 : decode cX7_grow 56 = .ok (.getfield 22, 3) := by decide +kernel
theorem dX7_grow_59 : decode cX7_grow 59 = .ok (.putfield 22, 3) := by decide +kernel
theorem dX7_grow_62 : decode cX7_grow 62 = .ok (.aload_n 0, 1) := by decide +kernel
theorem dX7_grow_63 : decode cX7_grow 63 = .ok (.iload_n 1, 1) := by decide +kernel
theorem dX7_grow_64 : decode cX7_grow 64 = .ok (.iconst 1, 1) := by decide +kernel
theorem dX7_grow_65 : decode cX7_grow 65 = .ok (.if_icmp .ne 7, 3) := by decide +kernel
theorem dX7_grow_68 : decode cX7_grow 68 = .ok (.iload_n 2, 1) := by decide +kernel
theorem dX7_grow_69 : decode cX7_grow 69 = .ok (.goto 7, 3) := by decide +kernel
theorem dX7_grow_72 : decode cX7_grow 72 = .ok (.aload_n 0, 1) := by decide +kernel
theorem dX7_grow_73 : decode cX7_grow 73 = .ok (.getfield 26, 3) := by decide +kernel
theorem dX7_grow_76 : decode cX7_grow 76 = .ok (.putfield 26, 3) := by decide +kernel
theorem dX7_grow_79 : decode cX7_grow 79 = .ok (.aload_n 0, 1) := by decide +kernel
theorem dX7_grow_80 : decode cX7_grow 80 = .ok (.iconst 0, 1) := by decide +kernel
theorem dX7_grow_81 : decode cX7_grow 81 = .ok (.putfield 121, 3) := by decide +kernel
theorem dX7_grow_84 : decode cX7_grow 84 = .ok (.iload_n 3, 1) := by decide +kernel
theorem dX7_grow_85 : decode cX7_grow 85 = .ok (.ireturn, 1) := by decide +kernel
theorem dX7_tree_0 : decode cX7_tree 0 = .ok (.iload_n 1, 1) := by decide +kernel
theorem dX7_tree_1 : decode cX7_tree 1 = .ok (.iconst 0, 1) := by decide +kernel
theorem dX7_tree_2 : decode cX7_tree 2 = .ok (.iconst 5, 1) := by decide +kernel
theorem dX7_tree_3 : decode cX7_tree 3 = .ok (.invokestatic 100, 3) := by decide +kernel
theorem dX7_tree_6 : decode cX7_tree 6 = .ok (.ifCond .ne 6, 3) := by decide +kernel
theorem dX7_tree_9 : decode cX7_tree 9 = .ok (.bipush (-2), 2) := by decide +kernel
theorem dX7_tree_11 : decode cX7_tree 11 = .ok (.ireturn, 1) := by decide +kernel
theorem dX7_tree_12 : decode cX7_tree 12 = .ok (.aload_n 0, 1) := by decide +kernel
theorem dX7_tree_13 : decode cX7_tree 13 = .ok (.invokevirtual 231, 3) := by decide +kernel
theorem dX7_tree_16 : decode cX7_tree 16 = .ok (.iconst 0, 1) := by decide +kernel
theorem dX7_tree_17 : decode cX7_tree 17 = .ok (.istore_n 2, 1) := by decide +kernel
theorem dX7_tree_18 : decode cX7_tree 18 = .ok (.iconst 0, 1) := by decide +kernel
theorem dX7_tree_19 : decode cX7_tree 19 = .ok (.istore_n 3, 1) := by decide +kernel
theorem dX7_tree_20 : decode cX7_tree 20 = .ok (.iconst 0, 1) := by decide +kernel
theorem dX7_tree_21 : decode cX7_tree 21 = .ok (.istore 4, 2) := by decide +kernel
theorem dX7_tree_23 : decode cX7_tree 23 = .ok (.iconst 0, 1) := by decide +kernel
theorem dX7_tree_24 : decode cX7_tree 24 = .ok (.istore 5, 2) := by decide +kernel
theorem dX7_tree_26 : decode cX7_tree 26 = .ok (.iconst 0, 1) := by decide +kernel
theorem dX7_tree_27 : decode cX7_tree 27 = .ok (.istore 6, 2) := by decide +kernel
theorem dX7_tree_29 : decode cX7_tree 29 = .ok (.iconst 0, 1) := by decide +kernel
theorem dX7_tree_30 : decode cX7_tree 30 = .ok (.istore 7, 2) := by decide +kernel
theorem dX7_tree_32 : decode cX7_tree 32 = .ok (.iload 7, 2) := by decide +kernel
theorem dX7_tree_34 : decode cX7_tree 34 = .ok (.aload_n 0, 1) := by decide +kernel
theorem dX7_tree_35 : decode cX7_tree 35 = .ok (.getfield 221, 3) := by decide +kernel
theorem dX7_tree_38 : decode cX7_tree 38 = .ok (.if_icmp .ge 95, 3) := by decide +kernel
theorem dX7_tree_41 : decode cX7_tree 41 = .ok (.aload_n 0, 1) := by decide +kernel
theorem dX7_tree_42 : decode cX7_tree 42 = .ok (.getfield 78, 3) := by decide +kernel
theorem dX7_tree_45 : decode cX7_tree 45 = .ok (.iload 7, 2) := by decide +kernel
theorem dX7_tree_47 : decode cX7_tree 47 = .ok (.iaload, 1) := by decide +kernel
theorem dX7_tree_48 : decode cX7_tree 48 = .ok (.iload_n 3, 1) := by decide +kernel
theorem dX7_tree_49 : decode cX7_tree 49 = .ok (.if_icmp .le 13, 3) := by decide +kernel
theorem dX7_tree_52 : decode cX7_tree 52 = .ok (.aload_n 0, 1) := by decide +kernel
theorem dX7_tree_53 : decode cX7_tree 53 = .ok (.getfield 78, 3) := by decide +kernel
theorem dX7_tree_56 : decode cX7_tree 56 = .ok (.iload 7, 2) := by decide +kernel
theorem dX7_tree_58 : decode cX7_tree 58 = .ok (.iaload, 1) := by decide +kernel
theorem dX7_tree_59 : decode cX7_tree 59 = .ok (.goto 4, 3) := by decide +kernel
theorem dX7_tree_62 : decode cX7_tree 62 = .ok (.iload_n 3, 1) := by decide +kernel
theorem dX7_tree_63 : decode cX7_tree 63 = .ok (.istore_n 3, 1) := by decide +kernel
theorem dX7_tree_64 : decode cX7_tree 64 = .ok (.aload_n 0, 1) := by decide +kernel
theorem dX7_tree_65 : decode cX7_tree 65 = .ok (.getfield 81, 3) := by decide +kernel
theorem dX7_tree_68 : decode cX7_tree 68 = .ok (.iload 7, 2) := by decide +kernel
theorem dX7_tree_70 : decode cX7_tree 70 = .ok (.iaload, 1) := by decide +kernel
theorem dX7_tree_71 : decode cX7_tree 71 = .ok (.ifCond .ge 56, 3) := by decide +kernel
theorem dX7_tree_74 : decode cX7_tree 74 = .ok (.aload_n 0, 1) := by decide +kernel
theorem dX7_tree_75 : decode cX7_tree 75 = .ok (.getfield 75, 3) := by decide +kernel
theorem dX7_tree_78 : decode cX7_tree 78 = .ok (.iload 7, 2) := by decide +kernel
theorem dX7_tree_80 : decode cX7_tree 80 = .ok (.iaload, 1) := by decide +kernel
theorem dX7_tree_81 : decode cX7_tree 81 = .ok (.invokestatic 208, 3) := by decide +kernel
theorem dX7_tree_84 : decode cX7_tree 84 = .ok (.istore 8, 2) := by decide +kernel
theorem dX7_tree_86 : decode cX7_tree 86 = .ok (.iinc 2 1, 3) := by decide +kernel
theorem dX7_tree_89 : decode cX7_tree 89 = .ok (.iload 4, 2) := by decide +kernel
theorem dX7_tree_91 : decode cX7_tree 91 = .ok (.iload 8, 2) := by decide +kernel
theorem dX7_tree_93 : decode cX7_tree 93 = .ok (.iadd, 1) := by decide +kernel
theorem dX7_tree_94 : decode cX7_tree 94 = .ok (.istore 4, 2) := by decide +kernel
theorem dX7_tree_96 : decode cX7_tree 96 = .ok (.iload 8, 2) := by decide +kernel
theorem dX7_tree_98 : decode cX7_tree 98 = .ok (.iload 5, 2) := by decide +kernel
theorem dX7_tree_100 : decode cX7_tree 100 = .ok (.if_icmp .le 8, 3) := by decide +kernel
theorem dX7_tree_103 : decode cX7_tree 103 = .ok (.iload 8, 2) := by decide +kernel
theorem dX7_tree_105 : decode cX7_tree 105 = .ok (.goto 5, 3) := by decide +kernel
theorem dX7_tree_108 : decode cX7_tree 108 = .ok (.iload 5, 2) := by decide +kernel
theorem dX7_tree_110 : decode cX7_tree 110 = .ok (.istore 5, 2) := by decide +kernel
theorem dX7_tree_112 : decode cX7_tree 112 = .ok (.iload 6, 2) := by decide +kernel
theorem dX7_tree_114 : decode cX7_tree 114 = .ok (.iload 8, 2) := by decide +kernel
theorem dX7_tree_116 : decode cX7_tree 116 = .ok (.ifCond .ne 7, 3) := by decide +kernel
theorem dX7_tree_119 : decode cX7_tree 119 = .ok (.iconst 1, 1) := by decide +kernel
theorem dX7_tree_120 : decode cX7_tree 120 = .ok (.goto 4, 3) := by decide +kernel
theorem dX7_tree_123 : decode cX7_tree 123 = .ok (.iconst 0, 1) := by decide +kernel
theorem dX7_tree_124 : decode cX7_tree 124 = .ok (.iadd, 1) := by decide +kernel
theorem dX7_tree_125 : decode cX7_tree 125 = .ok (.istore 6, 2) := by decide +kernel
theorem dX7_tree_127 : decode cX7_tree 127 = .ok (.iinc 7 1, 3) := by decide +kernel
theorem dX7_tree_130 : decode cX7_tree 130 = .ok (.goto (-98), 3) := by decide +kernel
theorem dX7_tree_133 : decode cX7_tree 133 = .ok (.iload_n 1, 1) := by decide +kernel
theorem dX7_tree_134 : decode cX7_tree 134 = .ok (.ifCond .ne 10, 3) := by decide +kernel
theorem dX7_tree_137 : decode cX7_tree 137 = .ok (.aload_n 0, 1) := by decide +kernel
theorem dX7_tree_138 : decode cX7_tree 138 = .ok (.getfield 221, 3) := by decide +kernel
theorem dX7_tree_141 : decode cX7_tree 141 = .ok (.goto 43, 3) := by decide +kernel
theorem dX7_tree_144 : decode cX7_tree 144 = .ok (.iload_n 1, 1) := by decide +kernel
theorem dX7_tree_145 : decode cX7_tree 145 = .ok (.iconst 1, 1) := by decide +kernel
theorem dX7_tree_146 : decode cX7_tree 146 = .ok (.if_icmp .ne 7, 3) := by decide +kernel
theorem dX7_tree_149 : decode cX7_tree 149 = .ok (.iload_n 2, 1) := by decide +kernel
theorem dX7_tree_150 : decode cX7_tree 150 = .ok (.goto 34, 3) := by decide +kernel
theorem dX7_tree_153 : decode cX7_tree 153 = .ok (.iload_n 1, 1) := by decide +kernel
theorem dX7_tree_154 : decode cX7_tree 154 = .ok (.iconst 2, 1) := by decide +kernel
theorem dX7_tree_155 : decode cX7_tree 155 = .ok (.if_icmp .ne 7, 3) := by decide +kernel
theorem dX7_tree_158 : decode cX7_tree 158 = .ok (.iload_n 3, 1) := by decide +kernel
theorem dX7_tree_159 : decode cX7_tree 159 = .ok (.goto 25, 3) := by decide +kernel
theorem dX7_tree_162 : decode cX7_tree 162 = .ok (.iload_n 1, 1) := by decide +kernel
theorem dX7_tree_163 : decode cX7_tree 163 = .ok (.iconst 3, 1) := by decide +kernel
theorem dX7_tree_164 : decode cX7_tree 164 = .ok (.if_icmp .ne 8, 3) := by decide +kernel
theorem dX7_tree_167 : decode cX7_tree 167 = .ok (.iload 4, 2) := by decide +kernel
theorem dX7_tree_169 : decode cX7_tree 169 = .ok (.goto 15, 3) := by decide +kernel
theorem dX7_tree_172 : decode cX7_tree 172 = .ok (.iload_n 1, 1) := by decide +kernel
theorem dX7_tree_173 : decode cX7_tree 173 = .ok (.iconst 4, 1) := by decide +kernel
theorem dX7_tree_174 : decode cX7_tree 174 = .ok (.if_icmp .ne 8, 3) := by decide +kernel
theorem dX7_tree_177 : decode cX7_tree 177 = .ok (.iload 5, 2) := by decide +kernel
theorem dX7_tree_179 : decode cX7_tree 179 = .ok (.goto 5, 3) := by decide +kernel
theorem dX7_tree_182 : decode cX7_tree 182 = .ok (.iload 6, 2) := by decide +kernel
theorem dX7_tree_184 : decode cX7_tree 184 = .ok (.ireturn, 1) := by decide +kernel
theorem dX7_looked_0 : decode cX7_looked 0 = .ok (.iconst 0, 1) := by decide +kernel
theorem dX7_looked_1 : decode cX7_looked 1 = .ok (.istore_n 3, 1) := by decide +kernel
theorem dX7_looked_2 : decode cX7_looked 2 = .ok (.iconst 0, 1) := by decide +kernel
theorem dX7_looked_3 : decode cX7_looked 3 = .ok (.istore 4, 2) := by decide +kernel
theorem dX7_looked_5 : decode cX7_looked 5 = .ok (.iload 4, 2) := by decide +kernel
theorem dX7_looked_7 : decode cX7_looked 7 = .ok (.aload_n 0, 1) := by decide +kernel
theorem dX7_looked_8 : decode cX7_looked 8 = .ok (.getfield 104, 3) := by decide +kernel
theorem dX7_looked_11 : decode cX7_looked 11 = .ok (.if_icmp .ge 32, 3) := by decide +kernel
theorem dX7_looked_14 : decode cX7_looked 14 = .ok (.iload_n 1, 1) := by decide +kernel
theorem dX7_looked_15 : decode cX7_looked 15 = .ok (.iload 4, 2) := by decide +kernel
theorem dX7_looked_17 : decode cX7_looked 17 = .ok (.invokestatic 107, 3) := by decide +kernel
theorem dX7_looked_20 : decode cX7_looked 20 = .ok (.ifCond .eq 17, 3) := by decide +kernel
theorem dX7_looked_23 : decode cX7_looked 23 = .ok (.iinc 3 1, 3) := by decide +kernel
theorem dX7_looked_26 : decode cX7_looked 26 = .ok (.iload_n 2, 1) := by decide +kernel
theorem dX7_looked_27 : decode cX7_looked 27 = .ok (.iload 4, 2) := by decide +kernel
theorem dX7_looked_29 : decode cX7_looked 29 = .ok (.invokestatic 107, 3) := by decide +kernel
theorem dX7_looked_32 : decode cX7_looked 32 = .ok (.ifCond .eq 5, 3) := by decide +kernel
theorem dX7_looked_35 : decode cX7_looked 35 = .ok (.iload_n 3, 1) := by decide +kernel
theorem dX7_looked_36 : decode cX7_looked 36 = .ok (.ireturn, 1) := by decide +kernel
theorem dX7_looked_37 : decode cX7_looked 37 = .ok (.iinc 4 1, 3) := by decide +kernel
theorem dX7_looked_40 : decode cX7_looked 40 = .ok (.goto (-35), 3) := by decide +kernel
theorem dX7_looked_43 : decode cX7_looked 43 = .ok (.iload_n 3, 1) := by decide +kernel
theorem dX7_looked_44 : decode cX7_looked 44 = .ok (.ireturn, 1) := by decide +kernel
theorem dX7_walk_0 : decode cX7_walk 0 = .ok (.iload_n 1, 1) := by decide +kernel
theorem dX7_walk_1 : decode cX7_walk 1 = .ok (.iload_n 2, 1) := by decide +kernel
theorem dX7_walk_2 : decode cX7_walk 2 = .ok (.iload_n 3, 1) := by decide +kernel
theorem dX7_walk_3 : decode cX7_walk 3 = .ok (.iload 4, 2) := by decide +kernel
theorem dX7_walk_5 : decode cX7_walk 5 = .ok (.invokestatic 150, 3) := by decide +kernel
theorem dX7_walk_8 : decode cX7_walk 8 = .ok (.ifCond .eq 25, 3) := by decide +kernel
theorem dX7_walk_11 : decode cX7_walk 11 = .ok (.iload 5, 2) := by decide +kernel
theorem dX7_walk_13 : decode cX7_walk 13 = .ok (.iconst 0, 1) := by decide +kernel
theorem dX7_walk_14 : decode cX7_walk 14 = .ok (.iconst 2, 1) := by decide +kernel
theorem dX7_walk_15 : decode cX7_walk 15 = .ok (.invokestatic 100, 3) := by decide +kernel
theorem dX7_walk_18 : decode cX7_walk 18 = .ok (.ifCond .ne 18, 3) := by decide +kernel
theorem dX7_walk_21 : decode cX7_walk 21 = .ok (.iload 5, 2) := by decide +kernel
theorem dX7_walk_23 : decode cX7_walk 23 = .ok (.bipush 10, 2) := by decide +kernel
theorem dX7_walk_25 : decode cX7_walk 25 = .ok (.bipush 13, 2) := by decide +kernel
theorem dX7_walk_27 : decode cX7_walk 27 = .ok (.invokestatic 100, 3) := by decide +kernel
theorem dX7_walk_30 : decode cX7_walk 30 = .ok (.ifCond .ne 6, 3) := by decide +kernel
theorem dX7_walk_33 : decode cX7_walk 33 = .ok (.bipush (-2), 2) := by decide +kernel
theorem dX7_walk_35 : decode cX7_walk 35 = .ok (.ireturn, 1) := by decide +kernel
theorem dX7_walk_36 : decode cX7_walk 36 = .ok (.aload_n 0, 1) := by decide +kernel
theorem dX7_walk_37 : decode cX7_walk 37 = .ok (.invokevirtual 231, 3) := by decide +kernel
theorem dX7_walk_40 : decode cX7_walk 40 = .ok (.iconst 0, 1) := by decide +kernel
theorem dX7_walk_41 : decode cX7_walk 41 = .ok (.istore 6, 2) := by decide +kernel
theorem dX7_walk_43 : decode cX7_walk 43 = .ok (.iconst 0, 1) := by decide +kernel
theorem dX7_walk_44 : decode cX7_walk 44 = .ok (.istore 7, 2) := by decide +kernel
theorem dX7_walk_46 : decode cX7_walk 46 = .ok (.aload_n 0, 1) := by decide +kernel
theorem dX7_walk_47 : decode cX7_walk 47 = .ok (.getfield 81, 3) := by decide +kernel
theorem dX7_walk_50 : decode cX7_walk 50 = .ok (.iload 6, 2) := by decide +kernel
theorem dX7_walk_52 : decode cX7_walk 52 = .ok (.iaload, 1) := by decide +kernel
theorem dX7_walk_53 : decode cX7_walk 53 = .ok (.ifCond .lt 105, 3) := by decide +kernel
theorem dX7_walk_56 : decode cX7_walk 56 = .ok (.aload_n 0, 1) := by decide +kernel
theorem dX7_walk_57 : decode cX7_walk 57 = .ok (.getfield 81, 3) := by decide +kernel
theorem dX7_walk_60 : decode cX7_walk 60 = .ok (.iload 6, 2) := by decide +kernel
theorem dX7_walk_62 : decode cX7_walk 62 = .ok (.iaload, 1) := by decide +kernel
theorem dX7_walk_63 : decode cX7_walk 63 = .ok (.istore 8, 2) := by decide +kernel
theorem dX7_walk_65 : decode cX7_walk 65 = .ok (.iload 8, 2) := by decide +kernel
theorem dX7_walk_67 : decode cX7_walk 67 = .ok (.ifCond .ne 7, 3) := by decide +kernel
theorem dX7_walk_70 : decode cX7_walk 70 = .ok (.iload_n 1, 1) := by decide +kernel
theorem dX7_walk_71 : decode cX7_walk 71 = .ok (.goto 25, 3) := by decide +kernel
theorem dX7_walk_74 : decode cX7_walk 74 = .ok (.iload 8, 2) := by decide +kernel
theorem dX7_walk_76 : decode cX7_walk 76 = .ok (.iconst 1, 1) := by decide +kernel
theorem dX7_walk_77 : decode cX7_walk 77 = .ok (.if_icmp .ne 7, 3) := by decide +kernel
theorem dX7_walk_80 : decode cX7_walk 80 = .ok (.iload_n 2, 1) := by decide +kernel
theorem dX7_walk_81 : decode cX7_walk 81 = .ok (.goto 15, 3) := by decide +kernel
theorem dX7_walk_84 : decode cX7_walk 84 = .ok (.iload 8, 2) := by decide +kernel
theorem dX7_walk_86 : decode cX7_walk 86 = .ok (.iconst 2, 1) := by decide +kernel
theorem dX7_walk_87 : decode cX7_walk 87 = .ok (.if_icmp .ne 7, 3) := by decide +kernel
theorem dX7_walk_90 : decode cX7_walk 90 = .ok (.iload_n 3, 1) := by decide +kernel
theorem dX7_walk_91 : decode cX7_walk 91 = .ok (.goto 5, 3) := by decide +kernel
theorem dX7_walk_94 : decode cX7_walk 94 = .ok (.iload 4, 2) := by decide +kernel
theorem dX7_walk_96 : decode cX7_walk 96 = .ok (.istore 9, 2) := by decide +kernel
theorem dX7_walk_98 : decode cX7_walk 98 = .ok (.iload 7, 2) := by decide +kernel
theorem dX7_walk_100 : decode cX7_walk 100 = .ok (.iload 8, 2) := by decide +kernel
theorem dX7_walk_102 : decode cX7_walk 102 = .ok (.iload 5, 2) := by decide +kernel
theorem dX7_walk_104 : decode cX7_walk 104 = .ok (.bipush 10, 2) := by decide +kernel
theorem dX7_walk_106 : decode cX7_walk 106 = .ok (.isub, 1) := by decide +kernel
theorem dX7_walk_107 : decode cX7_walk 107 = .ok (.if_icmp .ne 7, 3) := by decide +kernel
theorem dX7_walk_110 : decode cX7_walk 110 = .ok (.iconst 1, 1) := by decide +kernel
theorem dX7_walk_111 : decode cX7_walk 111 = .ok (.goto 4, 3) := by decide +kernel
theorem dX7_walk_114 : decode cX7_walk 114 = .ok (.iconst 0, 1) := by decide +kernel
theorem dX7_walk_115 : decode cX7_walk 115 = .ok (.iadd, 1) := by decide +kernel
theorem dX7_walk_116 : decode cX7_walk 116 = .ok (.istore 7, 2) := by decide +kernel
theorem dX7_walk_118 : decode cX7_walk 118 = .ok (.aload_n 0, 1) := by decide +kernel
theorem dX7_walk_119 : decode cX7_walk 119 = .ok (.getfield 84, 3) := by decide +kernel
theorem dX7_walk_122 : decode cX7_walk 122 = .ok (.iload 6, 2) := by decide +kernel
theorem dX7_walk_124 : decode cX7_walk 124 = .ok (.iaload, 1) := by decide +kernel
theorem dX7_walk_125 : decode cX7_walk 125 = .ok (.iload 9, 2) := by decide +kernel
theorem dX7_walk_127 : decode cX7_walk 127 = .ok (.aload_n 0, 1) := by decide +kernel
theorem dX7_walk_128 : decode cX7_walk 128 = .ok (.getfield 72, 3) := by decide +kernel
theorem dX7_walk_131 : decode cX7_walk 131 = .ok (.iconst 4, 1) := by decide +kernel
theorem dX7_walk_132 : decode cX7_walk 132 = .ok (.aload_n 0, 1) := by decide +kernel
theorem dX7_walk_133 : decode cX7_walk 133 = .ok (.getfield 84, 3) := by decide +kernel
theorem dX7_walk_136 : decode cX7_walk 136 = .ok (.iload 6, 2) := by decide +kernel
theorem dX7_walk_138 : decode cX7_walk 138 = .ok (.iaload, 1) := by decide +kernel
theorem dX7_walk_139 : decode cX7_walk 139 = .ok (.imul, 1) := by decide +kernel
theorem dX7_walk_140 : decode cX7_walk 140 = .ok (.iload 8, 2) := by decide +kernel
theorem dX7_walk_142 : decode cX7_walk 142 = .ok (.iadd, 1) := by decide +kernel
theorem dX7_walk_143 : decode cX7_walk 143 = .ok (.iaload, 1) := by decide +kernel
theorem dX7_walk_144 : decode cX7_walk 144 = .ok (.if_icmp .le 7, 3) := by decide +kernel
theorem dX7_walk_147 : decode cX7_walk 147 = .ok (.iconst 1, 1) := by decide +kernel
theorem dX7_walk_148 : decode cX7_walk 148 = .ok (.goto 4, 3) := by decide +kernel
theorem dX7_walk_151 : decode cX7_walk 151 = .ok (.iconst 0, 1) := by decide +kernel
theorem dX7_walk_152 : decode cX7_walk 152 = .ok (.iadd, 1) := by decide +kernel
theorem dX7_walk_153 : decode cX7_walk 153 = .ok (.istore 6, 2) := by decide +kernel
theorem dX7_walk_155 : decode cX7_walk 155 = .ok (.goto (-109), 3) := by decide +kernel
theorem dX7_walk_158 : decode cX7_walk 158 = .ok (.iload 5, 2) := by decide +kernel
theorem dX7_walk_160 : decode cX7_walk 160 = .ok (.bipush 9, 2) := by decide +kernel
theorem dX7_walk_162 : decode cX7_walk 162 = .ok (.if_icmp .le 6, 3) := by decide +kernel
theorem dX7_walk_165 : decode cX7_walk 165 = .ok (.iload 7, 2) := by decide +kernel
theorem dX7_walk_167 : decode cX7_walk 167 = .ok (.ireturn, 1) := by decide +kernel
theorem dX7_walk_168 : decode cX7_walk 168 = .ok (.iload 5, 2) := by decide +kernel
theorem dX7_walk_170 : decode cX7_walk 170 = .ok (.ifCond .ne 13, 3) := by decide +kernel
theorem dX7_walk_173 : decode cX7_walk 173 = .ok (.aload_n 0, 1) := by decide +kernel
theorem dX7_walk_174 : decode cX7_walk 174 = .ok (.getfield 78, 3) := by decide +kernel
theorem dX7_walk_177 : decode cX7_walk 177 = .ok (.iload 6, 2) := by decide +kernel
theorem dX7_walk_179 : decode cX7_walk 179 = .ok (.iaload, 1) := by decide +kernel
theorem dX7_walk_180 : decode cX7_walk 180 = .ok (.goto 42, 3) := by decide +kernel
theorem dX7_walk_183 : decode cX7_walk 183 = .ok (.iload 5, 2) := by decide +kernel
theorem dX7_walk_185 : decode cX7_walk 185 = .ok (.iconst 1, 1) := by decide +kernel
theorem dX7_walk_186 : decode cX7_walk 186 = .ok (.if_icmp .ne 16, 3) := by decide +kernel
theorem dX7_walk_189 : decode cX7_walk 189 = .ok (.aload_n 0, 1) := by decide +kernel
theorem dX7_walk_190 : decode cX7_walk 190 = .ok (.getfield 75, 3) := by decide +kernel
theorem dX7_walk_193 : decode cX7_walk 193 = .ok (.iload 6, 2) := by decide +kernel
theorem dX7_walk_195 : decode cX7_walk 195 = .ok (.iaload, 1) := by decide +kernel
theorem dX7_walk_196 : decode cX7_walk 196 = .ok (.invokestatic 208, 3) := by decide +kernel
theorem dX7_walk_199 : decode cX7_walk 199 = .ok (.goto 23, 3) := by decide +kernel
theorem dX7_walk_202 : decode cX7_walk 202 = .ok (.aload_n 0, 1) := by decide +kernel
theorem dX7_walk_203 : decode cX7_walk 203 = .ok (.aload_n 0, 1) := by decide +kernel
theorem dX7_walk_204 : decode cX7_walk 204 = .ok (.getfield 75, 3) := by decide +kernel
theorem dX7_walk_207 : decode cX7_walk 207 = .ok (.iload 6, 2) := by decide +kernel
theorem dX7_walk_209 : decode cX7_walk 209 = .ok (.iaload, 1) := by decide +kernel
theorem dX7_walk_210 : decode cX7_walk 210 = .ok (.aload_n 0, 1) := by decide +kernel
theorem dX7_walk_211 : decode cX7_walk 211 = .ok (.iload_n 1, 1) := by decide +kernel
theorem dX7_walk_212 : decode cX7_walk 212 = .ok (.iload_n 2, 1) := by decide +kernel
theorem dX7_walk_213 : decode cX7_walk 213 = .ok (.iload_n 3, 1) := by decide +kernel
theorem dX7_walk_214 : decode cX7_walk 214 = .ok (.iload 4, 2) := by decide +kernel
theorem dX7_walk_216 : decode cX7_walk 216 = .ok (.invokevirtual 154, 3) := by decide +kernel
theorem dX7_walk_219 : decode cX7_walk 219 = .ok (.invokevirtual 234, 3) := by decide +kernel
theorem dX7_walk_222 : decode cX7_walk 222 = .ok (.ireturn, 1) := by decide +kernel
theorem dX7_image_0 : decode cX7_image 0 = .ok (.iload_n 1, 1) := by decide +kernel
theorem dX7_image_1 : decode cX7_image 1 = .ok (.iconst 0, 1) := by decide +kernel
theorem dX7_image_2 : decode cX7_image 2 = .ok (.iconst 1, 1) := by decide +kernel
theorem dX7_image_3 : decode cX7_image 3 = .ok (.invokestatic 100, 3) := by decide +kernel
theorem dX7_image_6 : decode cX7_image 6 = .ok (.ifCond .ne 6, 3) := by decide +kernel
theorem dX7_image_9 : decode cX7_image 9 = .ok (.bipush (-2), 2) := by decide +kernel
theorem dX7_image_11 : decode cX7_image 11 = .ok (.ireturn, 1) := by decide +kernel
theorem dX7_image_12 : decode cX7_image 12 = .ok (.sipush 163, 3) := by decide +kernel
theorem dX7_image_15 : decode cX7_image 15 = .ok (.iload_n 1, 1) := by decide +kernel
theorem dX7_image_16 : decode cX7_image 16 = .ok (.imul, 1) := by decide +kernel
theorem dX7_image_17 : decode cX7_image 17 = .ok (.istore_n 2, 1) := by decide +kernel
theorem dX7_image_18 : decode cX7_image 18 = .ok (.iconst 0, 1) := by decide +kernel
theorem dX7_image_19 : decode cX7_image 19 = .ok (.istore_n 3, 1) := by decide +kernel
theorem dX7_image_20 : decode cX7_image 20 = .ok (.iload_n 3, 1) := by decide +kernel
theorem dX7_image_21 : decode cX7_image 21 = .ok (.bipush 64, 2) := by decide +kernel
theorem dX7_image_23 : decode cX7_image 23 = .ok (.if_icmp .ge 40, 3) := by decide +kernel
theorem dX7_image_26 : decode cX7_image 26 = .ok (.aload_n 0, 1) := by decide +kernel
theorem dX7_image_27 : decode cX7_image 27 = .ok (.getfield 87, 3) := by decide +kernel
theorem dX7_image_30 : decode cX7_image 30 = .ok (.iload_n 2, 1) := by decide +kernel
theorem dX7_image_31 : decode cX7_image 31 = .ok (.iload_n 3, 1) := by decide +kernel
theorem dX7_image_32 : decode cX7_image 32 = .ok (.iadd, 1) := by decide +kernel
theorem dX7_image_33 : decode cX7_image 33 = .ok (.aload_n 0, 1) := by decide +kernel
theorem dX7_image_34 : decode cX7_image 34 = .ok (.getfield 7, 3) := by decide +kernel
theorem dX7_image_37 : decode cX7_image 37 = .ok (.iload_n 3, 1) := by decide +kernel
theorem dX7_image_38 : decode cX7_image 38 = .ok (.iaload, 1) := by decide +kernel
theorem dX7_image_39 : decode cX7_image 39 = .ok (.iastore, 1) := by decide +kernel
theorem dX7_image_40 : decode cX7_image 40 = .ok (.aload_n 0, 1) := by decide +kernel
theorem dX7_image_41 : decode cX7_image 41 = .ok (.getfield 87, 3) := by decide +kernel
theorem dX7_image_44 : decode cX7_image 44 = .ok (.iload_n 2, 1) := by decide +kernel
theorem dX7_image_45 : decode cX7_image 45 = .ok (.bipush 64, 2) := by decide +kernel
theorem dX7_image_47 : decode cX7_image 47 = .ok (.iadd, 1) := by decide +kernel
theorem dX7_image_48 : decode cX7_image 48 = .ok (.iload_n 3, 1) := by decide +kernel
theorem dX7_image_49 : decode cX7_image 49 = .ok (.iadd, 1) := by decide +kernel
theorem dX7_image_50 : decode cX7_image 50 = .ok (.aload_n 0, 1) := by decide +kernel
theorem dX7_image_51 : decode cX7_image 51 = .ok (.getfield 13, 3) := by decide +kernel
theorem dX7_image_54 : decode cX7_image 54 = .ok (.iload_n 3, 1) := by decide +kernel
theorem dX7_image_55 : decode cX7_image 55 = .ok (.iaload, 1) := by decide +kernel
theorem dX7_image_56 : decode cX7_image 56 = .ok (.iastore, 1) := by decide +kernel
theorem dX7_image_57 : decode cX7_image 57 = .ok (.iinc 3 1, 3) := by decide +kernel
theorem dX7_image_60 : decode cX7_image 60 = .ok (.goto (-40), 3) := by decide +kernel
theorem dX7_image_63 : decode cX7_image 63 = .ok (.iconst 0, 1) := by decide +kernel
theorem dX7_image_64 : decode cX7_image 64 = .ok (.istore_n 3, 1) := by decide +kernel
theorem dX7_image_65 : decode cX7_image 65 = .ok (.iload_n 3, 1) := by decide +kernel
theorem dX7_image_66 : decode cX7_image 66 = .ok (.bipush 16, 2) := by decide +kernel
theorem dX7_image_68 : decode cX7_image 68 = .ok (.if_icmp .ge 45, 3) := by decide +kernel
theorem dX7_image_71 : decode cX7_image 71 = .ok (.aload_n 0, 1) := by decide +kernel
theorem dX7_image_72 : decode cX7_image 72 = .ok (.getfield 87, 3) := by decide +kernel
theorem dX7_image_75 : decode cX7_image 75 = .ok (.iload_n 2, 1) := by decide +kernel
theorem dX7_image_76 : decode cX7_image 76 = .ok (.sipush 128, 3) := by decide +kernel
theorem dX7_image_79 : decode cX7_image 79 = .ok (.iadd, 1) := by decide +kernel
theorem dX7_image_80 : decode cX7_image 80 = .ok (.iload_n 3, 1) := by decide +kernel
theorem dX7_image_81 : decode cX7_image 81 = .ok (.iadd, 1) := by decide +kernel
theorem dX7_image_82 : decode cX7_image 82 = .ok (.aload_n 0, 1) := by decide +kernel
theorem dX7_image_83 : decode cX7_image 83 = .ok (.getfield 16, 3) := by decide +kernel
theorem dX7_image_86 : decode cX7_image 86 = .ok (.iload_n 3, 1) := by decide +kernel
theorem dX7_image_87 : decode cX7_image 87 = .ok (.iaload, 1) := by decide +kernel
theorem dX7_image_88 : decode cX7_image 88 = .ok (.iastore, 1) := by decide +kernel
theorem dX7_image_89 : decode cX7_image 89 = .ok (.aload_n 0, 1) := by decide +kernel
theorem dX7_image_90 : decode cX7_image 90 = .ok (.getfield 87, 3) := by decide +kernel
theorem dX7_image_93 : decode cX7_image 93 = .ok (.iload_n 2, 1) := by decide +kernel
theorem dX7_image_94 : decode cX7_image 94 = .ok (.sipush 144, 3) := by decide +kernel
theorem dX7_image_97 : decode cX7_image 97 = .ok (.iadd, 1) := by decide +kernel
theorem dX7_image_98 : decode cX7_image 98 = .ok (.iload_n 3, 1) := by decide +kernel
theorem dX7_image_99 : decode cX7_image 99 = .ok (.iadd, 1) := by decide +kernel
theorem dX7_image_100 : decode cX7_image 100 = .ok (.aload_n 0, 1) := by decide +kernel
theorem dX7_image_101 : decode cX7_image 101 = .ok (.getfield 19, 3) := by decide +kernel
theorem dX7_image_104 : decode cX7_image 104 = .ok (.iload_n 3, 1) := by decide +kernel
theorem dX7_image_105 : decode cX7_image 105 = .ok (.iaload, 1) := by decide +kernel
theorem dX7_image_106 : decode cX7_image 106 = .ok (.iastore, 1) := by decide +kernel
theorem dX7_image_107 : decode cX7_image 107 = .ok (.iinc 3 1, 3) := by decide +kernel
theorem dX7_image_110 : decode cX7_image 110 = .ok (.goto (-45), 3) := by decide +kernel
theorem dX7_image_113 : decode cX7_image 113 = .ok (.aload_n 0, 1) := by decide +kernel
theorem dX7_image_114 : decode cX7_image 114 = .ok (.getfield 87, 3) := by decide +kernel
theorem dX7_image_117 : decode cX7_image 117 = .ok (.iload_n 2, 1) := by decide +kernel
theorem dX7_image_118 : decode cX7_image 118 = .ok (.sipush 160, 3) := by decide +kernel
theorem dX7_image_121 : decode cX7_image 121 = .ok (.iadd, 1) := by decide +kernel
theorem dX7_image_122 : decode cX7_image 122 = .ok (.aload_n 0, 1) := by decide +kernel
theorem dX7_image_123 : decode cX7_image 123 = .ok (.getfield 104, 3) := by decide +kernel
theorem dX7_image_126 : decode cX7_image 126 = .ok (.iastore, 1) := by decide +kernel
theorem dX7_image_127 : decode cX7_image 127 = .ok (.aload_n 0, 1) := by decide +kernel
theorem dX7_image_128 : decode cX7_image 128 = .ok (.getfield 87, 3) := by decide +kernel
theorem dX7_image_131 : decode cX7_image 131 = .ok (.iload_n 2, 1) := by decide +kernel
theorem dX7_image_132 : decode cX7_image 132 = .ok (.sipush 161, 3) := by decide +kernel
theorem dX7_image_135 : decode cX7_image 135 = .ok (.iadd, 1) := by decide +kernel
theorem dX7_image_136 : decode cX7_image 136 = .ok (.aload_n 0, 1) := by decide +kernel
theorem dX7_image_137 : decode cX7_image 137 = .ok (.getfield 22, 3) := by decide +kernel
theorem dX7_image_140 : decode cX7_image 140 = .ok (.iastore, 1) := by decide +kernel
theorem dX7_image_141 : decode cX7_image 141 = .ok (.aload_n 0, 1) := by decide +kernel
theorem dX7_image_142 : decode cX7_image 142 = .ok (.getfield 87, 3) := by decide +kernel
theorem dX7_image_145 : decode cX7_image 145 = .ok (.iload_n 2, 1) := by decide +kernel
theorem dX7_image_146 : decode cX7_image 146 = .ok (.sipush 162, 3) := by decide +kernel
theorem dX7_image_149 : decode cX7_image 149 = .ok (.iadd, 1) := by decide +kernel
theorem dX7_image_150 : decode cX7_image 150 = .ok (.aload_n 0, 1) := by decide +kernel
theorem dX7_image_151 : decode cX7_image 151 = .ok (.getfield 26, 3) := by decide +kernel
theorem dX7_image_154 : decode cX7_image 154 = .ok (.iastore, 1) := by decide +kernel
theorem dX7_image_155 : decode cX7_image 155 = .ok (.aload_n 0, 1) := by decide +kernel
theorem dX7_image_156 : decode cX7_image 156 = .ok (.getfield 90, 3) := by decide +kernel
theorem dX7_image_159 : decode cX7_image 159 = .ok (.iload_n 1, 1) := by decide +kernel
theorem dX7_image_160 : decode cX7_image 160 = .ok (.iconst 1, 1) := by decide +kernel
theorem dX7_image_161 : decode cX7_image 161 = .ok (.bastore, 1) := by decide +kernel
theorem dX7_image_162 : decode cX7_image 162 = .ok (.iconst 1, 1) := by decide +kernel
theorem dX7_image_163 : decode cX7_image 163 = .ok (.ireturn, 1) := by decide +kernel
theorem dX7_restore_0 : decode cX7_restore 0 = .ok (.iload_n 1, 1) := by decide +kernel
theorem dX7_restore_1 : decode cX7_restore 1 = .ok (.iconst 0, 1) := by decide +kernel
theorem dX7_restore_2 : decode cX7_restore 2 = .ok (.iconst 1, 1) := by decide +kernel
theorem dX7_restore_3 : decode cX7_restore 3 = .ok (.invokestatic 100, 3) := by decide +kernel
theorem dX7_restore_6 : decode cX7_restore 6 = .ok (.ifCond .ne 6, 3) := by decide +kernel
theorem dX7_restore_9 : decode cX7_restore 9 = .ok (.bipush (-2), 2) := by decide +kernel
theorem dX7_restore_11 : decode cX7_restore 11 = .ok (.ireturn, 1) := by decide +kernel
theorem dX7_restore_12 : decode cX7_restore 12 = .ok (.aload_n 0, 1) := by decide +kernel
theorem dX7_restore_13 : decode cX7_restore 13 = .ok (.getfield 90, 3) := by decide +kernel
theorem dX7_restore_16 : decode cX7_restore 16 = .ok (.iload_n 1, 1) := by decide +kernel
theorem dX7_restore_17 : decode cX7_restore 17 = .ok (.baload, 1) := by decide +kernel
theorem dX7_restore_18 : decode cX7_restore 18 = .ok (.ifCond .ne 6, 3) := by decide +kernel
theorem dX7_restore_21 : decode cX7_restore 21 = .ok (.bipush (-3), 2) := by decide +kernel
theorem dX7_restore_23 : decode cX7_restore 23 = .ok (.ireturn, 1) := by decide +kernel
theorem dX7_restore_24 : decode cX7_restore 24 = .ok (.sipush 163, 3) := by decide +kernel
theorem dX7_restore_27 : decode cX7_restore 27 = .ok (.iload_n 1, 1) := by decide +kernel
theorem dX7_restore_28 : decode cX7_restore 28 = .ok (.imul, 1) := by decide +kernel
theorem dX7_restore_29 : decode cX7_restore 29 = .ok (.istore_n 2, 1) := by decide +kernel
theorem dX7_restore_30 : decode cX7_restore 30 = .ok (.iconst 0, 1) := by decide +kernel
theorem dX7_restore_31 : decode cX7_restore 31 = .ok (.istore_n 3, 1) := by decide +kernel
theorem dX7_restore_32 : decode cX7_restore 32 = .ok (.iload_n 3, 1) := by decide +kernel
theorem dX7_restore_33 : decode cX7_restore 33 = .ok (.bipush 64, 2) := by decide +kernel
theorem dX7_restore_35 : decode cX7_restore 35 = .ok (.if_icmp .ge 40, 3) := by decide +kernel
theorem dX7_restore_38 : decode cX7_restore 38 = .ok (.aload_n 0, 1) := by decide +kernel
theorem dX7_restore_39 : decode cX7_restore 39 = .ok (.getfield 7, 3) := by decide +kernel
theorem dX7_restore_42 : decode cX7_restore 42 = .ok (.iload_n 3, 1) := by decide +kernel
theorem dX7_restore_43 : decode cX7_restore 43 = .ok (.aload_n 0, 1) := by decide +kernel
theorem dX7_restore_44 : decode cX7_restore 44 = .ok (.getfield 87, 3) := by decide +kernel
theorem dX7_restore_47 : decode cX7_restore 47 = .ok (.iload_n 2, 1) := by decide +kernel
theorem dX7_restore_48 : decode cX7_restore 48 = .ok (.iload_n 3, 1) := by decide +kernel
theorem dX7_restore_49 : decode cX7_restore 49 = .ok (.iadd, 1) := by decide +kernel
theorem dX7_restore_50 : decode cX7_restore 50 = .ok (.iaload, 1) := by decide +kernel
theorem dX7_restore_51 : decode cX7_restore 51 = .ok (.iastore, 1) := by decide +kernel
theorem dX7_restore_52 : decode cX7_restore 52 = .ok (.aload_n 0, 1) := by decide +kernel
theorem dX7_restore_53 : decode cX7_restore 53 = .ok (.getfield 13, 3) := by decide +kernel
theorem dX7_restore_56 : decode cX7_restore 56 = .ok (.iload_n 3, 1) := by decide +kernel
theorem dX7_restore_57 : decode cX7_restore 57 = .ok (.aload_n 0, 1) := by decide +kernel
theorem dX7_restore_58 : decode cX7_restore 58 = .ok (.getfield 87, 3) := by decide +kernel
theorem dX7_restore_61 : decode cX7_restore 61 = .ok (.iload_n 2, 1) := by decide +kernel
theorem dX7_restore_62 : decode cX7_restore 62 = .ok (.bipush 64, 2) := by decide +kernel
theorem dX7_restore_64 : decode cX7_restore 64 = .ok (.iadd, 1) := by decide +kernel
theorem dX7_restore_65 : decode cX7_restore 65 = .ok (.iload_n 3, 1) := by decide +kernel
theorem dX7_restore_66 : decode cX7_restore 66 = .ok (.iadd, 1) := by decide +kernel
theorem dX7_restore_67 : decode cX7_restore 67 = .ok (.iaload, 1) := by decide +kernel
theorem dX7_restore_68 : decode cX7_restore 68 = .ok (.iastore, 1) := by decide +kernel
theorem dX7_restore_69 : decode cX7_restore 69 = .ok (.iinc 3 1, 3) := by decide +kernel
theorem dX7_restore_72 : decode cX7_restore 72 = .ok (.goto (-40), 3) := by decide +kernel
theorem dX7_restore_75 : decode cX7_restore 75 = .ok (.iconst 0, 1) := by decide +kernel
theorem dX7_restore_76 : decode cX7_restore 76 = .ok (.istore_n 3, 1) := by decide +kernel
theorem dX7_restore_77 : decode cX7_restore 77 = .ok (.iload_n 3, 1) := by decide +kernel
theorem dX7_restore_78 : decode cX7_restore 78 = .ok (.bipush 16, 2) := by decide +kernel
theorem dX7_restore_80 : decode cX7_restore 80 = .ok (.if_icmp .ge 45, 3) := by decide +kernel
theorem dX7_restore_83 : decode cX7_restore 83 = .ok (.aload_n 0, 1) := by decide +kernel
theorem dX7_restore_84 : decode cX7_restore 84 = .ok (.getfield 16, 3) := by decide +kernel
theorem dX7_restore_87 : decode cX7_restore 87 = .ok (.iload_n 3, 1) := by decide +kernel
theorem dX7_restore_88 : decode cX7_restore 88 = .ok (.aload_n 0, 1) := by decide +kernel
theorem dX7_restore_89 : decode cX7_restore 89 = .ok (.getfield 87, 3) := by decide +kernel
theorem dX7_restore_92 : decode cX7_restore 92 = .ok (.iload_n 2, 1) := by decide +kernel
theorem dX7_restore_93 : decode cX7_restore 93 = .ok (.sipush 128, 3) := by decide +kernel
theorem dX7_restore_96 : decode cX7_restore 96 = .ok (.iadd, 1) := by decide +kernel
theorem dX7_restore_97 : decode cX7_restore 97 = .ok (.iload_n 3, 1) := by decide +kernel
theorem dX7_restore_98 : decode cX7_restore 98 = .ok (.iadd, 1) := by decide +kernel
theorem dX7_restore_99 : decode cX7_restore 99 = .ok (.iaload, 1) := by decide +kernel
theorem dX7_restore_100 : decode cX7_restore 100 = .ok (.iastore, 1) := by decide +kernel
theorem dX7_restore_101 : decode cX7_restore 101 = .ok (.aload_n 0, 1) := by decide +kernel
theorem dX7_restore_102 : decode cX7_restore 102 = .ok (.getfield 19, 3) := by decide +kernel
theorem dX7_restore_105 : decode cX7_restore 105 = .ok (.iload_n 3, 1) := by decide +kernel
theorem dX7_restore_106 : decode cX7_restore 106 = .ok (.aload_n 0, 1) := by decide +kernel
theorem dX7_restore_107 : decode cX7_restore 107 = .ok (.getfield 87, 3) := by decide +kernel
theorem dX7_restore_110 : decode cX7_restore 110 = .ok (.iload_n 2, 1) := by decide +kernel
theorem dX7_restore_111 : decode cX7_restore 111 = .ok (.sipush 144, 3) := by decide +kernel
theorem dX7_restore_114 : decode cX7_restore 114 = .ok (.iadd, 1) := by decide +kernel
theorem dX7_restore_115 : decode cX7_restore 115 = .ok (.iload_n 3, 1) := by decide +kernel
theorem dX7_restore_116 : decode cX7_restore 116 = .ok (.iadd, 1) := by decide +kernel
theorem dX7_restore_117 : decode cX7_restore 117 = .ok (.iaload, 1) := by decide +kernel
theorem dX7_restore_118 : decode cX7_restore 118 = .ok (.iastore, 1) := by decide +kernel
theorem dX7_restore_119 : decode cX7_restore 119 = .ok (.iinc 3 1, 3) := by decide +kernel
theorem dX7_restore_122 : decode cX7_restore 122 = .ok (.goto (-45), 3) := by decide +kernel
theorem dX7_restore_125 : decode cX7_restore 125 = .ok (.aload_n 0, 1) := by decide +kernel
theorem dX7_restore_126 : decode cX7_restore 126 = .ok (.aload_n 0, 1) := by decide +kernel
theorem dX7_restore_127 : decode cX7_restore 127 = .ok (.getfield 87, 3) := by decide +kernel
theorem dX7_restore_130 : decode cX7_restore 130 = .ok (.iload_n 2, 1) := by decide +kernel
theorem dX7_restore_131 : decode cX7_restore 131 = .ok (.sipush 160, 3) := by decide +kernel
theorem dX7_restore_134 : decode cX7_restore 134 = .ok (.iadd, 1) := by decide +kernel
theorem dX7_restore_135 : decode cX7_restore 135 = .ok (.iaload, 1) := by decide +kernel
theorem dX7_restore_136 : decode cX7_restore 136 = .ok (.putfield 104, 3) := by decide +kernel
theorem dX7_restore_139 : decode cX7_restore 139 = .ok (.aload_n 0, 1) := by decide +kernel
theorem dX7_restore_140 : decode cX7_restore 140 = .ok (.aload_n 0, 1) := by decide +kernel
theorem dX7_restore_141 : decode cX7_restore 141 = .ok (.getfield 87, 3) := by decide +kernel
theorem dX7_restore_144 : decode cX7_restore 144 = .ok (.iload_n 2, 1) := by decide +kernel
theorem dX7_restore_145 : decode cX7_restore 145 = .ok (.sipush 161, 3) := by decide +kernel
theorem dX7_restore_148 : decode cX7_restore 148 = .ok (.iadd, 1) := by decide +kernel
theorem dX7_restore_149 : decode cX7_restore 149 = .ok (.iaload, 1) := by decide +kernel
theorem dX7_restore_150 : decode cX7_restore 150 = .ok (.putfield 22, 3) := by decide +kernel
theorem dX7_restore_153 : decode cX7_restore 153 = .ok (.aload_n 0, 1) := by decide +kernel
theorem dX7_restore_154 : decode cX7_restore 154 = .ok (.aload_n 0, 1) := by decide +kernel
theorem dX7_restore_155 : decode cX7_restore 155 = .ok (.getfield 87, 3) := by decide +kernel
theorem dX7_restore_158 : decode cX7_restore 158 = .ok (.iload_n 2, 1) := by decide +kernel
theorem dX7_restore_159 : decode cX7_restore 159 = .ok (.sipush 162, 3) := by decide +kernel
theorem dX7_restore_162 : decode cX7_restore 162 = .ok (.iadd, 1) := by decide +kernel
theorem dX7_restore_163 : decode cX7_restore 163 = .ok (.iaload, 1) := by decide +kernel
theorem dX7_restore_164 : decode cX7_restore 164 = .ok (.putfield 26, 3) := by decide +kernel
theorem dX7_restore_167 : decode cX7_restore 167 = .ok (.aload_n 0, 1) := by decide +kernel
theorem dX7_restore_168 : decode cX7_restore 168 = .ok (.invokevirtual 131, 3) := by decide +kernel
theorem dX7_restore_171 : decode cX7_restore 171 = .ok (.iconst 1, 1) := by decide +kernel
theorem dX7_restore_172 : decode cX7_restore 172 = .ok (.ireturn, 1) := by decide +kernel
theorem dX7_idleOnes_0 : decode cX7_idleOnes 0 = .ok (.aload_n 0, 1) := by decide +kernel
theorem dX7_idleOnes_1 : decode cX7_idleOnes 1 = .ok (.invokevirtual 168, 3) := by decide +kernel
theorem dX7_idleOnes_4 : decode cX7_idleOnes 4 = .ok (.iconst 0, 1) := by decide +kernel
theorem dX7_idleOnes_5 : decode cX7_idleOnes 5 = .ok (.istore_n 1, 1) := by decide +kernel
theorem dX7_idleOnes_6 : decode cX7_idleOnes 6 = .ok (.iconst 0, 1) := by decide +kernel
theorem dX7_idleOnes_7 : decode cX7_idleOnes 7 = .ok (.istore_n 2, 1) := by decide +kernel
theorem dX7_idleOnes_8 : decode cX7_idleOnes 8 = .ok (.iload_n 2, 1) := by decide +kernel
theorem dX7_idleOnes_9 : decode cX7_idleOnes 9 = .ok (.aload_n 0, 1) := by decide +kernel
theorem dX7_idleOnes_10 : decode cX7_idleOnes 10 = .ok (.getfield 104, 3) := by decide +kernel
theorem dX7_idleOnes_13 : decode cX7_idleOnes 13 = .ok (.if_icmp .ge 26, 3) := by decide +kernel
theorem dX7_idleOnes_16 : decode cX7_idleOnes 16 = .ok (.iload_n 1, 1) := by decide +kernel
theorem dX7_idleOnes_17 : decode cX7_idleOnes 17 = .ok (.aload_n 0, 1) := by decide +kernel
theorem dX7_idleOnes_18 : decode cX7_idleOnes 18 = .ok (.getfield 47, 3) := by decide +kernel
theorem dX7_idleOnes_21 : decode cX7_idleOnes 21 = .ok (.iload_n 2, 1) := by decide +kernel
theorem dX7_idleOnes_22 : decode cX7_idleOnes 22 = .ok (.baload, 1) := by decide +kernel
theorem dX7_idleOnes_23 : decode cX7_idleOnes 23 = .ok (.ifCond .eq 7, 3) := by decide +kernel
theorem dX7_idleOnes_26 : decode cX7_idleOnes 26 = .ok (.iconst 0, 1) := by decide +kernel
theorem dX7_idleOnes_27 : decode cX7_idleOnes 27 = .ok (.goto 4, 3) := by decide +kernel
theorem dX7_idleOnes_30 : decode cX7_idleOnes 30 = .ok (.iconst 1, 1) := by decide +kernel
theorem dX7_idleOnes_31 : decode cX7_idleOnes 31 = .ok (.iadd, 1) := by decide +kernel
theorem dX7_idleOnes_32 : decode cX7_idleOnes 32 = .ok (.istore_n 1, 1) := by decide +kernel
theorem dX7_idleOnes_33 : decode cX7_idleOnes 33 = .ok (.iinc 2 1, 3) := by decide +kernel
theorem dX7_idleOnes_36 : decode cX7_idleOnes 36 = .ok (.goto (-28), 3) := by decide +kernel
theorem dX7_idleOnes_39 : decode cX7_idleOnes 39 = .ok (.iload_n 1, 1) := by decide +kernel
theorem dX7_idleOnes_40 : decode cX7_idleOnes 40 = .ok (.ireturn, 1) := by decide +kernel
theorem dX7_coveredOnes_0 : decode cX7_coveredOnes 0 = .ok (.iconst 0, 1) := by decide +kernel
theorem dX7_coveredOnes_1 : decode cX7_coveredOnes 1 = .ok (.istore_n 1, 1) := by decide +kernel
theorem dX7_coveredOnes_2 : decode cX7_coveredOnes 2 = .ok (.iconst 0, 1) := by decide +kernel
theorem dX7_coveredOnes_3 : decode cX7_coveredOnes 3 = .ok (.istore_n 2, 1) := by decide +kernel
theorem dX7_coveredOnes_4 : decode cX7_coveredOnes 4 = .ok (.iload_n 2, 1) := by decide +kernel
theorem dX7_coveredOnes_5 : decode cX7_coveredOnes 5 = .ok (.aload_n 0, 1) := by decide +kernel
theorem dX7_coveredOnes_6 : decode cX7_coveredOnes 6 = .ok (.getfield 104, 3) := by decide +kernel
theorem dX7_coveredOnes_9 : decode cX7_coveredOnes 9 = .ok (.if_icmp .ge 25, 3) := by decide +kernel
theorem dX7_coveredOnes_12 : decode cX7_coveredOnes 12 = .ok (.iload_n 1, 1) := by decide +kernel
theorem dX7_coveredOnes_13 : decode cX7_coveredOnes 13 = .ok (.aload_n 0, 1) := by decide +kernel
theorem dX7_coveredOnes_14 : decode cX7_coveredOnes 14 = .ok (.iload_n 2, 1) := by decide +kernel
theorem dX7_coveredOnes_15 : decode cX7_coveredOnes 15 = .ok (.invokevirtual 174, 3) := by decide +kernel
theorem dX7_coveredOnes_18 : decode cX7_coveredOnes 18 = .ok (.ifCond .lt 7, 3) := by decide +kernel
theorem dX7_coveredOnes_21 : decode cX7_coveredOnes 21 = .ok (.iconst 1, 1) := by decide +kernel
theorem dX7_coveredOnes_22 : decode cX7_coveredOnes 22 = .ok (.goto 4, 3) := by decide +kernel
theorem dX7_coveredOnes_25 : decode cX7_coveredOnes 25 = .ok (.iconst 0, 1) := by decide +kernel
theorem dX7_coveredOnes_26 : decode cX7_coveredOnes 26 = .ok (.iadd, 1) := by decide +kernel
theorem dX7_coveredOnes_27 : decode cX7_coveredOnes 27 = .ok (.istore_n 1, 1) := by decide +kernel
theorem dX7_coveredOnes_28 : decode cX7_coveredOnes 28 = .ok (.iinc 2 1, 3) := by decide +kernel
theorem dX7_coveredOnes_31 : decode cX7_coveredOnes 31 = .ok (.goto (-27), 3) := by decide +kernel
theorem dX7_coveredOnes_34 : decode cX7_coveredOnes 34 = .ok (.iload_n 1, 1) := by decide +kernel
theorem dX7_coveredOnes_35 : decode cX7_coveredOnes 35 = .ok (.ireturn, 1) := by decide +kernel
theorem dX7_allEntries_0 : decode cX7_allEntries 0 = .ok (.aload_n 0, 1) := by decide +kernel
theorem dX7_allEntries_1 : decode cX7_allEntries 1 = .ok (.invokevirtual 202, 3) := by decide +kernel
theorem dX7_allEntries_4 : decode cX7_allEntries 4 = .ok (.iconst 0, 1) := by decide +kernel
theorem dX7_allEntries_5 : decode cX7_allEntries 5 = .ok (.istore_n 1, 1) := by decide +kernel
theorem dX7_allEntries_6 : decode cX7_allEntries 6 = .ok (.iconst 0, 1) := by decide +kernel
theorem dX7_allEntries_7 : decode cX7_allEntries 7 = .ok (.istore_n 2, 1) := by decide +kernel
theorem dX7_allEntries_8 : decode cX7_allEntries 8 = .ok (.iload_n 2, 1) := by decide +kernel
theorem dX7_allEntries_9 : decode cX7_allEntries 9 = .ok (.aload_n 0, 1) := by decide +kernel
theorem dX7_allEntries_10 : decode cX7_allEntries 10 = .ok (.getfield 199, 3) := by decide +kernel
theorem dX7_allEntries_13 : decode cX7_allEntries 13 = .ok (.if_icmp .ge 22, 3) := by decide +kernel
theorem dX7_allEntries_16 : decode cX7_allEntries 16 = .ok (.iload_n 1, 1) := by decide +kernel
theorem dX7_allEntries_17 : decode cX7_allEntries 17 = .ok (.aload_n 0, 1) := by decide +kernel
theorem dX7_allEntries_18 : decode cX7_allEntries 18 = .ok (.aload_n 0, 1) := by decide +kernel
theorem dX7_allEntries_19 : decode cX7_allEntries 19 = .ok (.getfield 57, 3) := by decide +kernel
theorem dX7_allEntries_22 : decode cX7_allEntries 22 = .ok (.iload_n 2, 1) := by decide +kernel
theorem dX7_allEntries_23 : decode cX7_allEntries 23 = .ok (.iaload, 1) := by decide +kernel
theorem dX7_allEntries_24 : decode cX7_allEntries 24 = .ok (.invokevirtual 205, 3) := by decide +kernel
theorem dX7_allEntries_27 : decode cX7_allEntries 27 = .ok (.iadd, 1) := by decide +kernel
theorem dX7_allEntries_28 : decode cX7_allEntries 28 = .ok (.istore_n 1, 1) := by decide +kernel
theorem dX7_allEntries_29 : decode cX7_allEntries 29 = .ok (.iinc 2 1, 3) := by decide +kernel
theorem dX7_allEntries_32 : decode cX7_allEntries 32 = .ok (.goto (-24), 3) := by decide +kernel
theorem dX7_allEntries_35 : decode cX7_allEntries 35 = .ok (.iload_n 1, 1) := by decide +kernel
theorem dX7_allEntries_36 : decode cX7_allEntries 36 = .ok (.ireturn, 1) := by decide +kernel
theorem dX7_count_0 : decode cX7_count 0 = .ok (.iload_n 1, 1) := by decide +kernel
theorem dX7_count_1 : decode cX7_count 1 = .ok (.tableswitch 116 0 7 #[47, 52, 61, 66, 71, 76, 81, 86], 47) := by decide +kernel
theorem dX7_count_48 : decode cX7_count 48 = .ok (.aload_n 0, 1) := by decide +kernel
theorem dX7_count_49 : decode cX7_count 49 = .ok (.getfield 104, 3) := by decide +kernel
theorem dX7_count_52 : decode cX7_count 52 = .ok (.ireturn, 1) := by decide +kernel
theorem dX7_count_53 : decode cX7_count 53 = .ok (.aload_n 0, 1) := by decide +kernel
theorem dX7_count_54 : decode cX7_count 54 = .ok (.invokevirtual 202, 3) := by decide +kernel
theorem dX7_count_57 : decode cX7_count 57 = .ok (.aload_n 0, 1) := by decide +kernel
theorem dX7_count_58 : decode cX7_count 58 = .ok (.getfield 199, 3) := by decide +kernel
theorem dX7_count_61 : decode cX7_count 61 = .ok (.ireturn, 1) := by decide +kernel
theorem dX7_count_62 : decode cX7_count 62 = .ok (.aload_n 0, 1) := by decide +kernel
theorem dX7_count_63 : decode cX7_count 63 = .ok (.invokevirtual 237, 3) := by decide +kernel
theorem dX7_count_66 : decode cX7_count 66 = .ok (.ireturn, 1) := by decide +kernel
theorem dX7_count_67 : decode cX7_count 67 = .ok (.aload_n 0, 1) := by decide +kernel
theorem dX7_count_68 : decode cX7_count 68 = .ok (.getfield 22, 3) := by decide +kernel
theorem dX7_count_71 : decode cX7_count 71 = .ok (.ireturn, 1) := by decide +kernel
theorem dX7_count_72 : decode cX7_count 72 = .ok (.aload_n 0, 1) := by decide +kernel
theorem dX7_count_73 : decode cX7_count 73 = .ok (.getfield 26, 3) := by decide +kernel
theorem dX7_count_76 : decode cX7_count 76 = .ok (.ireturn, 1) := by decide +kernel
theorem dX7_count_77 : decode cX7_count 77 = .ok (.aload_n 0, 1) := by decide +kernel
theorem dX7_count_78 : decode cX7_count 78 = .ok (.invokevirtual 241, 3) := by decide +kernel
theorem dX7_count_81 : decode cX7_count 81 = .ok (.ireturn, 1) := by decide +kernel
theorem dX7_count_82 : decode cX7_count 82 = .ok (.aload_n 0, 1) := by decide +kernel
theorem dX7_count_83 : decode cX7_count 83 = .ok (.invokevirtual 244, 3) := by decide +kernel
theorem dX7_count_86 : decode cX7_count 86 = .ok (.ireturn, 1) := by decide +kernel
theorem dX7_count_87 : decode cX7_count 87 = .ok (.aload_n 0, 1) := by decide +kernel
theorem dX7_count_88 : decode cX7_count 88 = .ok (.getfield 90, 3) := by decide +kernel
theorem dX7_count_91 : decode cX7_count 91 = .ok (.iconst 0, 1) := by decide +kernel
theorem dX7_count_92 : decode cX7_count 92 = .ok (.baload, 1) := by decide +kernel
theorem dX7_count_93 : decode cX7_count 93 = .ok (.ifCond .eq 7, 3) := by decide +kernel
theorem dX7_count_96 : decode cX7_count 96 = .ok (.iconst 1, 1) := by decide +kernel
theorem dX7_count_97 : decode cX7_count 97 = .ok (.goto 4, 3) := by decide +kernel
theorem dX7_count_100 : decode cX7_count 100 = .ok (.iconst 0, 1) := by decide +kernel
theorem dX7_count_101 : decode cX7_count 101 = .ok (.aload_n 0, 1) := by decide +kernel
theorem dX7_count_102 : decode cX7_count 102 = .ok (.getfield 90, 3) := by decide +kernel
theorem dX7_count_105 : decode cX7_count 105 = .ok (.iconst 1, 1) := by decide +kernel
theorem dX7_count_106 : decode cX7_count 106 = .ok (.baload, 1) := by decide +kernel
theorem dX7_count_107 : decode cX7_count 107 = .ok (.ifCond .eq 7, 3) := by decide +kernel
theorem dX7_count_110 : decode cX7_count 110 = .ok (.iconst 2, 1) := by decide +kernel
theorem dX7_count_111 : decode cX7_count 111 = .ok (.goto 4, 3) := by decide +kernel
theorem dX7_count_114 : decode cX7_count 114 = .ok (.iconst 0, 1) := by decide +kernel
theorem dX7_count_115 : decode cX7_count 115 = .ok (.iadd, 1) := by decide +kernel
theorem dX7_count_116 : decode cX7_count 116 = .ok (.ireturn, 1) := by decide +kernel
theorem dX7_count_117 : decode cX7_count 117 = .ok (.bipush (-2), 2) := by decide +kernel
theorem dX7_count_119 : decode cX7_count 119 = .ok (.ireturn, 1) := by decide +kernel
