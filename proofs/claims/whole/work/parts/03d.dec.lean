theorem dX7_drop_45 : decode cX7_drop 45 = .ok (.iadd, 1) := by decide +kernel
theorem dX7_drop_46 : decode cX7_drop 46 = .ok (.aload_n 0, 1) := by decide +kernel
theorem dX7_drop_47 : decode cX7_drop 47 = .ok (.getfield 7, 3) := by decide +kernel
theorem dX7_drop_50 : decode cX7_drop 50 = .ok (.iconst 4, 1) := by decide +kernel
theorem dX7_drop_51 : decode cX7_drop 51 = .ok (.iload_n 2, 1) := by decide +kernel
theorem dX7_drop_52 : decode cX7_drop 52 = .ok (.imul, 1) := by decide +kernel
theorem dX7_drop_53 : decode cX7_drop 53 = .ok (.iconst 4, 1) := by decide +kernel
theorem dX7_drop_54 : decode cX7_drop 54 = .ok (.iadd, 1) := by decide +kernel
theorem dX7_drop_55 : decode cX7_drop 55 = .ok (.iload_n 3, 1) := by decide +kernel
theorem dX7_drop_56 : decode cX7_drop 56 = .ok (.iadd, 1) := by decide +kernel
theorem dX7_drop_57 : decode cX7_drop 57 = .ok (.iaload, 1) := by decide +kernel
theorem dX7_drop_58 : decode cX7_drop 58 = .ok (.iastore, 1) := by decide +kernel
theorem dX7_drop_59 : decode cX7_drop 59 = .ok (.aload_n 0, 1) := by decide +kernel
theorem dX7_drop_60 : decode cX7_drop 60 = .ok (.getfield 13, 3) := by decide +kernel
theorem dX7_drop_63 : decode cX7_drop 63 = .ok (.iconst 4, 1) := by decide +kernel
theorem dX7_drop_64 : decode cX7_drop 64 = .ok (.iload_n 2, 1) := by decide +kernel
theorem dX7_drop_65 : decode cX7_drop 65 = .ok (.imul, 1) := by decide +kernel
theorem dX7_drop_66 : decode cX7_drop 66 = .ok (.iload_n 3, 1) := by decide +kernel
theorem dX7_drop_67 : decode cX7_drop 67 = .ok (.iadd, 1) := by decide +kernel
theorem dX7_drop_68 : decode cX7_drop 68 = .ok (.aload_n 0, 1) := by decide +kernel
theorem dX7_drop_69 : decode cX7_drop 69 = .ok (.getfield 13, 3) := by decide +kernel
theorem dX7_drop_72 : decode cX7_drop 72 = .ok (.iconst 4, 1) := by decide +kernel
theorem dX7_drop_73 : decode cX7_drop 73 = .ok (.iload_n 2, 1) := by decide +kernel
theorem dX7_drop_74 : decode cX7_drop 74 = .ok (.imul, 1) := by decide +kernel
theorem dX7_drop_75 : decode cX7_drop 75 = .ok (.iconst 4, 1) := by decide +kernel
theorem dX7_drop_76 : decode cX7_drop 76 = .ok (.iadd, 1) := by decide +kernel
theorem dX7_drop_77 : decode cX7_drop 77 = .ok (.iload_n 3, 1) := by decide +kernel
theorem dX7_drop_78 : decode cX7_drop 78 = .ok (.iadd, 1) := by decide +kernel
theorem dX7_drop_79 : decode cX7_drop 79 = .ok (.iaload, 1) := by decide +kernel
theorem dX7_drop_80 : decode cX7_drop 80 = .ok (.iastore, 1) := by decide +kernel
theorem dX7_drop_81 : decode cX7_drop 81 = .ok (.iinc 3 1, 3) := by decide +kernel
theorem dX7_drop_84 : decode cX7_drop 84 = .ok (.goto (-52), 3) := by decide +kernel
theorem dX7_drop_87 : decode cX7_drop 87 = .ok (.aload_n 0, 1) := by decide +kernel
theorem dX7_drop_88 : decode cX7_drop 88 = .ok (.getfield 16, 3) := by decide +kernel
theorem dX7_drop_91 : decode cX7_drop 91 = .ok (.iload_n 2, 1) := by decide +kernel
theorem dX7_drop_92 : decode cX7_drop 92 = .ok (.aload_n 0, 1) := by decide +kernel
theorem dX7_drop_93 : decode cX7_drop 93 = .ok (.getfield 16, 3) := by decide +kernel
theorem dX7_drop_96 : decode cX7_drop 96 = .ok (.iload_n 2, 1) := by decide +kernel
theorem dX7_drop_97 : decode cX7_drop 97 = .ok (.iconst 1, 1) := by decide +kernel
theorem dX7_drop_98 : decode cX7_drop 98 = .ok (.iadd, 1) := by decide +kernel
theorem dX7_drop_99 : decode cX7_drop 99 = .ok (.iaload, 1) := by decide +kernel
theorem dX7_drop_100 : decode cX7_drop 100 = .ok (.iastore, 1) := by decide +kernel
theorem dX7_drop_101 : decode cX7_drop 101 = .ok (.aload_n 0, 1) := by decide +kernel
theorem dX7_drop_102 : decode cX7_drop 102 = .ok (.getfield 19, 3) := by decide +kernel
theorem dX7_drop_105 : decode cX7_drop 105 = .ok (.iload_n 2, 1) := by decide +kernel
theorem dX7_drop_106 : decode cX7_drop 106 = .ok (.aload_n 0, 1) := by decide +kernel
theorem dX7_drop_107 : decode cX7_drop 107 = .ok (.getfield 19, 3) := by decide +kernel
theorem dX7_drop_110 : decode cX7_drop 110 = .ok (.iload_n 2, 1) := by decide +kernel
theorem dX7_drop_111 : decode cX7_drop 111 = .ok (.iconst 1, 1) := by decide +kernel
theorem dX7_drop_112 : decode cX7_drop 112 = .ok (.iadd, 1) := by decide +kernel
theorem dX7_drop_113 : decode cX7_drop 113 = .ok (.iaload, 1) := by decide +kernel
theorem dX7_drop_114 : decode cX7_drop 114 = .ok (.iastore, 1) := by decide +kernel
theorem dX7_drop_115 : decode cX7_drop 115 = .ok (.iinc 2 1, 3) := by decide +kernel
theorem dX7_drop_118 : decode cX7_drop 118 = .ok (.goto (-96), 3) := by decide +kernel
theorem dX7_drop_121 : decode cX7_drop 121 = .ok (.aload_n 0, 1) := by decide +kernel
theorem dX7_drop_122 : decode cX7_drop 122 = .ok (.invokevirtual 131, 3) := by decide +kernel
theorem dX7_drop_125 : decode cX7_drop 125 = .ok (.aload_n 0, 1) := by decide +kernel
theorem dX7_drop_126 : decode cX7_drop 126 = .ok (.getfield 104, 3) := by decide +kernel
theorem dX7_drop_129 : decode cX7_drop 129 = .ok (.ireturn, 1) := by decide +kernel
theorem dX7_isAhead_0 : decode cX7_isAhead 0 = .ok (.aload_n 0, 1) := by decide +kernel
theorem dX7_isAhead_1 : decode cX7_isAhead 1 = .ok (.getfield 16, 3) := by decide +kernel
theorem dX7_isAhead_4 : decode cX7_isAhead 4 = .ok (.iload_n 1, 1) := by decide +kernel
theorem dX7_isAhead_5 : decode cX7_isAhead 5 = .ok (.iaload, 1) := by decide +kernel
theorem dX7_isAhead_6 : decode cX7_isAhead 6 = .ok (.aload_n 0, 1) := by decide +kernel
theorem dX7_isAhead_7 : decode cX7_isAhead 7 = .ok (.getfield 16, 3) := by decide +kernel
theorem dX7_isAhead_10 : decode cX7_isAhead 10 = .ok (.iload_n 2, 1) := by decide +kernel
theorem dX7_isAhead_11 : decode cX7_isAhead 11 = .ok (.iaload, 1) := by decide +kernel
theorem dX7_isAhead_12 : decode cX7_isAhead 12 = .ok (.if_icmp .lt 23, 3) := by decide +kernel
theorem dX7_isAhead_15 : decode cX7_isAhead 15 = .ok (.aload_n 0, 1) := by decide +kernel
theorem dX7_isAhead_16 : decode cX7_isAhead 16 = .ok (.getfield 16, 3) := by decide +kernel
theorem dX7_isAhead_19 : decode cX7_isAhead 19 = .ok (.iload_n 1, 1) := by decide +kernel
theorem dX7_isAhead_20 : decode cX7_isAhead 20 = .ok (.iaload, 1) := by decide +kernel
theorem dX7_isAhead_21 : decode cX7_isAhead 21 = .ok (.aload_n 0, 1) := by decide +kernel
theorem dX7_isAhead_22 : decode cX7_isAhead 22 = .ok (.getfield 16, 3) := by decide +kernel
theorem dX7_isAhead_25 : decode cX7_isAhead 25 = .ok (.iload_n 2, 1) := by decide +kernel
theorem dX7_isAhead_26 : decode cX7_isAhead 26 = .ok (.iaload, 1) := by decide +kernel
theorem dX7_isAhead_27 : decode cX7_isAhead 27 = .ok (.if_icmp .ne 12, 3) := by decide +kernel
theorem dX7_isAhead_30 : decode cX7_isAhead 30 = .ok (.iload_n 1, 1) := by decide +kernel
theorem dX7_isAhead_31 : decode cX7_isAhead 31 = .ok (.iload_n 2, 1) := by decide +kernel
theorem dX7_isAhead_32 : decode cX7_isAhead 32 = .ok (.if_icmp .ge 7, 3) := by decide +kernel
theorem dX7_isAhead_35 : decode cX7_isAhead 35 = .ok (.iconst 1, 1) := by decide +kernel
theorem dX7_isAhead_36 : decode cX7_isAhead 36 = .ok (.goto 4, 3) := by decide +kernel
theorem dX7_isAhead_39 : decode cX7_isAhead 39 = .ok (.iconst 0, 1) := by decide +kernel
theorem dX7_isAhead_40 : decode cX7_isAhead 40 = .ok (.ireturn, 1) := by decide +kernel
theorem dX7_aheadOf_0 : decode cX7_aheadOf 0 = .ok (.iconst 0, 1) := by decide +kernel
theorem dX7_aheadOf_1 : decode cX7_aheadOf 1 = .ok (.istore_n 2, 1) := by decide +kernel
theorem dX7_aheadOf_2 : decode cX7_aheadOf 2 = .ok (.iconst 0, 1) := by decide +kernel
theorem dX7_aheadOf_3 : decode cX7_aheadOf 3 = .ok (.istore_n 3, 1) := by decide +kernel
theorem dX7_aheadOf_4 : decode cX7_aheadOf 4 = .ok (.iload_n 3, 1) := by decide +kernel
theorem dX7_aheadOf_5 : decode cX7_aheadOf 5 = .ok (.aload_n 0, 1) := by decide +kernel
theorem dX7_aheadOf_6 : decode cX7_aheadOf 6 = .ok (.getfield 104, 3) := by decide +kernel
theorem dX7_aheadOf_9 : decode cX7_aheadOf 9 = .ok (.if_icmp .ge 26, 3) := by decide +kernel
theorem dX7_aheadOf_12 : decode cX7_aheadOf 12 = .ok (.iload_n 2, 1) := by decide +kernel
theorem dX7_aheadOf_13 : decode cX7_aheadOf 13 = .ok (.aload_n 0, 1) := by decide +kernel
theorem dX7_aheadOf_14 : decode cX7_aheadOf 14 = .ok (.iload_n 3, 1) := by decide +kernel
theorem dX7_aheadOf_15 : decode cX7_aheadOf 15 = .ok (.iload_n 1, 1) := by decide +kernel
theorem dX7_aheadOf_16 : decode cX7_aheadOf 16 = .ok (.invokevirtual 137, 3) := by decide +kernel
theorem dX7_aheadOf_19 : decode cX7_aheadOf 19 = .ok (.ifCond .eq 7, 3) := by decide +kernel
theorem dX7_aheadOf_22 : decode cX7_aheadOf 22 = .ok (.iconst 1, 1) := by decide +kernel
theorem dX7_aheadOf_23 : decode cX7_aheadOf 23 = .ok (.goto 4, 3) := by decide +kernel
theorem dX7_aheadOf_26 : decode cX7_aheadOf 26 = .ok (.iconst 0, 1) := by decide +kernel
theorem dX7_aheadOf_27 : decode cX7_aheadOf 27 = .ok (.iadd, 1) := by decide +kernel
theorem dX7_aheadOf_28 : decode cX7_aheadOf 28 = .ok (.istore_n 2, 1) := by decide +kernel
theorem dX7_aheadOf_29 : decode cX7_aheadOf 29 = .ok (.iinc 3 1, 3) := by decide +kernel
theorem dX7_aheadOf_32 : decode cX7_aheadOf 32 = .ok (.goto (-28), 3) := by decide +kernel
theorem dX7_aheadOf_35 : decode cX7_aheadOf 35 = .ok (.iload_n 2, 1) := by decide +kernel
theorem dX7_aheadOf_36 : decode cX7_aheadOf 36 = .ok (.ireturn, 1) := by decide +kernel
theorem dX7_rank_0 : decode cX7_rank 0 = .ok (.aload_n 0, 1) := by decide +kernel
theorem dX7_rank_1 : decode cX7_rank 1 = .ok (.iload_n 1, 1) := by decide +kernel
theorem dX7_rank_2 : decode cX7_rank 2 = .ok (.invokevirtual 134, 3) := by decide +kernel
theorem dX7_rank_5 : decode cX7_rank 5 = .ok (.ifCond .ne 5, 3) := by decide +kernel
theorem dX7_rank_8 : decode cX7_rank 8 = .ok (.iconst (-1), 1) := by decide +kernel
theorem dX7_rank_9 : decode cX7_rank 9 = .ok (.ireturn, 1) := by decide +kernel
theorem dX7_rank_10 : decode cX7_rank 10 = .ok (.iload_n 2, 1) := by decide +kernel
theorem dX7_rank_11 : decode cX7_rank 11 = .ok (.iconst 0, 1) := by decide +kernel
theorem dX7_rank_12 : decode cX7_rank 12 = .ok (.sipush 999, 3) := by decide +kernel
theorem dX7_rank_15 : decode cX7_rank 15 = .ok (.invokestatic 100, 3) := by decide +kernel
theorem dX7_rank_18 : decode cX7_rank 18 = .ok (.ifCond .ne 6, 3) := by decide +kernel
theorem dX7_rank_21 : decode cX7_rank 21 = .ok (.bipush (-2), 2) := by decide +kernel
theorem dX7_rank_23 : decode cX7_rank 23 = .ok (.ireturn, 1) := by decide +kernel
theorem dX7_rank_24 : decode cX7_rank 24 = .ok (.aload_n 0, 1) := by decide +kernel
theorem dX7_rank_25 : decode cX7_rank 25 = .ok (.getfield 16, 3) := by decide +kernel
theorem dX7_rank_28 : decode cX7_rank 28 = .ok (.iload_n 1, 1) := by decide +kernel
theorem dX7_rank_29 : decode cX7_rank 29 = .ok (.iload_n 2, 1) := by decide +kernel
theorem dX7_rank_30 : decode cX7_rank 30 = .ok (.iastore, 1) := by decide +kernel
theorem dX7_rank_31 : decode cX7_rank 31 = .ok (.aload_n 0, 1) := by decide +kernel
theorem dX7_rank_32 : decode cX7_rank 32 = .ok (.invokevirtual 131, 3) := by decide +kernel
theorem dX7_rank_35 : decode cX7_rank 35 = .ok (.aload_n 0, 1) := by decide +kernel
theorem dX7_rank_36 : decode cX7_rank 36 = .ok (.iload_n 1, 1) := by decide +kernel
theorem dX7_rank_37 : decode cX7_rank 37 = .ok (.invokevirtual 140, 3) := by decide +kernel
theorem dX7_rank_40 : decode cX7_rank 40 = .ok (.ireturn, 1) := by decide +kernel
theorem dX7_told_0 : decode cX7_told 0 = .ok (.aload_n 0, 1) := by decide +kernel
theorem dX7_told_1 : decode cX7_told 1 = .ok (.iload_n 1, 1) := by decide +kernel
theorem dX7_told_2 : decode cX7_told 2 = .ok (.invokevirtual 134, 3) := by decide +kernel
theorem dX7_told_5 : decode cX7_told 5 = .ok (.ifCond .ne 5, 3) := by decide +kernel
theorem dX7_told_8 : decode cX7_told 8 = .ok (.iconst (-1), 1) := by decide +kernel
theorem dX7_told_9 : decode cX7_told 9 = .ok (.ireturn, 1) := by decide +kernel
theorem dX7_told_10 : decode cX7_told 10 = .ok (.iload_n 2, 1) := by decide +kernel
theorem dX7_told_11 : decode cX7_told 11 = .ok (.bipush 10, 2) := by decide +kernel
theorem dX7_told_13 : decode cX7_told 13 = .ok (.bipush 17, 2) := by decide +kernel
theorem dX7_told_15 : decode cX7_told 15 = .ok (.invokestatic 100, 3) := by decide +kernel
theorem dX7_told_18 : decode cX7_told 18 = .ok (.ifCond .eq 36, 3) := by decide +kernel
theorem dX7_told_21 : decode cX7_told 21 = .ok (.iconst 4, 1) := by decide +kernel
theorem dX7_told_22 : decode cX7_told 22 = .ok (.iload_n 1, 1) := by decide +kernel
theorem dX7_told_23 : decode cX7_told 23 = .ok (.imul, 1) := by decide +kernel
theorem dX7_told_24 : decode cX7_told 24 = .ok (.iload_n 2, 1) := by decide +kernel
theorem dX7_told_25 : decode cX7_told 25 = .ok (.bipush 10, 2) := by decide +kernel
theorem dX7_told_27 : decode cX7_told 27 = .ok (.isub, 1) := by decide +kernel
theorem dX7_told_28 : decode cX7_told 28 = .ok (.iconst 2, 1) := by decide +kernel
theorem dX7_told_29 : decode cX7_told 29 = .ok (.idiv, 1) := by decide +kernel
theorem dX7_told_30 : decode cX7_told 30 = .ok (.iadd, 1) := by decide +kernel
theorem dX7_told_31 : decode cX7_told 31 = .ok (.istore_n 3, 1) := by decide +kernel
theorem dX7_told_32 : decode cX7_told 32 = .ok (.iload_n 2, 1) := by decide +kernel
theorem dX7_told_33 : decode cX7_told 33 = .ok (.iconst 2, 1) := by decide +kernel
theorem dX7_told_34 : decode cX7_told 34 = .ok (.irem, 1) := by decide +kernel
theorem dX7_told_35 : decode cX7_told 35 = .ok (.ifCond .ne 12, 3) := by decide +kernel
theorem dX7_told_38 : decode cX7_told 38 = .ok (.aload_n 0, 1) := by decide +kernel
theorem dX7_told_39 : decode cX7_told 39 = .ok (.getfield 7, 3) := by decide +kernel
theorem dX7_told_42 : decode cX7_told 42 = .ok (.iload_n 3, 1) := by decide +kernel
theorem dX7_told_43 : decode cX7_told 43 = .ok (.iaload, 1) := by decide +kernel
theorem dX7_told_44 : decode cX7_told 44 = .ok (.goto 9, 3) := by decide +kernel
theorem dX7_told_47 : decode cX7_told 47 = .ok (.aload_n 0, 1) := by decide +kernel
theorem dX7_told_48 : decode cX7_told 48 = .ok (.getfield 13, 3) := by decide +kernel
theorem dX7_told_51 : decode cX7_told 51 = .ok (.iload_n 3, 1) := by decide +kernel
theorem dX7_told_52 : decode cX7_told 52 = .ok (.iaload, 1) := by decide +kernel
theorem dX7_told_53 : decode cX7_told 53 = .ok (.ireturn, 1) := by decide +kernel
theorem dX7_told_54 : decode cX7_told 54 = .ok (.iload_n 2, 1) := by decide +kernel
theorem dX7_told_55 : decode cX7_told 55 = .ok (.ifCond .ne 12, 3) := by decide +kernel
theorem dX7_told_58 : decode cX7_told 58 = .ok (.aload_n 0, 1) := by decide +kernel
theorem dX7_told_59 : decode cX7_told 59 = .ok (.getfield 16, 3) := by decide +kernel
theorem dX7_told_62 : decode cX7_told 62 = .ok (.iload_n 1, 1) := by decide +kernel
theorem dX7_told_63 : decode cX7_told 63 = .ok (.iaload, 1) := by decide +kernel
theorem dX7_told_64 : decode cX7_told 64 = .ok (.goto 32, 3) := by decide +kernel
theorem dX7_told_67 : decode cX7_told 67 = .ok (.iload_n 2, 1) := by decide +kernel
theorem dX7_told_68 : decode cX7_told 68 = .ok (.iconst 1, 1) := by decide +kernel
theorem dX7_told_69 : decode cX7_told 69 = .ok (.if_icmp .ne 12, 3) := by decide +kernel
theorem dX7_told_72 : decode cX7_told 72 = .ok (.aload_n 0, 1) := by decide +kernel
theorem dX7_told_73 : decode cX7_told 73 = .ok (.getfield 19, 3) := by decide +kernel
theorem dX7_told_76 : decode cX7_told 76 = .ok (.iload_n 1, 1) := by decide +kernel
theorem dX7_told_77 : decode cX7_told 77 = .ok (.iaload, 1) := by decide +kernel
theorem dX7_told_78 : decode cX7_told 78 = .ok (.goto 18, 3) := by decide +kernel
theorem dX7_told_81 : decode cX7_told 81 = .ok (.iload_n 2, 1) := by decide +kernel
theorem dX7_told_82 : decode cX7_told 82 = .ok (.iconst 2, 1) := by decide +kernel
theorem dX7_told_83 : decode cX7_told 83 = .ok (.if_icmp .ne 11, 3) := by decide +kernel
theorem dX7_told_86 : decode cX7_told 86 = .ok (.aload_n 0, 1) := by decide +kernel
theorem dX7_told_87 : decode cX7_told 87 = .ok (.iload_n 1, 1) := by decide +kernel
theorem dX7_told_88 : decode cX7_told 88 = .ok (.invokevirtual 140, 3) := by decide +kernel
theorem dX7_told_91 : decode cX7_told 91 = .ok (.goto 5, 3) := by decide +kernel
theorem dX7_told_94 : decode cX7_told 94 = .ok (.bipush (-2), 2) := by decide +kernel
theorem dX7_told_96 : decode cX7_told 96 = .ok (.ireturn, 1) := by decide +kernel
theorem dX7_order_0 : decode cX7_order 0 = .ok (.aload_n 0, 1) := by decide +kernel
theorem dX7_order_1 : decode cX7_order 1 = .ok (.getfield 111, 3) := by decide +kernel
theorem dX7_order_4 : decode cX7_order 4 = .ok (.ifCond .eq 4, 3) := by decide +kernel
theorem dX7_order_7 : decode cX7_order 7 = .ok (.return_, 1) := by decide +kernel
theorem dX7_order_8 : decode cX7_order 8 = .ok (.aload_n 0, 1) := by decide +kernel
theorem dX7_order_9 : decode cX7_order 9 = .ok (.iconst 1, 1) := by decide +kernel
theorem dX7_order_10 : decode cX7_order 10 = .ok (.putfield 111, 3) := by decide +kernel
theorem dX7_order_13 : decode cX7_order 13 = .ok (.iconst 0, 1) := by decide +kernel
theorem dX7_order_14 : decode cX7_order 14 = .ok (.istore_n 1, 1) := by decide +kernel
theorem dX7_order_15 : decode cX7_order 15 = .ok (.iload_n 1, 1) := by decide +kernel
theorem dX7_order_16 : decode cX7_order 16 = .ok (.aload_n 0, 1) := by decide +kernel
theorem dX7_order_17 : decode cX7_order 17 = .ok (.getfield 104, 3) := by decide +kernel
theorem dX7_order_20 : decode cX7_order 20 = .ok (.if_icmp .ge 20, 3) := by decide +kernel
theorem dX7_order_23 : decode cX7_order 23 = .ok (.aload_n 0, 1) := by decide +kernel
theorem dX7_order_24 : decode cX7_order 24 = .ok (.getfield 29, 3) := by decide +kernel
theorem dX7_order_27 : decode cX7_order 27 = .ok (.aload_n 0, 1) := by decide +kernel
theorem dX7_order_28 : decode cX7_order 28 = .ok (.iload_n 1, 1) := by decide +kernel
theorem dX7_order_29 : decode cX7_order 29 = .ok (.invokevirtual 140, 3) := by decide +kernel
theorem dX7_order_32 : decode cX7_order 32 = .ok (.iload_n 1, 1) := by decide +kernel
theorem dX7_order_33 : decode cX7_order 33 = .ok (.iastore, 1) := by decide +kernel
theorem dX7_order_34 : decode cX7_order 34 = .ok (.iinc 1 1, 3) := by decide +kernel
theorem dX7_order_37 : decode cX7_order 37 = .ok (.goto (-22), 3) := by decide +kernel
theorem dX7_order_40 : decode cX7_order 40 = .ok (.iconst 0, 1) := by decide +kernel
theorem dX7_order_41 : decode cX7_order 41 = .ok (.istore_n 1, 1) := by decide +kernel
theorem dX7_order_42 : decode cX7_order 42 = .ok (.iload_n 1, 1) := by decide +kernel
theorem dX7_order_43 : decode cX7_order 43 = .ok (.iconst 4, 1) := by decide +kernel
theorem dX7_order_44 : decode cX7_order 44 = .ok (.if_icmp .ge 43, 3) := by decide +kernel
theorem dX7_order_47 : decode cX7_order 47 = .ok (.iconst 0, 1) := by decide +kernel
theorem dX7_order_48 : decode cX7_order 48 = .ok (.istore_n 2, 1) := by decide +kernel
theorem dX7_order_49 : decode cX7_order 49 = .ok (.iload_n 2, 1) := by decide +kernel
theorem dX7_order_50 : decode cX7_order 50 = .ok (.iload_n 1, 1) := by decide +kernel
theorem dX7_order_51 : decode cX7_order 51 = .ok (.invokestatic 124, 3) := by decide +kernel
theorem dX7_order_54 : decode cX7_order 54 = .ok (.if_icmp .gt 27, 3) := by decide +kernel
theorem dX7_order_57 : decode cX7_order 57 = .ok (.aload_n 0, 1) := by decide +kernel
theorem dX7_order_58 : decode cX7_order 58 = .ok (.getfield 32, 3) := by decide +kernel
theorem dX7_order_61 : decode cX7_order 61 = .ok (.bipush 64, 2) := by decide +kernel
theorem dX7_order_63 : decode cX7_order 63 = .ok (.iload_n 1, 1) := by decide +kernel
theorem dX7_order_64 : decode cX7_order 64 = .ok (.imul, 1) := by decide +kernel
theorem dX7_order_65 : decode cX7_order 65 = .ok (.iload_n 2, 1) := by decide +kernel
theorem dX7_order_66 : decode cX7_order 66 = .ok (.iadd, 1) := by decide +kernel
theorem dX7_order_67 : decode cX7_order 67 = .ok (.aload_n 0, 1) := by decide +kernel
theorem dX7_order_68 : decode cX7_order 68 = .ok (.iload_n 1, 1) := by decide +kernel
theorem dX7_order_69 : decode cX7_order 69 = .ok (.iload_n 2, 1) := by decide +kernel
theorem dX7_order_70 : decode cX7_order 70 = .ok (.iload_n 2, 1) := by decide +kernel
theorem dX7_order_71 : decode cX7_order 71 = .ok (.invokevirtual 143, 3) := by decide +kernel
theorem dX7_order_74 : decode cX7_order 74 = .ok (.iastore, 1) := by decide +kernel
theorem dX7_order_75 : decode cX7_order 75 = .ok (.iinc 2 1, 3) := by decide +kernel
theorem dX7_order_78 : decode cX7_order 78 = .ok (.goto (-29), 3) := by decide +kernel
theorem dX7_order_81 : decode cX7_order 81 = .ok (.iinc 1 1, 3) := by decide +kernel
theorem dX7_order_84 : decode cX7_order 84 = .ok (.goto (-42), 3) := by decide +kernel
theorem dX7_order_87 : decode cX7_order 87 = .ok (.return_, 1) := by decide +kernel
theorem dX7_takersOf_0 : decode cX7_takersOf 0 = .ok (.iconst 0, 1) := by decide +kernel
theorem dX7_takersOf_1 : decode cX7_takersOf 1 = .ok (.istore 4, 2) := by decide +kernel
theorem dX7_takersOf_3 : decode cX7_takersOf 3 = .ok (.iconst 0, 1) := by decide +kernel
theorem dX7_takersOf_4 : decode cX7_takersOf 4 = .ok (.istore 5, 2) := by decide +kernel
theorem dX7_takersOf_6 : decode cX7_takersOf 6 = .ok (.iload 5, 2) := by decide +kernel
theorem dX7_takersOf_8 : decode cX7_takersOf 8 = .ok (.aload_n 0, 1) := by decide +kernel
theorem dX7_takersOf_9 : decode cX7_takersOf 9 = .ok (.getfield 104, 3) := by decide +kernel
theorem dX7_takersOf_12 : decode cX7_takersOf 12 = .ok (.if_icmp .ge 57, 3) := by decide +kernel
theorem dX7_takersOf_15 : decode cX7_takersOf 15 = .ok (.iconst 4, 1) := by decide +kernel
theorem dX7_takersOf_16 : decode cX7_takersOf 16 = .ok (.aload_n 0, 1) := by decide +kernel
theorem dX7_takersOf_17 : decode cX7_takersOf 17 = .ok (.getfield 29, 3) := by decide +kernel
theorem dX7_takersOf_20 : decode cX7_takersOf 20 = .ok (.iload 5, 2) := by decide +kernel
theorem dX7_takersOf_22 : decode cX7_takersOf 22 = .ok (.iaload, 1) := by decide +kernel
theorem dX7_takersOf_23 : decode cX7_takersOf 23 = .ok (.imul, 1) := by decide +kernel
theorem dX7_takersOf_24 : decode cX7_takersOf 24 = .ok (.iload_n 1, 1) := by decide +kernel
theorem dX7_takersOf_25 : decode cX7_takersOf 25 = .ok (.iadd, 1) := by decide +kernel
theorem dX7_takersOf_26 : decode cX7_takersOf 26 = .ok (.istore 6, 2) := by decide +kernel
theorem dX7_takersOf_28 : decode cX7_takersOf 28 = .ok (.iload 4, 2) := by decide +kernel
theorem dX7_takersOf_30 : decode cX7_takersOf 30 = .ok (.aload_n 0, 1) := by decide +kernel
theorem dX7_takersOf_31 : decode cX7_takersOf 31 = .ok (.getfield 7, 3) := by decide +kernel
theorem dX7_takersOf_34 : decode cX7_takersOf 34 = .ok (.iload 6, 2) := by decide +kernel
theorem dX7_takersOf_36 : decode cX7_takersOf 36 = .ok (.iaload, 1) := by decide +kernel
theorem dX7_takersOf_37 : decode cX7_takersOf 37 = .ok (.iload_n 3, 1) := by decide +kernel
theorem dX7_takersOf_38 : decode cX7_takersOf 38 = .ok (.if_icmp .gt 21, 3) := by decide +kernel
theorem dX7_takersOf_41 : decode cX7_takersOf 41 = .ok (.aload_n 0, 1) := by decide +kernel
theorem dX7_takersOf_42 : decode cX7_takersOf 42 = .ok (.getfield 13, 3) := by decide +kernel
theorem dX7_takersOf_45 : decode cX7_takersOf 45 = .ok (.iload 6, 2) := by decide +kernel
theorem dX7_takersOf_47 : decode cX7_takersOf 47 = .ok (.iaload, 1) := by decide +kernel
theorem dX7_takersOf_48 : decode cX7_takersOf 48 = .ok (.iload_n 2, 1) := by decide +kernel
theorem dX7_takersOf_49 : decode cX7_takersOf 49 = .ok (.if_icmp .lt 10, 3) := by decide +kernel
theorem dX7_takersOf_52 : decode cX7_takersOf 52 = .ok (.iconst 1, 1) := by decide +kernel
theorem dX7_takersOf_53 : decode cX7_takersOf 53 = .ok (.iload 5, 2) := by decide +kernel
theorem dX7_takersOf_55 : decode cX7_takersOf 55 = .ok (.ishl, 1) := by decide +kernel
theorem dX7_takersOf_56 : decode cX7_takersOf 56 = .ok (.goto 4, 3) := by decide +kernel
theorem dX7_takersOf_59 : decode cX7_takersOf 59 = .ok (.iconst 0, 1) := by decide +kernel
theorem dX7_takersOf_60 : decode cX7_takersOf 60 = .ok (.ior, 1) := by decide +kernel
theorem dX7_takersOf_61 : decode cX7_takersOf 61 = .ok (.istore 4, 2) := by decide +kernel
theorem dX7_takersOf_63 : decode cX7_takersOf 63 = .ok (.iinc 5 1, 3) := by decide +kernel
theorem dX7_takersOf_66 : decode cX7_takersOf 66 = .ok (.goto (-60), 3) := by decide +kernel
theorem dX7_takersOf_69 : decode cX7_takersOf 69 = .ok (.iload 4, 2) := by decide +kernel
theorem dX7_takersOf_71 : decode cX7_takersOf 71 = .ok (.ireturn, 1) := by decide +kernel
theorem dX7_fitting_0 : decode cX7_fitting 0 = .ok (.aload_n 0, 1) := by decide +kernel
theorem dX7_fitting_1 : decode cX7_fitting 1 = .ok (.invokevirtual 147, 3) := by decide +kernel
theorem dX7_fitting_4 : decode cX7_fitting 4 = .ok (.aload_n 0, 1) := by decide +kernel
theorem dX7_fitting_5 : decode cX7_fitting 5 = .ok (.getfield 32, 3) := by decide +kernel
theorem dX7_fitting_8 : decode cX7_fitting 8 = .ok (.iload_n 1, 1) := by decide +kernel
theorem dX7_fitting_9 : decode cX7_fitting 9 = .ok (.iaload, 1) := by decide +kernel
theorem dX7_fitting_10 : decode cX7_fitting 10 = .ok (.aload_n 0, 1) := by decide +kernel
theorem dX7_fitting_11 : decode cX7_fitting 11 = .ok (.getfield 32, 3) := by decide +kernel
theorem dX7_fitting_14 : decode cX7_fitting 14 = .ok (.bipush 64, 2) := by decide +kernel
theorem dX7_fitting_16 : decode cX7_fitting 16 = .ok (.iload_n 2, 1) := by decide +kernel
theorem dX7_fitting_17 : decode cX7_fitting 17 = .ok (.iadd, 1) := by decide +kernel
theorem dX7_fitting_18 : decode cX7_fitting 18 = .ok (.iaload, 1) := by decide +kernel
theorem dX7_fitting_19 : decode cX7_fitting 19 = .ok (.iand, 1) := by decide +kernel
theorem dX7_fitting_20 : decode cX7_fitting 20 = .ok (.aload_n 0, 1) := by decide +kernel
theorem dX7_fitting_21 : decode cX7_fitting 21 = .ok (.getfield 32, 3) := by decide +kernel
theorem dX7_fitting_24 : decode cX7_fitting 24 = .ok (.sipush 128, 3) := by decide +kernel
theorem dX7_fitting_27 : decode cX7_fitting 27 = .ok (.iload_n 3, 1) := by decide +kernel
theorem dX7_fitting_28 : decode cX7_fitting 28 = .ok (.iadd, 1) := by decide +kernel
theorem dX7_fitting_29 : decode cX7_fitting 29 = .ok (.iaload, 1) := by decide +kernel
theorem dX7_fitting_30 : decode cX7_fitting 30 = .ok (.iand, 1) := by decide +kernel
theorem dX7_fitting_31 : decode cX7_fitting 31 = .ok (.aload_n 0, 1) := by decide +kernel
theorem dX7_fitting_32 : decode cX7_fitting 32 = .ok (.getfield 32, 3) := by decide +kernel
theorem dX7_fitting_35 : decode cX7_fitting 35 = .ok (.sipush 192, 3) := by decide +kernel
theorem dX7_fitting_38 : decode cX7_fitting 38 = .ok (.iload 4, 2) := by decide +kernel
theorem dX7_fitting_40 : decode cX7_fitting 40 = .ok (.iadd, 1) := by decide +kernel
theorem dX7_fitting_41 : decode cX7_fitting 41 = .ok (.iaload, 1) := by decide +kernel
theorem dX7_fitting_42 : decode cX7_fitting 42 = .ok (.iand, 1) := by decide +kernel
theorem dX7_fitting_43 : decode cX7_fitting 43 = .ok (.ireturn, 1) := by decide +kernel
theorem dX7_first_0 : decode cX7_first 0 = .ok (.iload_n 1, 1) := by decide +kernel
theorem dX7_first_1 : decode cX7_first 1 = .ok (.iload_n 2, 1) := by decide +kernel
theorem dX7_first_2 : decode cX7_first 2 = .ok (.iload_n 3, 1) := by decide +kernel
theorem dX7_first_3 : decode cX7_first 3 = .ok (.iload 4, 2) := by decide +kernel
theorem dX7_first_5 : decode cX7_first 5 = .ok (.invokestatic 150, 3) := by decide +kernel
theorem dX7_first_8 : decode cX7_first 8 = .ok (.ifCond .ne 6, 3) := by decide +kernel
theorem dX7_first_11 : decode cX7_first 11 = .ok (.bipush (-2), 2) := by decide +kernel
theorem dX7_first_13 : decode cX7_first 13 = .ok (.ireturn, 1) := by decide +kernel
theorem dX7_first_14 : decode cX7_first 14 = .ok (.aload_n 0, 1) := by decide +kernel
theorem dX7_first_15 : decode cX7_first 15 = .ok (.iload_n 1, 1) := by decide +kernel
theorem dX7_first_16 : decode cX7_first 16 = .ok (.iload_n 2, 1) := by decide +kernel
theorem dX7_first_17 : decode cX7_first 17 = .ok (.iload_n 3, 1) := by decide +kernel
theorem dX7_first_18 : decode cX7_first 18 = .ok (.iload 4, 2) := by decide +kernel
theorem dX7_first_20 : decode cX7_first 20 = .ok (.invokevirtual 154, 3) := by decide +kernel
theorem dX7_first_23 : decode cX7_first 23 = .ok (.istore 5, 2) := by decide +kernel
theorem dX7_first_25 : decode cX7_first 25 = .ok (.iload 5, 2) := by decide +kernel
theorem dX7_first_27 : decode cX7_first 27 = .ok (.ifCond .ne 8, 3) := by decide +kernel
theorem dX7_first_30 : decode cX7_first 30 = .ok (.bipush (-6), 2) := by decide +kernel
theorem dX7_first_32 : decode cX7_first 32 = .ok (.goto 13, 3) := by decide +kernel
theorem dX7_first_35 : decode cX7_first 35 = .ok (.aload_n 0, 1) := by decide +kernel
theorem dX7_first_36 : decode cX7_first 36 = .ok (.getfield 29, 3) := by decide +kernel
theorem dX7_first_39 : decode cX7_first 39 = .ok (.iload 5, 2) := by decide +kernel
theorem dX7_first_41 : decode cX7_first 41 = .ok (.invokestatic 158, 3) := by decide +kernel
theorem dX7_first_44 : decode cX7_first 44 = .ok (.iaload, 1) := by decide +kernel
theorem dX7_first_45 : decode cX7_first 45 = .ok (.ireturn, 1) := by decide +kernel
theorem dX7_layStretches_0 : decode cX7_layStretches 0 = .ok (.iconst 0, 1) := by decide +kernel
theorem dX7_layStretches_1 : decode cX7_layStretches 1 = .ok (.istore_n 1, 1) := by decide +kernel
theorem dX7_layStretches_2 : decode cX7_layStretches 2 = .ok (.iload_n 1, 1) := by decide +kernel
theorem dX7_layStretches_3 : decode cX7_layStretches 3 = .ok (.iconst 4, 1) := by decide +kernel
theorem dX7_layStretches_4 : decode cX7_layStretches 4 = .ok (.if_icmp .ge 129, 3) := by decide +kernel
theorem dX7_layStretches_7 : decode cX7_layStretches 7 = .ok (.aload_n 0, 1) := by decide +kernel
theorem dX7_layStretches_8 : decode cX7_layStretches 8 = .ok (.getfield 41, 3) := by decide +kernel
theorem dX7_layStretches_11 : decode cX7_layStretches 11 = .ok (.iload_n 1, 1) := by decide +kernel
theorem dX7_layStretches_12 : decode cX7_layStretches 12 = .ok (.iconst 0, 1) := by decide +kernel
theorem dX7_layStretches_13 : decode cX7_layStretches 13 = .ok (.iastore, 1) := by decide +kernel
theorem dX7_layStretches_14 : decode cX7_layStretches 14 = .ok (.iconst 0, 1) := by decide +kernel
theorem dX7_layStretches_15 : decode cX7_layStretches 15 = .ok (.istore_n 2, 1) := by decide +kernel
theorem dX7_layStretches_16 : decode cX7_layStretches 16 = .ok (.iload_n 2, 1) := by decide +kernel
theorem dX7_layStretches_17 : decode cX7_layStretches 17 = .ok (.iload_n 1, 1) := by decide +kernel
theorem dX7_layStretches_18 : decode cX7_layStretches 18 = .ok (.invokestatic 124, 3) := by decide +kernel
theorem dX7_layStretches_21 : decode cX7_layStretches 21 = .ok (.if_icmp .gt 106, 3) := by decide +kernel
theorem dX7_layStretches_24 : decode cX7_layStretches 24 = .ok (.iload_n 2, 1) := by decide +kernel
theorem dX7_layStretches_25 : decode cX7_layStretches 25 = .ok (.ifCond .eq 30, 3) := by decide +kernel
theorem dX7_layStretches_28 : decode cX7_layStretches 28 = .ok (.aload_n 0, 1) := by decide +kernel
theorem dX7_layStretches_29 : decode cX7_layStretches 29 = .ok (.getfield 32, 3) := by decide +kernel
theorem dX7_layStretches_32 : decode cX7_layStretches 32 = .ok (.bipush 64, 2) := by decide +kernel
theorem dX7_layStretches_34 : decode cX7_layStretches 34 = .ok (.iload_n 1, 1) := by decide +kernel
theorem dX7_layStretches_35 : decode cX7_layStretches 35 = .ok (.imul, 1) := by decide +kernel
theorem dX7_layStretches_36 : decode cX7_layStretches 36 = .ok (.iload_n 2, 1) := by decide +kernel
theorem dX7_layStretches_37 : decode cX7_layStretches 37 = .ok (.iadd, 1) := by decide +kernel
theorem dX7_layStretches_38 : decode cX7_layStretches 38 = .ok (.iaload, 1) := by decide +kernel
theorem dX7_layStretches_39 : decode cX7_layStretches 39 = .ok (.aload_n 0, 1) := by decide +kernel
theorem dX7_layStretches_40 : decode cX7_layStretches 40 = .ok (.getfield 32, 3) := by decide +kernel
theorem dX7_layStretches_43 : decode cX7_layStretches 43 = .ok (.bipush 64, 2) := by decide +kernel
theorem dX7_layStretches_45 : decode cX7_layStretches 45 = .ok (.iload_n 1, 1) := by decide +kernel
theorem dX7_layStretches_46 : decode cX7_layStretches 46 = .ok (.imul, 1) := by decide +kernel
theorem dX7_layStretches_47 : decode cX7_layStretches 47 = .ok (.iload_n 2, 1) := by decide +kernel
theorem dX7_layStretches_48 : decode cX7_layStretches 48 = .ok (.iadd, 1) := by decide +kernel
theorem dX7_layStretches_49 : decode cX7_layStretches 49 = .ok (.iconst 1, 1) := by decide +kernel
theorem dX7_layStretches_50 : decode cX7_layStretches 50 = .ok (.isub, 1) := by decide +kernel
theorem dX7_layStretches_51 : decode cX7_layStretches 51 = .ok (.iaload, 1) := by decide +kernel
theorem dX7_layStretches_52 : decode cX7_layStretches 52 = .ok (.if_icmp .eq 47, 3) := by decide +kernel
theorem dX7_layStretches_55 : decode cX7_layStretches 55 = .ok (.aload_n 0, 1) := by decide +kernel
theorem dX7_layStretches_56 : decode cX7_layStretches 56 = .ok (.getfield 35, 3) := by decide +kernel
theorem dX7_layStretches_59 : decode cX7_layStretches 59 = .ok (.bipush 64, 2) := by decide +kernel
theorem dX7_layStretches_61 : decode cX7_layStretches 61 = .ok (.iload_n 1, 1) := by decide +kernel
theorem dX7_layStretches_62 : decode cX7_layStretches 62 = .ok (.imul, 1) := by decide +kernel
theorem dX7_layStretches_63 : decode cX7_layStretches 63 = .ok (.aload_n 0, 1) := by decide +kernel
theorem dX7_layStretches_64 : decode cX7_layStretches 64 = .ok (.getfield 41, 3) := by decide +kernel
theorem dX7_layStretches_67 : decode cX7_layStretches 67 = .ok (.iload_n 1, 1) := by decide +kernel
theorem dX7_layStretches_68 : decode cX7_layStretches 68 = .ok (.iaload, 1) := by decide +kernel
theorem dX7_layStretches_69 : decode cX7_layStretches 69 = .ok (.iadd, 1) := by decide +kernel
theorem dX7_layStretches_70 : decode cX7_layStretches 70 = .ok (.iload_n 2, 1) := by decide +kernel
theorem dX7_layStretches_71 : decode cX7_layStretches 71 = .ok (.iastore, 1) := by decide +kernel
theorem dX7_layStretches_72 : decode cX7_layStretches 72 = .ok (.aload_n 0, 1) := by decide +kernel
theorem dX7_layStretches_73 : decode cX7_layStretches 73 = .ok (.getfield 38, 3) := by decide +kernel
theorem dX7_layStretches_76 : decode cX7_layStretches 76 = .ok (.bipush 64, 2) := by decide +kernel
theorem dX7_layStretches_78 : decode cX7_layStretches 78 = .ok (.iload_n 1, 1) := by decide +kernel
theorem dX7_layStretches_79 : decode cX7_layStretches 79 = .ok (.imul, 1) := by decide +kernel
theorem dX7_layStretches_80 : decode cX7_layStretches 80 = .ok (.aload_n 0, 1) := by decide +kernel
theorem dX7_layStretches_81 : decode cX7_layStretches 81 = .ok (.getfield 41, 3) := by decide +kernel
theorem dX7_layStretches_84 : decode cX7_layStretches 84 = .ok (.iload_n 1, 1) := by decide +kernel
theorem dX7_layStretches_85 : decode cX7_layStretches 85 = .ok (.iaload, 1) := by decide +kernel
theorem dX7_layStretches_86 : decode cX7_layStretches 86 = .ok (.iadd, 1) := by decide +kernel
theorem dX7_layStretches_87 : decode cX7_layStretches 87 = .ok (.iconst 0, 1) := by decide +kernel
theorem dX7_layStretches_88 : decode cX7_layStretches 88 = .ok (.iastore, 1) := by decide +kernel
theorem dX7_layStretches_89 : decode cX7_layStretches 89 = .ok (.aload_n 0, 1) := by decide +kernel
theorem dX7_layStretches_90 : decode cX7_layStretches 90 = .ok (.getfield 41, 3) := by decide +kernel
theorem dX7_layStretches_93 : decode cX7_layStretches 93 = .ok (.iload_n 1, 1) := by decide +kernel
theorem dX7_layStretches_94 : decode cX7_layStretches 94 = .ok (.dup2, 1) := by decide +kernel
theorem dX7_layStretches_95 : decode cX7_layStretches 95 = .ok (.iaload, 1) := by decide +kernel
theorem dX7_layStretches_96 : decode cX7_layStretches 96 = .ok (.iconst 1, 1) := by decide +kernel
theorem dX7_layStretches_97 : decode cX7_layStretches 97 = .ok (.iadd, 1) := by decide +kernel
theorem dX7_layStretches_98 : decode cX7_layStretches 98 = .ok (.iastore, 1) := by decide +kernel
theorem dX7_layStretches_99 : decode cX7_layStretches 99 = .ok (.aload_n 0, 1) := by decide +kernel
theorem dX7_layStretches_100 : decode cX7_layStretches 100 = .ok (.getfield 38, 3) := by decide +kernel
theorem dX7_layStretches_103 : decode cX7_layStretches 103 = .ok (.bipush 64, 2) := by decide +kernel
theorem dX7_layStretches_105 : decode cX7_layStretches 105 = .ok (.iload_n 1, 1) := by decide +kernel
theorem dX7_layStretches_106 : decode cX7_layStretches 106 = .ok (.imul, 1) := by decide +kernel
theorem dX7_layStretches_107 : decode cX7_layStretches 107 = .ok (.aload_n 0, 1) := by decide +kernel
theorem dX7_layStretches_108 : decode cX7_layStretches 108 = .ok (.getfield 41, 3) := by decide +kernel
theorem dX7_layStretches_111 : decode cX7_layStretches 111 = .ok (.iload_n 1, 1) := by decide +kernel
theorem dX7_layStretches_112 : decode cX7_layStretches 112 = .ok (.iaload, 1) := by decide +kernel
theorem dX7_layStretches_113 : decode cX7_layStretches 113 = .ok (.iadd, 1) := by decide +kernel
theorem dX7_layStretches_114 : decode cX7_layStretches 114 = .ok (.iconst 1, 1) := by decide +kernel
theorem dX7_layStretches_115 : decode cX7_layStretches 115 = .ok (.isub, 1) := by decide +kernel
theorem dX7_layStretches_116 : decode cX7_layStretches 116 = .ok (.dup2, 1) := by decide +kernel
theorem dX7_layStretches_117 : decode cX7_layStretches 117 = .ok (.iaload, 1) := by decide +kernel
theorem dX7_layStretches_118 : decode cX7_layStretches 118 = .ok (.iconst 1, 1) := by decide +kernel
theorem dX7_layStretches_119 : decode cX7_layStretches 119 = .ok (.iadd, 1) := by decide +kernel
theorem dX7_layStretches_120 : decode cX7_layStretches 120 = .ok (.iastore, 1) := by decide +kernel
theorem dX7_layStretches_121 : decode cX7_layStretches 121 = .ok (.iinc 2 1, 3) := by decide +kernel
theorem dX7_layStretches_124 : decode cX7_layStretches 124 = .ok (.goto (-108), 3) := by decide +kernel
theorem dX7_layStretches_127 : decode cX7_layStretches 127 = .ok (.iinc 1 1, 3) := by decide +kernel
theorem dX7_layStretches_130 : decode cX7_layStretches 130 = .ok (.goto (-128), 3) := by decide +kernel
theorem dX7_layStretches_133 : decode cX7_layStretches 133 = .ok (.return_, 1) := by decide +kernel
theorem dX7_meet_0 : decode cX7_meet 0 = .ok (.iload_n 1, 1) := by decide +kernel
theorem dX7_meet_1 : decode cX7_meet 1 = .ok (.ifCond .ne 15, 3) := by decide +kernel
theorem dX7_meet_4 : decode cX7_meet 4 = .ok (.aload_n 0, 1) := by decide +kernel
theorem dX7_meet_5 : decode cX7_meet 5 = .ok (.getfield 51, 3) := by decide +kernel
theorem dX7_meet_8 : decode cX7_meet 8 = .ok (.bipush 10, 2) := by decide +kernel
theorem dX7_meet_10 : decode cX7_meet 10 = .ok (.dup2, 1) := by decide +kernel
theorem dX7_meet_11 : decode cX7_meet 11 = .ok (.iaload, 1) := by decide +kernel
theorem dX7_meet_12 : decode cX7_meet 12 = .ok (.iload_n 2, 1) := by decide +kernel
theorem dX7_meet_13 : decode cX7_meet 13 = .ok (.iadd, 1) := by decide +kernel
theorem dX7_meet_14 : decode cX7_meet 14 = .ok (.iastore, 1) := by decide +kernel
theorem dX7_meet_15 : decode cX7_meet 15 = .ok (.return_, 1) := by decide +kernel
theorem dX7_meet_16 : decode cX7_meet 16 = .ok (.iload_n 1, 1) := by decide +kernel
theorem dX7_meet_17 : decode cX7_meet 17 = .ok (.invokestatic 158, 3) := by decide +kernel
theorem dX7_meet_20 : decode cX7_meet 20 = .ok (.istore_n 3, 1) := by decide +kernel
theorem dX7_meet_21 : decode cX7_meet 21 = .ok (.iload_n 1, 1) := by decide +kernel
theorem dX7_meet_22 : decode cX7_meet 22 = .ok (.iconst 1, 1) := by decide +kernel
theorem dX7_meet_23 : decode cX7_meet 23 = .ok (.iload_n 3, 1) := by decide +kernel
theorem dX7_meet_24 : decode cX7_meet 24 = .ok (.ishl, 1) := by decide +kernel
theorem dX7_meet_25 : decode cX7_meet 25 = .ok (.iconst (-1), 1) := by decide +kernel
theorem dX7_meet_26 : decode cX7_meet 26 = .ok (.ixor, 1) := by decide +kernel
theorem dX7_meet_27 : decode cX7_meet 27 = .ok (.iand, 1) := by decide +kernel
theorem dX7_meet_28 : decode cX7_meet 28 = .ok (.istore 4, 2) := by decide +kernel
theorem dX7_meet_30 : decode cX7_meet 30 = .ok (.aload_n 0, 1) := by decide +kernel
theorem dX7_meet_31 : decode cX7_meet 31 = .ok (.getfield 29, 3) := by decide +kernel
theorem dX7_meet_34 : decode cX7_meet 34 = .ok (.iload_n 3, 1) := by decide +kernel
theorem dX7_meet_35 : decode cX7_meet 35 = .ok (.iaload, 1) := by decide +kernel
theorem dX7_meet_36 : decode cX7_meet 36 = .ok (.istore 5, 2) := by decide +kernel
theorem dX7_meet_38 : decode cX7_meet 38 = .ok (.aload_n 0, 1) := by decide +kernel
theorem dX7_meet_39 : decode cX7_meet 39 = .ok (.getfield 44, 3) := by decide +kernel
theorem dX7_meet_42 : decode cX7_meet 42 = .ok (.iload 5, 2) := by decide +kernel
theorem dX7_meet_44 : decode cX7_meet 44 = .ok (.dup2, 1) := by decide +kernel
theorem dX7_meet_45 : decode cX7_meet 45 = .ok (.iaload, 1) := by decide +kernel
theorem dX7_meet_46 : decode cX7_meet 46 = .ok (.iload_n 2, 1) := by decide +kernel
theorem dX7_meet_47 : decode cX7_meet 47 = .ok (.iadd, 1) := by decide +kernel
theorem dX7_meet_48 : decode cX7_meet 48 = .ok (.iastore, 1) := by decide +kernel
theorem dX7_meet_49 : decode cX7_meet 49 = .ok (.aload_n 0, 1) := by decide +kernel
theorem dX7_meet_50 : decode cX7_meet 50 = .ok (.getfield 51, 3) := by decide +kernel
theorem dX7_meet_53 : decode cX7_meet 53 = .ok (.aload_n 0, 1) := by decide +kernel
theorem dX7_meet_54 : decode cX7_meet 54 = .ok (.getfield 19, 3) := by decide +kernel
theorem dX7_meet_57 : decode cX7_meet 57 = .ok (.iload 5, 2) := by decide +kernel
theorem dX7_meet_59 : decode cX7_meet 59 = .ok (.iaload, 1) := by decide +kernel
theorem dX7_meet_60 : decode cX7_meet 60 = .ok (.dup2, 1) := by decide +kernel
theorem dX7_meet_61 : decode cX7_meet 61 = .ok (.iaload, 1) := by decide +kernel
theorem dX7_meet_62 : decode cX7_meet 62 = .ok (.iload_n 2, 1) := by decide +kernel
theorem dX7_meet_63 : decode cX7_meet 63 = .ok (.iadd, 1) := by decide +kernel
theorem dX7_meet_64 : decode cX7_meet 64 = .ok (.iastore, 1) := by decide +kernel
theorem dX7_meet_65 : decode cX7_meet 65 = .ok (.iload 4, 2) := by decide +kernel
theorem dX7_meet_67 : decode cX7_meet 67 = .ok (.ifCond .eq 28, 3) := by decide +kernel
theorem dX7_meet_70 : decode cX7_meet 70 = .ok (.aload_n 0, 1) := by decide +kernel
theorem dX7_meet_71 : decode cX7_meet 71 = .ok (.getfield 19, 3) := by decide +kernel
theorem dX7_meet_74 : decode cX7_meet 74 = .ok (.aload_n 0, 1) := by decide +kernel
theorem dX7_meet_75 : decode cX7_meet 75 = .ok (.getfield 29, 3) := by decide +kernel
theorem dX7_meet_78 : decode cX7_meet 78 = .ok (.iload 4, 2) := by decide +kernel
theorem dX7_meet_80 : decode cX7_meet 80 = .ok (.invokestatic 158, 3) := by decide +kernel
theorem dX7_meet_83 : decode cX7_meet 83 = .ok (.iaload, 1) := by decide +kernel
theorem dX7_meet_84 : decode cX7_meet 84 = .ok (.iaload, 1) := by decide +kernel
theorem dX7_meet_85 : decode cX7_meet 85 = .ok (.aload_n 0, 1) := by decide +kernel
theorem dX7_meet_86 : decode cX7_meet 86 = .ok (.getfield 19, 3) := by decide +kernel
theorem dX7_meet_89 : decode cX7_meet 89 = .ok (.iload 5, 2) := by decide +kernel
theorem dX7_meet_91 : decode cX7_meet 91 = .ok (.iaload, 1) := by decide +kernel
theorem dX7_meet_92 : decode cX7_meet 92 = .ok (.if_icmp .eq 11, 3) := by decide +kernel
theorem dX7_meet_95 : decode cX7_meet 95 = .ok (.aload_n 0, 1) := by decide +kernel
theorem dX7_meet_96 : decode cX7_meet 96 = .ok (.getfield 47, 3) := by decide +kernel
theorem dX7_meet_99 : decode cX7_meet 99 = .ok (.iload 5, 2) := by decide +kernel
theorem dX7_meet_101 : decode cX7_meet 101 = .ok (.iconst 1, 1) := by decide +kernel
theorem dX7_meet_102 : decode cX7_meet 102 = .ok (.bastore, 1) := by decide +kernel
theorem dX7_meet_103 : decode cX7_meet 103 = .ok (.return_, 1) := by decide +kernel
theorem dX7_sweep_0 : decode cX7_sweep 0 = .ok (.aload_n 0, 1) := by decide +kernel
theorem dX7_sweep_1 : decode cX7_sweep 1 = .ok (.invokevirtual 147, 3) := by decide +kernel
theorem dX7_sweep_4 : decode cX7_sweep 4 = .ok (.aload_n 0, 1) := by decide +kernel
theorem dX7_sweep_5 : decode cX7_sweep 5 = .ok (.getfield 115, 3) := by decide +kernel
theorem dX7_sweep_8 : decode cX7_sweep 8 = .ok (.ifCond .eq 4, 3) := by decide +kernel
theorem dX7_sweep_11 : decode cX7_sweep 11 = .ok (.return_, 1) := by decide +kernel
theorem dX7_sweep_12 : decode cX7_sweep 12 = .ok (.aload_n 0, 1) := by decide +kernel
theorem dX7_sweep_13 : decode cX7_sweep 13 = .ok (.iconst 1, 1) := by decide +kernel
theorem dX7_sweep_14 : decode cX7_sweep 14 = .ok (.putfield 115, 3) := by decide +kernel
theorem dX7_sweep_17 : decode cX7_sweep 17 = .ok (.iconst 0, 1) := by decide +kernel
theorem dX7_sweep_18 : decode cX7_sweep 18 = .ok (.istore_n 1, 1) := by decide +kernel
theorem dX7_sweep_19 : decode cX7_sweep 19 = .ok (.iload_n 1, 1) := by decide +kernel
theorem dX7_sweep_20 : decode cX7_sweep 20 = .ok (.bipush 16, 2) := by decide +kernel
theorem dX7_sweep_22 : decode cX7_sweep 22 = .ok (.if_icmp .ge 23, 3) := by decide +kernel
theorem dX7_sweep_25 : decode cX7_sweep 25 = .ok (.aload_n 0, 1) := by decide +kernel
theorem dX7_sweep_26 : decode cX7_sweep 26 = .ok (.getfield 44, 3) := by decide +kernel
theorem dX7_sweep_29 : decode cX7_sweep 29 = .ok (.iload_n 1, 1) := by decide +kernel
theorem dX7_sweep_30 : decode cX7_sweep 30 = .ok (.iconst 0, 1) := by decide +kernel
theorem dX7_sweep_31 : decode cX7_sweep 31 = .ok (.iastore, 1) := by decide +kernel
theorem dX7_sweep_32 : decode cX7_sweep 32 = .ok (.aload_n 0, 1) := by decide +kernel
theorem dX7_sweep_33 : decode cX7_sweep 33 = .ok (.getfield 47, 3) := by decide +kernel
theorem dX7_sweep_36 : decode cX7_sweep 36 = .ok (.iload_n 1, 1) := by decide +kernel
theorem dX7_sweep_37 : decode cX7_sweep 37 = .ok (.iconst 0, 1) := by decide +kernel
theorem dX7_sweep_38 : decode cX7_sweep 38 = .ok (.bastore, 1) := by decide +kernel
theorem dX7_sweep_39 : decode cX7_sweep 39 = .ok (.iinc 1 1, 3) := by decide +kernel
theorem dX7_sweep_42 : decode cX7_sweep 42 = .ok (.goto (-23), 3) := by decide +kernel
theorem dX7_sweep_45 : decode cX7_sweep 45 = .ok (.iconst 0, 1) := by decide +kernel
theorem dX7_sweep_46 : decode cX7_sweep 46 = .ok (.istore_n 1, 1) := by decide +kernel
theorem dX7_sweep_47 : decode cX7_sweep 47 = .ok (.iload_n 1, 1) := by decide +kernel
theorem dX7_sweep_48 : decode cX7_sweep 48 = .ok (.bipush 11, 2) := by decide +kernel
theorem dX7_sweep_50 : decode cX7_sweep 50 = .ok (.if_icmp .ge 16, 3) := by decide +kernel
theorem dX7_sweep_53 : decode cX7_sweep 53 = .ok (.aload_n 0, 1) := by decide +kernel
theorem dX7_sweep_54 : decode cX7_sweep 54 = .ok (.getfield 51, 3) := by decide +kernel
theorem dX7_sweep_57 : decode cX7_sweep 57 = .ok (.iload_n 1, 1) := by decide +kernel
theorem dX7_sweep_58 : decode cX7_sweep 58 = .ok (.iconst 0, 1) := by decide +kernel
theorem dX7_sweep_59 : decode cX7_sweep 59 = .ok (.iastore, 1) := by decide +kernel
theorem dX7_sweep_60 : decode cX7_sweep 60 = .ok (.iinc 1 1, 3) := by decide +kernel
theorem dX7_sweep_63 : decode cX7_sweep 63 = .ok (.goto (-16), 3) := by decide +kernel
theorem dX7_sweep_66 : decode cX7_sweep 66 = .ok (.aload_n 0, 1) := by decide +kernel
theorem dX7_sweep_67 : decode cX7_sweep 67 = .ok (.invokevirtual 161, 3) := by decide +kernel
theorem dX7_sweep_70 : decode cX7_sweep 70 = .ok (.iconst 0, 1) := by decide +kernel
theorem dX7_sweep_71 : decode cX7_sweep 71 = .ok (.istore_n 1, 1) := by decide +kernel
theorem dX7_sweep_72 : decode cX7_sweep 72 = .ok (.iload_n 1, 1) := by decide +kernel
theorem dX7_sweep_73 : decode cX7_sweep 73 = .ok (.aload_n 0, 1) := by decide +kernel
theorem dX7_sweep_74 : decode cX7_sweep 74 = .ok (.getfield 41, 3) := by decide +kernel
theorem dX7_sweep_77 : decode cX7_sweep 77 = .ok (.iconst 0, 1) := by decide +kernel
theorem dX7_sweep_78 : decode cX7_sweep 78 = .ok (.iaload, 1) := by decide +kernel
theorem dX7_sweep_79 : decode cX7_sweep 79 = .ok (.aload_n 0, 1) := by decide +kernel
theorem dX7_sweep_80 : decode cX7_sweep 80 = .ok (.getfield 41, 3) := by decide +kernel
theorem dX7_sweep_83 : decode cX7_sweep 83 = .ok (.iconst 1, 1) := by decide +kernel
theorem dX7_sweep_84 : decode cX7_sweep 84 = .ok (.iaload, 1) := by decide +kernel
theorem dX7_sweep_85 : decode cX7_sweep 85 = .ok (.imul, 1) := by decide +kernel
theorem dX7_sweep_86 : decode cX7_sweep 86 = .ok (.if_icmp .ge 187, 3) := by decide +kernel
theorem dX7_sweep_89 : decode cX7_sweep 89 = .ok (.iload_n 1, 1) := by decide +kernel
theorem dX7_sweep_90 : decode cX7_sweep 90 = .ok (.aload_n 0, 1) := by decide +kernel
theorem dX7_sweep_91 : decode cX7_sweep 91 = .ok (.getfield 41, 3) := by decide +kernel
theorem dX7_sweep_94 : decode cX7_sweep 94 = .ok (.iconst 1, 1) := by decide +kernel
theorem dX7_sweep_95 : decode cX7_sweep 95 = .ok (.iaload, 1) := by decide +kernel
theorem dX7_sweep_96 : decode cX7_sweep 96 = .ok (.idiv, 1) := by decide +kernel
theorem dX7_sweep_97 : decode cX7_sweep 97 = .ok (.istore_n 2, 1) := by decide +kernel
theorem dX7_sweep_98 : decode cX7_sweep 98 = .ok (.bipush 64, 2) := by decide +kernel
theorem dX7_sweep_100 : decode cX7_sweep 100 = .ok (.iload_n 1, 1) := by decide +kernel
theorem dX7_sweep_101 : decode cX7_sweep 101 = .ok (.aload_n 0, 1) := by decide +kernel
theorem dX7_sweep_102 : decode cX7_sweep 102 = .ok (.getfield 41, 3) := by decide +kernel
theorem dX7_sweep_105 : decode cX7_sweep 105 = .ok (.iconst 1, 1) := by decide +kernel
theorem dX7_sweep_106 : decode cX7_sweep 106 = .ok (.iaload, 1) := by decide +kernel
theorem dX7_sweep_107 : decode cX7_sweep 107 = .ok (.irem, 1) := by decide +kernel
theorem dX7_sweep_108 : decode cX7_sweep 108 = .ok (.iadd, 1) := by decide +kernel
theorem dX7_sweep_109 : decode cX7_sweep 109 = .ok (.istore_n 3, 1) := by decide +kernel
theorem dX7_sweep_110 : decode cX7_sweep 110 = .ok (.aload_n 0, 1) := by decide +kernel
theorem dX7_sweep_111 : decode cX7_sweep 111 = .ok (.getfield 32, 3) := by decide +kernel
theorem dX7_sweep_114 : decode cX7_sweep 114 = .ok (.aload_n 0, 1) := by decide +kernel
theorem dX7_sweep_115 : decode cX7_sweep 115 = .ok (.getfield 35, 3) := by decide +kernel
theorem dX7_sweep_118 : decode cX7_sweep 118 = .ok (.iload_n 2, 1) := by decide +kernel
theorem dX7_sweep_119 : decode cX7_sweep 119 = .ok (.iaload, 1) := by decide +kernel
theorem dX7_sweep_120 : decode cX7_sweep 120 = .ok (.iaload, 1) := by decide +kernel
theorem dX7_sweep_121 : decode cX7_sweep 121 = .ok (.aload_n 0, 1) := by decide +kernel
theorem dX7_sweep_122 : decode cX7_sweep 122 = .ok (.getfield 32, 3) := by decide +kernel
theorem dX7_sweep_125 : decode cX7_sweep 125 = .ok (.bipush 64, 2) := by decide +kernel
theorem dX7_sweep_127 : decode cX7_sweep 127 = .ok (.aload_n 0, 1) := by decide +kernel
theorem dX7_sweep_128 : decode cX7_sweep 128 = .ok (.getfield 35, 3) := by decide +kernel
theorem dX7_sweep_131 : decode cX7_sweep 131 = .ok (.iload_n 3, 1) := by decide +kernel
theorem dX7_sweep_132 : decode cX7_sweep 132 = .ok (.iaload, 1) := by decide +kernel
theorem dX7_sweep_133 : decode cX7_sweep 133 = .ok (.iadd, 1) := by decide +kernel
theorem dX7_sweep_134 : decode cX7_sweep 134 = .ok (.iaload, 1) := by decide +kernel
theorem dX7_sweep_135 : decode cX7_sweep 135 = .ok (.iand, 1) := by decide +kernel
theorem dX7_sweep_136 : decode cX7_sweep 136 = .ok (.istore 4, 2) := by decide +kernel
theorem dX7_sweep_138 : decode cX7_sweep 138 = .ok (.iconst 0, 1) := by decide +kernel
theorem dX7_sweep_139 : decode cX7_sweep 139 = .ok (.istore 5, 2) := by decide +kernel
theorem dX7_sweep_141 : decode cX7_sweep 141 = .ok (.iload 5, 2) := by decide +kernel
theorem dX7_sweep_143 : decode cX7_sweep 143 = .ok (.aload_n 0, 1) := by decide +kernel
theorem dX7_sweep_144 : decode cX7_sweep 144 = .ok (.getfield 41, 3) := by decide +kernel
theorem dX7_sweep_147 : decode cX7_sweep 147 = .ok (.iconst 2, 1) := by decide +kernel
theorem dX7_sweep_148 : decode cX7_sweep 148 = .ok (.iaload, 1) := by decide +kernel
theorem dX7_sweep_149 : decode cX7_sweep 149 = .ok (.if_icmp .ge 118, 3) := by decide +kernel
theorem dX7_sweep_152 : decode cX7_sweep 152 = .ok (.iconst 0, 1) := by decide +kernel
theorem dX7_sweep_153 : decode cX7_sweep 153 = .ok (.istore 6, 2) := by decide +kernel
theorem dX7_sweep_155 : decode cX7_sweep 155 = .ok (.iload 6, 2) := by decide +kernel
theorem dX7_sweep_157 : decode cX7_sweep 157 = .ok (.aload_n 0, 1) := by decide +kernel
theorem dX7_sweep_158 : decode cX7_sweep 158 = .ok (.getfield 41, 3) := by decide +kernel
theorem dX7_sweep_161 : decode cX7_sweep 161 = .ok (.iconst 3, 1) := by decide +kernel
theorem dX7_sweep_162 : decode cX7_sweep 162 = .ok (.iaload, 1) := by decide +kernel
theorem dX7_sweep_163 : decode cX7_sweep 163 = .ok (.if_icmp .ge 98, 3) := by decide +kernel
theorem dX7_sweep_166 : decode cX7_sweep 166 = .ok (.iload 4, 2) := by decide +kernel
theorem dX7_sweep_168 : decode cX7_sweep 168 = .ok (.aload_n 0, 1) := by decide +kernel
theorem dX7_sweep_169 : decode cX7_sweep 169 = .ok (.getfield 32, 3) := by decide +kernel
theorem dX7_sweep_172 : decode cX7_sweep 172 = .ok (.sipush 128, 3) := by decide +kernel
theorem dX7_sweep_175 : decode cX7_sweep 175 = .ok (.aload_n 0, 1) := by decide +kernel
theorem dX7_sweep_176 : decode cX7_sweep 176 = .ok (.getfield 35, 3) := by decide +kernel
theorem dX7_sweep_179 : decode cX7_sweep 179 = .ok (.sipush 128, 3) := by decide +kernel
theorem dX7_sweep_182 : decode cX7_sweep 182 = .ok (.iload 5, 2) := by decide +kernel
theorem dX7_sweep_184 : decode cX7_sweep 184 = .ok (.iadd, 1) := by decide +kernel
theorem dX7_sweep_185 : decode cX7_sweep 185 = .ok (.iaload, 1) := by decide +kernel
theorem dX7_sweep_186 : decode cX7_sweep 186 = .ok (.iadd, 1) := by decide +kernel
theorem dX7_sweep_187 : decode cX7_sweep 187 = .ok (.iaload, 1) := by decide +kernel
theorem dX7_sweep_188 : decode cX7_sweep 188 = .ok (.iand, 1) := by decide +kernel
theorem dX7_sweep_189 : decode cX7_sweep 189 = .ok (.aload_n 0, 1) := by decide +kernel
theorem dX7_sweep_190 : decode cX7_sweep 190 = .ok (.getfield 32, 3) := by decide +kernel
theorem dX7_sweep_193 : decode cX7_sweep 193 = .ok (.sipush 192, 3) := by decide +kernel
theorem dX7_sweep_196 : decode cX7_sweep 196 = .ok (.aload_n 0, 1) := by decide +kernel
theorem dX7_sweep_197 : decode cX7_sweep 197 = .ok (.getfield 35, 3) := by decide +kernel
theorem dX7_sweep_200 : decode cX7_sweep 200 = .ok (.sipush 192, 3) := by decide +kernel
theorem dX7_sweep_203 : decode cX7_sweep 203 = .ok (.iload 6, 2) := by decide +kernel
theorem dX7_sweep_205 : decode cX7_sweep 205 = .ok (.iadd, 1) := by decide +kernel
theorem dX7_sweep_206 : decode cX7_sweep 206 = .ok (.iaload, 1) := by decide +kernel
theorem dX7_sweep_207 : decode cX7_sweep 207 = .ok (.iadd, 1) := by decide +kernel
theorem dX7_sweep_208 : decode cX7_sweep 208 = .ok (.iaload, 1) := by decide +kernel
theorem dX7_sweep_209 : decode cX7_sweep 209 = .ok (.iand, 1) := by decide +kernel
theorem dX7_sweep_210 : decode cX7_sweep 210 = .ok (.istore 7, 2) := by decide +kernel
theorem dX7_sweep_212 : decode cX7_sweep 212 = .ok (.aload_n 0, 1) := by decide +kernel
theorem dX7_sweep_213 : decode cX7_sweep 213 = .ok (.iload 7, 2) := by decide +kernel
theorem dX7_sweep_215 : decode cX7_sweep 215 = .ok (.aload_n 0, 1) := by decide +kernel
theorem dX7_sweep_216 : decode cX7_sweep 216 = .ok (.getfield 38, 3) := by decide +kernel
theorem dX7_sweep_219 : decode cX7_sweep 219 = .ok (.iload_n 2, 1) := by decide +kernel
theorem dX7_sweep_220 : decode cX7_sweep 220 = .ok (.iaload, 1) := by decide +kernel
theorem dX7_sweep_221 : decode cX7_sweep 221 = .ok (.aload_n 0, 1) := by decide +kernel
theorem dX7_sweep_222 : decode cX7_sweep 222 = .ok (.getfield 38, 3) := by decide +kernel
theorem dX7_sweep_225 : decode cX7_sweep 225 = .ok (.iload_n 3, 1) := by decide +kernel
theorem dX7_sweep_226 : decode cX7_sweep 226 = .ok (.iaload, 1) := by decide +kernel
theorem dX7_sweep_227 : decode cX7_sweep 227 = .ok (.imul, 1) := by decide +kernel
theorem dX7_sweep_228 : decode cX7_sweep 228 = .ok (.aload_n 0, 1) := by decide +kernel
theorem dX7_sweep_229 : decode cX7_sweep 229 = .ok (.getfield 38, 3) := by decide +kernel
theorem dX7_sweep_232 : decode cX7_sweep 232 = .ok (.sipush 128, 3) := by decide +kernel
theorem dX7_sweep_235 : decode cX7_sweep 235 = .ok (.iload 5, 2) := by decide +kernel
theorem dX7_sweep_237 : decode cX7_sweep 237 = .ok (.iadd, 1) := by decide +kernel
theorem dX7_sweep_238 : decode cX7_sweep 238 = .ok (.iaload, 1) := by decide +kernel
theorem dX7_sweep_239 : decode cX7_sweep 239 = .ok (.imul, 1) := by decide +kernel
theorem dX7_sweep_240 : decode cX7_sweep 240 = .ok (.aload_n 0, 1) := by decide +kernel
theorem dX7_sweep_241 : decode cX7_sweep 241 = .ok (.getfield 38, 3) := by decide +kernel
theorem dX7_sweep_244 : decode cX7_sweep 244 = .ok (.sipush 192, 3) := by decide +kernel
theorem dX7_sweep_247 : decode cX7_sweep 247 = .ok (.iload 6, 2) := by decide +kernel
theorem dX7_sweep_249 : decode cX7_sweep 249 = .ok (.iadd, 1) := by decide +kernel
theorem dX7_sweep_250 : decode cX7_sweep 250 = .ok (.iaload, 1) := by decide +kernel
theorem dX7_sweep_251 : decode cX7_sweep 251 = .ok (.imul, 1) := by decide +kernel
theorem dX7_sweep_252 : decode cX7_sweep 252 = .ok (.invokevirtual 164, 3) := by decide +kernel
theorem dX7_sweep_255 : decode cX7_sweep 255 = .ok (.iinc 6 1, 3) := by decide +kernel
theorem dX7_sweep_258 : decode cX7_sweep 258 = .ok (.goto (-103), 3) := by decide +kernel
theorem dX7_sweep_261 : decode cX7_sweep 261 = .ok (.iinc 5 1, 3) := by decide +kernel
theorem dX7_sweep_264 : decode cX7_sweep 264 = .ok (.goto (-123), 3) := by decide +kernel
theorem dX7_sweep_267 : decode cX7_sweep 267 = .ok (.iinc 1 1, 3) := by decide +kernel
theorem dX7_sweep_270 : decode cX7_sweep 270 = .ok (.goto (-198), 3) := by decide +kernel
theorem dX7_sweep_273 : decode cX7_sweep 273 = .ok (.return_, 1) := by decide +kernel
theorem dX7_wins_0 : decode cX7_wins 0 = .ok (.aload_n 0, 1) := by decide +kernel
theorem dX7_wins_1 : decode cX7_wins 1 = .ok (.iload_n 1, 1) := by decide +kernel
theorem dX7_wins_2 : decode cX7_wins 2 = .ok (.invokevirtual 134, 3) := by decide +kernel
theorem dX7_wins_5 : decode cX7_wins 5 = .ok (.ifCond .ne 5, 3) := by decide +kernel
theorem dX7_wins_8 : decode cX7_wins 8 = .ok (.iconst (-1), 1) := by decide +kernel
theorem dX7_wins_9 : decode cX7_wins 9 = .ok (.ireturn, 1) := by decide +kernel
theorem dX7_wins_10 : decode cX7_wins 10 = .ok (.aload_n 0, 1) := by decide +kernel
theorem dX7_wins_11 : decode cX7_wins 11 = .ok (.invokevirtual 168, 3) := by decide +kernel
theorem dX7_wins_14 : decode cX7_wins 14 = .ok (.aload_n 0, 1) := by decide +kernel
theorem dX7_wins_15 : decode cX7_wins 15 = .ok (.getfield 44, 3) := by decide +kernel
theorem dX7_wins_18 : decode cX7_wins 18 = .ok (.iload_n 1, 1) := by decide +kernel
theorem dX7_wins_19 : decode cX7_wins 19 = .ok (.iaload, 1) := by decide +kernel
theorem dX7_wins_20 : decode cX7_wins 20 = .ok (.ireturn, 1) := by decide +kernel
theorem dX7_overlap_0 : decode cX7_overlap 0 = .ok (.aload_n 0, 1) := by decide +kernel
theorem dX7_overlap_1 : decode cX7_overlap 1 = .ok (.iload_n 1, 1) := by decide +kernel
theorem dX7_overlap_2 : decode cX7_overlap 2 = .ok (.invokevirtual 134, 3) := by decide +kernel
theorem dX7_overlap_5 : decode cX7_overlap 5 = .ok (.ifCond .eq 11, 3) := by decide +kernel
theorem dX7_overlap_8 : decode cX7_overlap 8 = .ok (.aload_n 0, 1) := by decide +kernel
theorem dX7_overlap_9 : decode cX7_overlap 9 = .ok (.iload_n 2, 1) := by decide +kernel
theorem dX7_overlap_10 : decode cX7_overlap 10 = .ok (.invokevirtual 134, 3) := by decide +kernel
theorem dX7_overlap_13 : decode cX7_overlap 13 = .ok (.ifCond .ne 5, 3) := by decide +kernel
theorem dX7_overlap_16 : decode cX7_overlap 16 = .ok (.iconst (-1), 1) := by decide +kernel
theorem dX7_overlap_17 : decode cX7_overlap 17 = .ok (.ireturn, 1) := by decide +kernel
theorem dX7_overlap_18 : decode cX7_overlap 18 = .ok (.iconst 1, 1) := by decide +kernel
theorem dX7_overlap_19 : decode cX7_overlap 19 = .ok (.istore_n 3, 1) := by decide +kernel
theorem dX7_overlap_20 : decode cX7_overlap 20 = .ok (.iconst 0, 1) := by decide +kernel
theorem dX7_overlap_21 : decode cX7_overlap 21 = .ok (.istore 4, 2) := by decide +kernel
theorem dX7_overlap_23 : decode cX7_overlap 23 = .ok (.iload 4, 2) := by decide +kernel
theorem dX7_overlap_25 : decode cX7_overlap 25 = .ok (.iconst 4, 1) := by decide +kernel
theorem dX7_overlap_26 : decode cX7_overlap 26 = .ok (.if_icmp .ge 106, 3) := by decide +kernel
theorem dX7_overlap_29 : decode cX7_overlap 29 = .ok (.iconst 0, 1) := by decide +kernel
theorem dX7_overlap_30 : decode cX7_overlap 30 = .ok (.istore 5, 2) := by decide +kernel
theorem dX7_overlap_32 : decode cX7_overlap 32 = .ok (.iconst 0, 1) := by decide +kernel
theorem dX7_overlap_33 : decode cX7_overlap 33 = .ok (.istore 6, 2) := by decide +kernel
theorem dX7_overlap_35 : decode cX7_overlap 35 = .ok (.iload 6, 2) := by decide +kernel
theorem dX7_overlap_37 : decode cX7_overlap 37 = .ok (.iload 4, 2) := by decide +kernel
theorem dX7_overlap_39 : decode cX7_overlap 39 = .ok (.invokestatic 124, 3) := by decide +kernel
theorem dX7_overlap_42 : decode cX7_overlap 42 = .ok (.if_icmp .gt 79, 3) := by decide +kernel
theorem dX7_overlap_45 : decode cX7_overlap 45 = .ok (.iload 5, 2) := by decide +kernel
theorem dX7_overlap_47 : decode cX7_overlap 47 = .ok (.iload 6, 2) := by decide +kernel
theorem dX7_overlap_49 : decode cX7_overlap 49 = .ok (.aload_n 0, 1) := by decide +kernel
theorem dX7_overlap_50 : decode cX7_overlap 50 = .ok (.getfield 7, 3) := by decide +kernel
theorem dX7_overlap_53 : decode cX7_overlap 53 = .ok (.iconst 4, 1) := by decide +kernel
theorem dX7_overlap_54 : decode cX7_overlap 54 = .ok (.iload_n 1, 1) := by decide +kernel
theorem dX7_overlap_55 : decode cX7_overlap 55 = .ok (.imul, 1) := by decide +kernel
theorem dX7_overlap_56 : decode cX7_overlap 56 = .ok (.iload 4, 2) := by decide +kernel
theorem dX7_overlap_58 : decode cX7_overlap 58 = .ok (.iadd, 1) := by decide +kernel
theorem dX7_overlap_59 : decode cX7_overlap 59 = .ok (.iaload, 1) := by decide +kernel
theorem dX7_overlap_60 : decode cX7_overlap 60 = .ok (.aload_n 0, 1) := by decide +kernel
theorem dX7_overlap_61 : decode cX7_overlap 61 = .ok (.getfield 13, 3) := by decide +kernel
theorem dX7_overlap_64 : decode cX7_overlap 64 = .ok (.iconst 4, 1) := by decide +kernel
theorem dX7_overlap_65 : decode cX7_overlap 65 = .ok (.iload_n 1, 1) := by decide +kernel
theorem dX7_overlap_66 : decode cX7_overlap 66 = .ok (.imul, 1) := by decide +kernel
theorem dX7_overlap_67 : decode cX7_overlap 67 = .ok (.iload 4, 2) := by decide +kernel
theorem dX7_overlap_69 : decode cX7_overlap 69 = .ok (.iadd, 1) := by decide +kernel
theorem dX7_overlap_70 : decode cX7_overlap 70 = .ok (.iaload, 1) := by decide +kernel
theorem dX7_overlap_71 : decode cX7_overlap 71 = .ok (.invokestatic 100, 3) := by decide +kernel
theorem dX7_overlap_74 : decode cX7_overlap 74 = .ok (.ifCond .eq 37, 3) := by decide +kernel
theorem dX7_overlap_77 : decode cX7_overlap 77 = .ok (.iload 6, 2) := by decide +kernel
theorem dX7_overlap_79 : decode cX7_overlap 79 = .ok (.aload_n 0, 1) := by decide +kernel
theorem dX7_overlap_80 : decode cX7_overlap 80 = .ok (.getfield 7, 3) := by decide +kernel
theorem dX7_overlap_83 : decode cX7_overlap 83 = .ok (.iconst 4, 1) := by decide +kernel
theorem dX7_overlap_84 : decode cX7_overlap 84 = .ok (.iload_n 2, 1) := by decide +kernel
theorem dX7_overlap_85 : decode cX7_overlap 85 = .ok (.imul, 1) := by decide +kernel
theorem dX7_overlap_86 : decode cX7_overlap 86 = .ok (.iload 4, 2) := by decide +kernel
theorem dX7_overlap_88 : decode cX7_overlap 88 = .ok (.iadd, 1) := by decide +kernel
theorem dX7_overlap_89 : decode cX7_overlap 89 = .ok (.iaload, 1) := by decide +kernel
theorem dX7_overlap_90 : decode cX7_overlap 90 = .ok (.aload_n 0, 1) := by decide +kernel
theorem dX7_overlap_91 : decode cX7_overlap 91 = .ok (.getfield 13, 3) := by decide +kernel
theorem dX7_overlap_94 : decode cX7_overlap 94 = .ok (.iconst 4, 1) := by decide +kernel
theorem dX7_overlap_95 : decode cX7_overlap 95 = .ok (.iload_n 2, 1) := by decide +kernel
theorem dX7_overlap_96 : decode cX7_overlap 96 = .ok (.imul, 1) := by decide +kernel
theorem dX7_overlap_97 : decode cX7_overlap 97 = .ok (.iload 4, 2) := by decide +kernel
theorem dX7_overlap_99 : decode cX7_overlap 99 = .ok (.iadd, 1) := by decide +kernel
theorem dX7_overlap_100 : decode cX7_overlap 100 = .ok (.iaload, 1) := by decide +kernel
theorem dX7_overlap_101 : decode cX7_overlap 101 = .ok (.invokestatic 100, 3) := by decide +kernel
theorem dX7_overlap_104 : decode cX7_overlap 104 = .ok (.ifCond .eq 7, 3) := by decide +kernel
theorem dX7_overlap_107 : decode cX7_overlap 107 = .ok (.iconst 1, 1) := by decide +kernel
theorem dX7_overlap_108 : decode cX7_overlap 108 = .ok (.goto 4, 3) := by decide +kernel
theorem dX7_overlap_111 : decode cX7_overlap 111 = .ok (.iconst 0, 1) := by decide +kernel
theorem dX7_overlap_112 : decode cX7_overlap 112 = .ok (.iadd, 1) := by decide +kernel
theorem dX7_overlap_113 : decode cX7_overlap 113 = .ok (.istore 5, 2) := by decide +kernel
theorem dX7_overlap_115 : decode cX7_overlap 115 = .ok (.iinc 6 1, 3) := by decide +kernel
theorem dX7_overlap_118 : decode cX7_overlap 118 = .ok (.goto (-83), 3) := by decide +kernel
theorem dX7_overlap_121 : decode cX7_overlap 121 = .ok (.iload_n 3, 1) := by decide +kernel
theorem dX7_overlap_122 : decode cX7_overlap 122 = .ok (.iload 5, 2) := by decide +kernel
theorem dX7_overlap_124 : decode cX7_overlap 124 = .ok (.imul, 1) := by decide +kernel
theorem dX7_overlap_125 : decode cX7_overlap 125 = .ok (.istore_n 3, 1) := by decide +kernel
theorem dX7_overlap_126 : decode cX7_overlap 126 = .ok (.iinc 4 1, 3) := by decide +kernel
theorem dX7_overlap_129 : decode cX7_overlap 129 = .ok (.goto (-106), 3) := by decide +kernel
theorem dX7_overlap_132 : decode cX7_overlap 132 = .ok (.iload_n 3, 1) := by decide +kernel
theorem dX7_overlap_133 : decode cX7_overlap 133 = .ok (.ireturn, 1) := by decide +kernel
theorem dX7_isWithin_0 : decode cX7_isWithin 0 = .ok (.iconst 1, 1) := by decide +kernel
theorem dX7_isWithin_1 : decode cX7_isWithin 1 = .ok (.istore_n 3, 1) := by decide +kernel
theorem dX7_isWithin_2 : decode cX7_isWithin 2 = .ok (.iconst 0, 1) := by decide +kernel
theorem dX7_isWithin_3 : decode cX7_isWithin 3 = .ok (.istore 4, 2) := by decide +kernel
theorem dX7_isWithin_5 : decode cX7_isWithin 5 = .ok (.iload 4, 2) := by decide +kernel
theorem dX7_isWithin_7 : decode cX7_isWithin 7 = .ok (.iconst 4, 1) := by decide +kernel
theorem dX7_isWithin_8 : decode cX7_isWithin 8 = .ok (.if_icmp .ge 69, 3) := by decide +kernel
theorem dX7_isWithin_11 : decode cX7_isWithin 11 = .ok (.iload_n 3, 1) := by decide +kernel
theorem dX7_isWithin_12 : decode cX7_isWithin 12 = .ok (.ifCond .eq 57, 3) := by decide +kernel
theorem dX7_isWithin_15 : decode cX7_isWithin 15 = .ok (.aload_n 0, 1) := by decide +kernel
theorem dX7_isWithin_16 : decode cX7_isWithin 16 = .ok (.getfield 7, 3) := by decide +kernel
theorem dX7_isWithin_19 : decode cX7_isWithin 19 = .ok (.iconst 4, 1) := by decide +kernel
theorem dX7_isWithin_20 : decode cX7_isWithin 20 = .ok (.iload_n 2, 1) := by decide +kernel
theorem dX7_isWithin_21 : decode cX7_isWithin 21 = .ok (.imul, 1) := by decide +kernel
theorem dX7_isWithin_22 : decode cX7_isWithin 22 = .ok (.iload 4, 2) := by decide +kernel
theorem dX7_isWithin_24 : decode cX7_isWithin 24 = .ok (.iadd, 1) := by decide +kernel
theorem dX7_isWithin_25 : decode cX7_isWithin 25 = .ok (.iaload, 1) := by decide +kernel
theorem dX7_isWithin_26 : decode cX7_isWithin 26 = .ok (.aload_n 0, 1) := by decide +kernel
theorem dX7_isWithin_27 : decode cX7_isWithin 27 = .ok (.getfield 7, 3) := by decide +kernel
theorem dX7_isWithin_30 : decode cX7_isWithin 30 = .ok (.iconst 4, 1) := by decide +kernel
theorem dX7_isWithin_31 : decode cX7_isWithin 31 = .ok (.iload_n 1, 1) := by decide +kernel
theorem dX7_isWithin_32 : decode cX7_isWithin 32 = .ok (.imul, 1) := by decide +kernel
theorem dX7_isWithin_33 : decode cX7_isWithin 33 = .ok (.iload 4, 2) := by decide +kernel
theorem dX7_isWithin_35 : decode cX7_isWithin 35 = .ok (.iadd, 1) := by decide +kernel
theorem dX7_isWithin_36 : decode cX7_isWithin 36 = .ok (.iaload, 1) := by decide +kernel
theorem dX7_isWithin_37 : decode cX7_isWithin 37 = .ok (.if_icmp .gt 32, 3) := by decide +kernel
theorem dX7_isWithin_40 : decode cX7_isWithin 40 = .ok (.aload_n 0, 1) := by decide +kernel
theorem dX7_isWithin_41 : decode cX7_isWithin 41 = .ok (.getfield 13, 3) := by decide +kernel
theorem dX7_isWithin_44 : decode cX7_isWithin 44 = .ok (.iconst 4, 1) := by decide +kernel
theorem dX7_isWithin_45 : decode cX7_isWithin 45 = .ok (.iload_n 2, 1) := by decide +kernel
theorem dX7_isWithin_46 : decode cX7_isWithin 46 = .ok (.imul, 1) := by decide +kernel
theorem dX7_isWithin_47 : decode cX7_isWithin 47 = .ok (.iload 4, 2) := by decide +kernel
theorem dX7_isWithin_49 : decode cX7_isWithin 49 = .ok (.iadd, 1) := by decide +kernel
theorem dX7_isWithin_50 : decode cX7_isWithin 50 = .ok (.iaload, 1) := by decide +kernel
theorem dX7_isWithin_51 : decode cX7_isWithin 51 = .ok (.aload_n 0, 1) := by decide +kernel
theorem dX7_isWithin_52 : decode cX7_isWithin 52 = .ok (.getfield 13, 3) := by decide +kernel
theorem dX7_isWithin_55 : decode cX7_isWithin 55 = .ok (.iconst 4, 1) := by decide +kernel
theorem dX7_isWithin_56 : decode cX7_isWithin 56 = .ok (.iload_n 1, 1) := by decide +kernel
theorem dX7_isWithin_57 : decode cX7_isWithin 57 = .ok (.imul, 1) := by decide +kernel
theorem dX7_isWithin_58 : decode cX7_isWithin 58 = .ok (.iload 4, 2) := by decide +kernel
theorem dX7_isWithin_60 : decode cX7_isWithin 60 = .ok (.iadd, 1) := by decide +kernel
theorem dX7_isWithin_61 : decode cX7_isWithin 61 = .ok (.iaload, 1) := by decide +kernel
theorem dX7_isWithin_62 : decode cX7_isWithin 62 = .ok (.if_icmp .lt 7, 3) := by decide +kernel
theorem dX7_isWithin_65 : decode cX7_isWithin 65 = .ok (.iconst 1, 1) := by decide +kernel
theorem dX7_isWithin_66 : decode cX7_isWithin 66 = .ok (.goto 4, 3) := by decide +kernel
theorem dX7_isWithin_69 : decode cX7_isWithin 69 = .ok (.iconst 0, 1) := by decide +kernel
theorem dX7_isWithin_70 : decode cX7_isWithin 70 = .ok (.istore_n 3, 1) := by decide +kernel
theorem dX7_isWithin_71 : decode cX7_isWithin 71 = .ok (.iinc 4 1, 3) := by decide +kernel
theorem dX7_isWithin_74 : decode cX7_isWithin 74 = .ok (.goto (-69), 3) := by decide +kernel
theorem dX7_isWithin_77 : decode cX7_isWithin 77 = .ok (.iload_n 3, 1) := by decide +kernel
theorem dX7_isWithin_78 : decode cX7_isWithin 78 = .ok (.ireturn, 1) := by decide +kernel
theorem dX7_coverOf_0 : decode cX7_coverOf 0 = .ok (.bipush (-6), 2) := by decide +kernel
theorem dX7_coverOf_2 : decode cX7_coverOf 2 = .ok (.istore_n 2, 1) := by decide +kernel
theorem dX7_coverOf_3 : decode cX7_coverOf 3 = .ok (.iconst 0, 1) := by decide +kernel
theorem dX7_coverOf_4 : decode cX7_coverOf 4 = .ok (.istore_n 3, 1) := by decide +kernel
theorem dX7_coverOf_5 : decode cX7_coverOf 5 = .ok (.iload_n 3, 1) := by decide +kernel
theorem dX7_coverOf_6 : decode cX7_coverOf 6 = .ok (.aload_n 0, 1) := by decide +kernel
theorem dX7_coverOf_7 : decode cX7_coverOf 7 = .ok (.getfield 104, 3) := by decide +kernel
theorem dX7_coverOf_10 : decode cX7_coverOf 10 = .ok (.if_icmp .ge 42, 3) := by decide +kernel
theorem dX7_coverOf_13 : decode cX7_coverOf 13 = .ok (.aload_n 0, 1) := by decide +kernel
theorem dX7_coverOf_14 : decode cX7_coverOf 14 = .ok (.iload_n 3, 1) := by decide +kernel
theorem dX7_coverOf_15 : decode cX7_coverOf 15 = .ok (.iload_n 1, 1) := by decide +kernel
theorem dX7_coverOf_16 : decode cX7_coverOf 16 = .ok (.invokevirtual 137, 3) := by decide +kernel
theorem dX7_coverOf_19 : decode cX7_coverOf 19 = .ok (.ifCond .eq 27, 3) := by decide +kernel
theorem dX7_coverOf_22 : decode cX7_coverOf 22 = .ok (.aload_n 0, 1) := by decide +kernel
theorem dX7_coverOf_23 : decode cX7_coverOf 23 = .ok (.iload_n 1, 1) := by decide +kernel
theorem dX7_coverOf_24 : decode cX7_coverOf 24 = .ok (.iload_n 3, 1) := by decide +kernel
theorem dX7_coverOf_25 : decode cX7_coverOf 25 = .ok (.invokevirtual 171, 3) := by decide +kernel
theorem dX7_coverOf_28 : decode cX7_coverOf 28 = .ok (.ifCond .eq 18, 3) := by decide +kernel
theorem dX7_coverOf_31 : decode cX7_coverOf 31 = .ok (.iload_n 2, 1) := by decide +kernel
theorem dX7_coverOf_32 : decode cX7_coverOf 32 = .ok (.ifCond .lt 12, 3) := by decide +kernel
theorem dX7_coverOf_35 : decode cX7_coverOf 35 = .ok (.aload_n 0, 1) := by decide +kernel
theorem dX7_coverOf_36 : decode cX7_coverOf 36 = .ok (.iload_n 3, 1) := by decide +kernel
theorem dX7_coverOf_37 : decode cX7_coverOf 37 = .ok (.iload_n 2, 1) := by decide +kernel
theorem dX7_coverOf_38 : decode cX7_coverOf 38 = .ok (.invokevirtual 137, 3) := by decide +kernel
theorem dX7_coverOf_41 : decode cX7_coverOf 41 = .ok (.ifCond .eq 5, 3) := by decide +kernel
theorem dX7_coverOf_44 : decode cX7_coverOf 44 = .ok (.iload_n 3, 1) := by decide +kernel
theorem dX7_coverOf_45 : decode cX7_coverOf 45 = .ok (.istore_n 2, 1) := by decide +kernel
theorem dX7_coverOf_46 : decode cX7_coverOf 46 = .ok (.iinc 3 1, 3) := by decide +kernel
theorem dX7_coverOf_49 : decode cX7_coverOf 49 = .ok (.goto (-44), 3) := by decide +kernel
theorem dX7_coverOf_52 : decode cX7_coverOf 52 = .ok (.iload_n 2, 1) := by decide +kernel
theorem dX7_coverOf_53 : decode cX7_coverOf 53 = .ok (.ireturn, 1) := by decide +kernel
theorem dX7_covered_0 : decode cX7_covered 0 = .ok (.aload_n 0, 1) := by decide +kernel
theorem dX7_covered_1 : decode cX7_covered 1 = .ok (.iload_n 1, 1) := by decide +kernel
theorem dX7_covered_2 : decode cX7_covered 2 = .ok (.invokevirtual 134, 3) := by decide +kernel
theorem dX7_covered_5 : decode cX7_covered 5 = .ok (.ifCond .eq 11, 3) := by decide +kernel
theorem dX7_covered_8 : decode cX7_covered 8 = .ok (.aload_n 0, 1) := by decide +kernel
theorem dX7_covered_9 : decode cX7_covered 9 = .ok (.iload_n 1, 1) := by decide +kernel
theorem dX7_covered_10 : decode cX7_covered 10 = .ok (.invokevirtual 174, 3) := by decide +kernel
theorem dX7_covered_13 : decode cX7_covered 13 = .ok (.goto 4, 3) := by decide +kernel
theorem dX7_covered_16 : decode cX7_covered 16 = .ok (.iconst (-1), 1) := by decide +kernel
theorem dX7_covered_17 : decode cX7_covered 17 = .ok (.ireturn, 1) := by decide +kernel
theorem dX7_idle_0 : decode cX7_idle 0 = .ok (.aload_n 0, 1) := by decide +kernel
theorem dX7_idle_1 : decode cX7_idle 1 = .ok (.iload_n 1, 1) := by decide +kernel
theorem dX7_idle_2 : decode cX7_idle 2 = .ok (.invokevirtual 134, 3) := by decide +kernel
theorem dX7_idle_5 : decode cX7_idle 5 = .ok (.ifCond .ne 5, 3) := by decide +kernel
theorem dX7_idle_8 : decode cX7_idle 8 = .ok (.iconst (-1), 1) := by decide +kernel
theorem dX7_idle_9 : decode cX7_idle 9 = .ok (.ireturn, 1) := by decide +kernel
theorem dX7_idle_10 : decode cX7_idle 10 = .ok (.aload_n 0, 1) := by decide +kernel
theorem dX7_idle_11 : decode cX7_idle 11 = .ok (.invokevirtual 168, 3) := by decide +kernel
theorem dX7_idle_14 : decode cX7_idle 14 = .ok (.aload_n 0, 1) := by decide +kernel
theorem dX7_idle_15 : decode cX7_idle 15 = .ok (.getfield 47, 3) := by decide +kernel
theorem dX7_idle_18 : decode cX7_idle 18 = .ok (.iload_n 1, 1) := by decide +kernel
theorem dX7_idle_19 : decode cX7_idle 19 = .ok (.baload, 1) := by decide +kernel
theorem dX7_idle_20 : decode cX7_idle 20 = .ok (.ifCond .eq 7, 3) := by decide +kernel
theorem dX7_idle_23 : decode cX7_idle 23 = .ok (.iconst 0, 1) := by decide +kernel
theorem dX7_idle_24 : decode cX7_idle 24 = .ok (.goto 4, 3) := by decide +kernel
theorem dX7_idle_27 : decode cX7_idle 27 = .ok (.iconst 1, 1) := by decide +kernel
theorem dX7_idle_28 : decode cX7_idle 28 = .ok (.ireturn, 1) := by decide +kernel
theorem dX7_packets_0 : decode cX7_packets 0 = .ok (.iload_n 1, 1) := by decide +kernel
theorem dX7_packets_1 : decode cX7_packets 1 = .ok (.iconst (-1), 1) := by decide +kernel
theorem dX7_packets_2 : decode cX7_packets 2 = .ok (.bipush 9, 2) := by decide +kernel
theorem dX7_packets_4 : decode cX7_packets 4 = .ok (.invokestatic 100, 3) := by decide +kernel
theorem dX7_packets_7 : decode cX7_packets 7 = .ok (.ifCond .ne 6, 3) := by decide +kernel
theorem dX7_packets_10 : decode cX7_packets 10 = .ok (.bipush (-2), 2) := by decide +kernel
theorem dX7_packets_12 : decode cX7_packets 12 = .ok (.ireturn, 1) := by decide +kernel
theorem dX7_packets_13 : decode cX7_packets 13 = .ok (.aload_n 0, 1) := by decide +kernel
theorem dX7_packets_14 : decode cX7_packets 14 = .ok (.invokevirtual 168, 3) := by decide +kernel
theorem dX7_packets_17 : decode cX7_packets 17 = .ok (.aload_n 0, 1) := by decide +kernel
theorem dX7_packets_18 : decode cX7_packets 18 = .ok (.getfield 51, 3) := by decide +kernel
theorem dX7_packets_21 : decode cX7_packets 21 = .ok (.iload_n 1, 1) := by decide +kernel
theorem dX7_packets_22 : decode cX7_packets 22 = .ok (.ifCond .ge 8, 3) := by decide +kernel
theorem dX7_packets_25 : decode cX7_packets 25 = .ok (.bipush 10, 2) := by decide +kernel
theorem dX7_packets_27 : decode cX7_packets 27 = .ok (.goto 4, 3) := by decide +kernel
theorem dX7_packets_30 : decode cX7_packets 30 = .ok (.iload_n 1, 1) := by decide +kernel
theorem dX7_packets_31 : decode cX7_packets 31 = .ok (.iaload, 1) := by decide +kernel
theorem dX7_packets_32 : decode cX7_packets 32 = .ok (.ireturn, 1) := by decide +kernel
theorem dX7_lengthAt_0 : decode cX7_lengthAt 0 = .ok (.iconst 1, 1) := by decide +kernel
theorem dX7_lengthAt_1 : decode cX7_lengthAt 1 = .ok (.istore_n 3, 1) := by decide +kernel
theorem dX7_lengthAt_2 : decode cX7_lengthAt 2 = .ok (.iload_n 0, 1) := by decide +kernel
theorem dX7_lengthAt_3 : decode cX7_lengthAt 3 = .ok (.invokestatic 96, 3) := by decide +kernel
theorem dX7_lengthAt_6 : decode cX7_lengthAt 6 = .ok (.istore 4, 2) := by decide +kernel
theorem dX7_lengthAt_8 : decode cX7_lengthAt 8 = .ok (.iload 4, 2) := by decide +kernel
theorem dX7_lengthAt_10 : decode cX7_lengthAt 10 = .ok (.ifCond .le 32, 3) := by decide +kernel
theorem dX7_lengthAt_13 : decode cX7_lengthAt 13 = .ok (.iload_n 1, 1) := by decide +kernel
theorem dX7_lengthAt_14 : decode cX7_lengthAt 14 = .ok (.iconst 2, 1) := by decide +kernel
theorem dX7_lengthAt_15 : decode cX7_lengthAt 15 = .ok (.iload_n 3, 1) := by decide +kernel
theorem dX7_lengthAt_16 : decode cX7_lengthAt 16 = .ok (.imul, 1) := by decide +kernel
theorem dX7_lengthAt_17 : decode cX7_lengthAt 17 = .ok (.irem, 1) := by decide +kernel
theorem dX7_lengthAt_18 : decode cX7_lengthAt 18 = .ok (.ifCond .ne 24, 3) := by decide +kernel
theorem dX7_lengthAt_21 : decode cX7_lengthAt 21 = .ok (.iload_n 1, 1) := by decide +kernel
theorem dX7_lengthAt_22 : decode cX7_lengthAt 22 = .ok (.iconst 2, 1) := by decide +kernel
theorem dX7_lengthAt_23 : decode cX7_lengthAt 23 = .ok (.iload_n 3, 1) := by decide +kernel
theorem dX7_lengthAt_24 : decode cX7_lengthAt 24 = .ok (.imul, 1) := by decide +kernel
theorem dX7_lengthAt_25 : decode cX7_lengthAt 25 = .ok (.iadd, 1) := by decide +kernel
theorem dX7_lengthAt_26 : decode cX7_lengthAt 26 = .ok (.iconst 1, 1) := by decide +kernel
theorem dX7_lengthAt_27 : decode cX7_lengthAt 27 = .ok (.isub, 1) := by decide +kernel
theorem dX7_lengthAt_28 : decode cX7_lengthAt 28 = .ok (.iload_n 2, 1) := by decide +kernel
theorem dX7_lengthAt_29 : decode cX7_lengthAt 29 = .ok (.if_icmp .gt 13, 3) := by decide +kernel
theorem dX7_lengthAt_32 : decode cX7_lengthAt 32 = .ok (.iload_n 3, 1) := by decide +kernel
theorem dX7_lengthAt_33 : decode cX7_lengthAt 33 = .ok (.iconst 2, 1) := by decide +kernel
theorem dX7_lengthAt_34 : decode cX7_lengthAt 34 = .ok (.imul, 1) := by decide +kernel
theorem dX7_lengthAt_35 : decode cX7_lengthAt 35 = .ok (.istore_n 3, 1) := by decide +kernel
theorem dX7_lengthAt_36 : decode cX7_lengthAt 36 = .ok (.iinc 4 (-1), 3) := by decide +kernel
theorem dX7_lengthAt_39 : decode cX7_lengthAt 39 = .ok (.goto (-31), 3) := by decide +kernel
theorem dX7_lengthAt_42 : decode cX7_lengthAt 42 = .ok (.iload 4, 2) := by decide +kernel
theorem dX7_lengthAt_44 : decode cX7_lengthAt 44 = .ok (.ireturn, 1) := by decide +kernel
theorem dX7_valueOf_0 : decode cX7_valueOf 0 = .ok (.aload_n 0, 1) := by decide +kernel
theorem dX7_valueOf_1 : decode cX7_valueOf 1 = .ok (.getfield 7, 3) := by decide +kernel
theorem dX7_valueOf_4 : decode cX7_valueOf 4 = .ok (.iconst 4, 1) := by decide +kernel
theorem dX7_valueOf_5 : decode cX7_valueOf 5 = .ok (.iload_n 1, 1) := by decide +kernel
theorem dX7_valueOf_6 : decode cX7_valueOf 6 = .ok (.imul, 1) := by decide +kernel
theorem dX7_valueOf_7 : decode cX7_valueOf 7 = .ok (.iload_n 2, 1) := by decide +kernel
theorem dX7_valueOf_8 : decode cX7_valueOf 8 = .ok (.iadd, 1) := by decide +kernel
theorem dX7_valueOf_9 : decode cX7_valueOf 9 = .ok (.iaload, 1) := by decide +kernel
theorem dX7_valueOf_10 : decode cX7_valueOf 10 = .ok (.istore 4, 2) := by decide +kernel
theorem dX7_valueOf_12 : decode cX7_valueOf 12 = .ok (.aload_n 0, 1) := by decide +kernel
theorem dX7_valueOf_13 : decode cX7_valueOf 13 = .ok (.getfield 13, 3) := by decide +kernel
theorem dX7_valueOf_16 : decode cX7_valueOf 16 = .ok (.iconst 4, 1) := by decide +kernel
theorem dX7_valueOf_17 : decode cX7_valueOf 17 = .ok (.iload_n 1, 1) := by decide +kernel
theorem dX7_valueOf_18 : decode cX7_valueOf 18 = .ok (.imul, 1) := by decide +kernel
theorem dX7_valueOf_19 : decode cX7_valueOf 19 = .ok (.iload_n 2, 1) := by decide +kernel
theorem dX7_valueOf_20 : decode cX7_valueOf 20 = .ok (.iadd, 1) := by decide +kernel
theorem dX7_valueOf_21 : decode cX7_valueOf 21 = .ok (.iaload, 1) := by decide +kernel
theorem dX7_valueOf_22 : decode cX7_valueOf 22 = .ok (.istore 5, 2) := by decide +kernel
theorem dX7_valueOf_24 : decode cX7_valueOf 24 = .ok (.iconst 0, 1) := by decide +kernel
theorem dX7_valueOf_25 : decode cX7_valueOf 25 = .ok (.istore 6, 2) := by decide +kernel
theorem dX7_valueOf_27 : decode cX7_valueOf 27 = .ok (.iload 6, 2) := by decide +kernel
theorem dX7_valueOf_29 : decode cX7_valueOf 29 = .ok (.iload_n 3, 1) := by decide +kernel
theorem dX7_valueOf_30 : decode cX7_valueOf 30 = .ok (.if_icmp .ge 36, 3) := by decide +kernel
theorem dX7_valueOf_33 : decode cX7_valueOf 33 = .ok (.iload 4, 2) := by decide +kernel
theorem dX7_valueOf_35 : decode cX7_valueOf 35 = .ok (.iload 5, 2) := by decide +kernel
theorem dX7_valueOf_37 : decode cX7_valueOf 37 = .ok (.if_icmp .gt 29, 3) := by decide +kernel
theorem dX7_valueOf_40 : decode cX7_valueOf 40 = .ok (.iload 4, 2) := by decide +kernel
theorem dX7_valueOf_42 : decode cX7_valueOf 42 = .ok (.iconst 1, 1) := by decide +kernel
theorem dX7_valueOf_43 : decode cX7_valueOf 43 = .ok (.iload_n 2, 1) := by decide +kernel
theorem dX7_valueOf_44 : decode cX7_valueOf 44 = .ok (.invokestatic 96, 3) := by decide +kernel
theorem dX7_valueOf_47 : decode cX7_valueOf 47 = .ok (.iload_n 2, 1) := by decide +kernel
theorem dX7_valueOf_48 : decode cX7_valueOf 48 = .ok (.iload 4, 2) := by decide +kernel
theorem dX7_valueOf_50 : decode cX7_valueOf 50 = .ok (.iload 5, 2) := by decide +kernel
theorem dX7_valueOf_52 : decode cX7_valueOf 52 = .ok (.invokestatic 177, 3) := by decide +kernel
theorem dX7_valueOf_55 : decode cX7_valueOf 55 = .ok (.isub, 1) := by decide +kernel
theorem dX7_valueOf_56 : decode cX7_valueOf 56 = .ok (.ishl, 1) := by decide +kernel
theorem dX7_valueOf_57 : decode cX7_valueOf 57 = .ok (.iadd, 1) := by decide +kernel
theorem dX7_valueOf_58 : decode cX7_valueOf 58 = .ok (.istore 4, 2) := by decide +kernel
theorem dX7_valueOf_60 : decode cX7_valueOf 60 = .ok (.iinc 6 1, 3) := by decide +kernel
theorem dX7_valueOf_63 : decode cX7_valueOf 63 = .ok (.goto (-36), 3) := by decide +kernel
theorem dX7_valueOf_66 : decode cX7_valueOf 66 = .ok (.iload 4, 2) := by decide +kernel
theorem dX7_valueOf_68 : decode cX7_valueOf 68 = .ok (.iload 5, 2) := by decide +kernel
theorem dX7_valueOf_70 : decode cX7_valueOf 70 = .ok (.if_icmp .gt 8, 3) := by decide +kernel
theorem dX7_valueOf_73 : decode cX7_valueOf 73 = .ok (.iload 4, 2) := by decide +kernel
theorem dX7_valueOf_75 : decode cX7_valueOf 75 = .ok (.goto 5, 3) := by decide +kernel
theorem dX7_valueOf_78 : decode cX7_valueOf 78 = .ok (.bipush (-6), 2) := by decide +kernel
theorem dX7_valueOf_80 : decode cX7_valueOf 80 = .ok (.ireturn, 1) := by decide +kernel
theorem dX7_prefixes_0 : decode cX7_prefixes 0 = .ok (.iconst 0, 1) := by decide +kernel
theorem dX7_prefixes_1 : decode cX7_prefixes 1 = .ok (.istore_n 3, 1) := by decide +kernel
theorem dX7_prefixes_2 : decode cX7_prefixes 2 = .ok (.aload_n 0, 1) := by decide +kernel
theorem dX7_prefixes_3 : decode cX7_prefixes 3 = .ok (.iload_n 1, 1) := by decide +kernel
theorem dX7_prefixes_4 : decode cX7_prefixes 4 = .ok (.iload_n 2, 1) := by decide +kernel
theorem dX7_prefixes_5 : decode cX7_prefixes 5 = .ok (.iload_n 3, 1) := by decide +kernel
theorem dX7_prefixes_6 : decode cX7_prefixes 6 = .ok (.invokevirtual 180, 3) := by decide +kernel
theorem dX7_prefixes_9 : decode cX7_prefixes 9 = .ok (.ifCond .lt 9, 3) := by decide +kernel
theorem dX7_prefixes_12 : decode cX7_prefixes 12 = .ok (.iinc 3 1, 3) := by decide +kernel
theorem dX7_prefixes_15 : decode cX7_prefixes 15 = .ok (.goto (-13), 3) := by decide +kernel
theorem dX7_prefixes_18 : decode cX7_prefixes 18 = .ok (.iload_n 3, 1) := by decide +kernel
theorem dX7_prefixes_19 : decode cX7_prefixes 19 = .ok (.ireturn, 1) := by decide +kernel
theorem dX7_split_0 : decode cX7_split 0 = .ok (.aload_n 0, 1) := by decide +kernel
theorem dX7_split_1 : decode cX7_split 1 = .ok (.iload_n 1, 1) := by decide +kernel
theorem dX7_split_2 : decode cX7_split 2 = .ok (.invokevirtual 134, 3) := by decide +kernel
theorem dX7_split_5 : decode cX7_split 5 = .ok (.ifCond .eq 19, 3) := by decide +kernel
theorem dX7_split_8 : decode cX7_split 8 = .ok (.iload_n 2, 1) := by decide +kernel
theorem dX7_split_9 : decode cX7_split 9 = .ok (.invokestatic 127, 3) := by decide +kernel
theorem dX7_split_12 : decode cX7_split 12 = .ok (.ifCond .eq 12, 3) := by decide +kernel
theorem dX7_split_15 : decode cX7_split 15 = .ok (.aload_n 0, 1) := by decide +kernel
theorem dX7_split_16 : decode cX7_split 16 = .ok (.iload_n 1, 1) := by decide +kernel
theorem dX7_split_17 : decode cX7_split 17 = .ok (.iload_n 2, 1) := by decide +kernel
theorem dX7_split_18 : decode cX7_split 18 = .ok (.invokevirtual 183, 3) := by decide +kernel
theorem dX7_split_21 : decode cX7_split 21 = .ok (.goto 4, 3) := by decide +kernel
theorem dX7_split_24 : decode cX7_split 24 = .ok (.iconst (-1), 1) := by decide +kernel
theorem dX7_split_25 : decode cX7_split 25 = .ok (.ireturn, 1) := by decide +kernel
theorem dX7_prefix_0 : decode cX7_prefix 0 = .ok (.aload_n 0, 1) := by decide +kernel
theorem dX7_prefix_1 : decode cX7_prefix 1 = .ok (.iload_n 1, 1) := by decide +kernel
theorem dX7_prefix_2 : decode cX7_prefix 2 = .ok (.invokevirtual 134, 3) := by decide +kernel
theorem dX7_prefix_5 : decode cX7_prefix 5 = .ok (.ifCond .eq 10, 3) := by decide +kernel
theorem dX7_prefix_8 : decode cX7_prefix 8 = .ok (.iload_n 2, 1) := by decide +kernel
theorem dX7_prefix_9 : decode cX7_prefix 9 = .ok (.invokestatic 127, 3) := by decide +kernel
theorem dX7_prefix_12 : decode cX7_prefix 12 = .ok (.ifCond .ne 5, 3) := by decide +kernel
theorem dX7_prefix_15 : decode cX7_prefix 15 = .ok (.iconst (-1), 1) := by decide +kernel
theorem dX7_prefix_16 : decode cX7_prefix 16 = .ok (.ireturn, 1) := by decide +kernel
theorem dX7_prefix_17 : decode cX7_prefix 17 = .ok (.iload 4, 2) := by decide +kernel
theorem dX7_prefix_19 : decode cX7_prefix 19 = .ok (.iconst 0, 1) := by decide +kernel
theorem dX7_prefix_20 : decode cX7_prefix 20 = .ok (.iconst 1, 1) := by decide +kernel
theorem dX7_prefix_21 : decode cX7_prefix 21 = .ok (.invokestatic 100, 3) := by decide +kernel
theorem dX7_prefix_24 : decode cX7_prefix 24 = .ok (.ifCond .ne 6, 3) := by decide +kernel
theorem dX7_prefix_27 : decode cX7_prefix 27 = .ok (.bipush (-2), 2) := by decide +kernel
theorem dX7_prefix_29 : decode cX7_prefix 29 = .ok (.ireturn, 1) := by decide +kernel
theorem dX7_prefix_30 : decode cX7_prefix 30 = .ok (.iload_n 3, 1) := by decide +kernel
theorem dX7_prefix_31 : decode cX7_prefix 31 = .ok (.ifCond .ge 6, 3) := by decide +kernel
theorem dX7_prefix_34 : decode cX7_prefix 34 = .ok (.bipush (-6), 2) := by decide +kernel
theorem dX7_prefix_36 : decode cX7_prefix 36 = .ok (.ireturn, 1) := by decide +kernel
theorem dX7_prefix_37 : decode cX7_prefix 37 = .ok (.aload_n 0, 1) := by decide +kernel
theorem dX7_prefix_38 : decode cX7_prefix 38 = .ok (.iload_n 1, 1) := by decide +kernel
theorem dX7_prefix_39 : decode cX7_prefix 39 = .ok (.iload_n 2, 1) := by decide +kernel
theorem dX7_prefix_40 : decode cX7_prefix 40 = .ok (.iload_n 3, 1) := by decide +kernel
theorem dX7_prefix_41 : decode cX7_prefix 41 = .ok (.invokevirtual 180, 3) := by decide +kernel
theorem dX7_prefix_44 : decode cX7_prefix 44 = .ok (.istore 5, 2) := by decide +kernel
theorem dX7_prefix_46 : decode cX7_prefix 46 = .ok (.iload 5, 2) := by decide +kernel
theorem dX7_prefix_48 : decode cX7_prefix 48 = .ok (.ifCond .lt 8, 3) := by decide +kernel
theorem dX7_prefix_51 : decode cX7_prefix 51 = .ok (.iload 4, 2) := by decide +kernel
theorem dX7_prefix_53 : decode cX7_prefix 53 = .ok (.ifCond .ne 8, 3) := by decide +kernel
theorem dX7_prefix_56 : decode cX7_prefix 56 = .ok (.iload 5, 2) := by decide +kernel
theorem dX7_prefix_58 : decode cX7_prefix 58 = .ok (.goto 19, 3) := by decide +kernel
theorem dX7_prefix_61 : decode cX7_prefix 61 = .ok (.iload_n 2, 1) := by decide +kernel
theorem dX7_prefix_62 : decode cX7_prefix 62 = .ok (.iload 5, 2) := by decide +kernel
theorem dX7_prefix_64 : decode cX7_prefix 64 = .ok (.aload_n 0, 1) := by decide +kernel
theorem dX7_prefix_65 : decode cX7_prefix 65 = .ok (.getfield 13, 3) := by decide +kernel
theorem dX7_prefix_68 : decode cX7_prefix 68 = .ok (.iconst 4, 1) := by decide +kernel
theorem dX7_prefix_69 : decode cX7_prefix 69 = .ok (.iload_n 1, 1) := by decide +kernel
theorem dX7_prefix_70 : decode cX7_prefix 70 = .ok (.imul, 1) := by decide +kernel
theorem dX7_prefix_71 : decode cX7_prefix 71 = .ok (.iload_n 2, 1) := by decide +kernel
theorem dX7_prefix_72 : decode cX7_prefix 72 = .ok (.iadd, 1) := by decide +kernel
theorem dX7_prefix_73 : decode cX7_prefix 73 = .ok (.iaload, 1) := by decide +kernel
theorem dX7_prefix_74 : decode cX7_prefix 74 = .ok (.invokestatic 177, 3) := by decide +kernel
theorem dX7_prefix_77 : decode cX7_prefix 77 = .ok (.ireturn, 1) := by decide +kernel
theorem dX7_ofLength_0 : decode cX7_ofLength 0 = .ok (.iconst 0, 1) := by decide +kernel
theorem dX7_ofLength_1 : decode cX7_ofLength 1 = .ok (.istore 4, 2) := by decide +kernel
theorem dX7_ofLength_3 : decode cX7_ofLength 3 = .ok (.aload_n 0, 1) := by decide +kernel
theorem dX7_ofLength_4 : decode cX7_ofLength 4 = .ok (.getfield 7, 3) := by decide +kernel
theorem dX7_ofLength_7 : decode cX7_ofLength 7 = .ok (.iconst 4, 1) := by decide +kernel
theorem dX7_ofLength_8 : decode cX7_ofLength 8 = .ok (.iload_n 1, 1) := by decide +kernel
theorem dX7_ofLength_9 : decode cX7_ofLength 9 = .ok (.imul, 1) := by decide +kernel
theorem dX7_ofLength_10 : decode cX7_ofLength 10 = .ok (.iload_n 2, 1) := by decide +kernel
theorem dX7_ofLength_11 : decode cX7_ofLength 11 = .ok (.iadd, 1) := by decide +kernel
theorem dX7_ofLength_12 : decode cX7_ofLength 12 = .ok (.iaload, 1) := by decide +kernel
theorem dX7_ofLength_13 : decode cX7_ofLength 13 = .ok (.istore 5, 2) := by decide +kernel
theorem dX7_ofLength_15 : decode cX7_ofLength 15 = .ok (.aload_n 0, 1) := by decide +kernel
theorem dX7_ofLength_16 : decode cX7_ofLength 16 = .ok (.getfield 13, 3) := by decide +kernel
theorem dX7_ofLength_19 : decode cX7_ofLength 19 = .ok (.iconst 4, 1) := by decide +kernel
theorem dX7_ofLength_20 : decode cX7_ofLength 20 = .ok (.iload_n 1, 1) := by decide +kernel
theorem dX7_ofLength_21 : decode cX7_ofLength 21 = .ok (.imul, 1) := by decide +kernel
theorem dX7_ofLength_22 : decode cX7_ofLength 22 = .ok (.iload_n 2, 1) := by decide +kernel
theorem dX7_ofLength_23 : decode cX7_ofLength 23 = .ok (.iadd, 1) := by decide +kernel
theorem dX7_ofLength_24 : decode cX7_ofLength 24 = .ok (.iaload, 1) := by decide +kernel
theorem dX7_ofLength_25 : decode cX7_ofLength 25 = .ok (.istore 6, 2) := by decide +kernel
theorem dX7_ofLength_27 : decode cX7_ofLength 27 = .ok (.iload 5, 2) := by decide +kernel
theorem dX7_ofLength_29 : decode cX7_ofLength 29 = .ok (.iload 6, 2) := by decide +kernel
theorem dX7_ofLength_31 : decode cX7_ofLength 31 = .ok (.if_icmp .gt 46, 3) := by decide +kernel
theorem dX7_ofLength_34 : decode cX7_ofLength 34 = .ok (.iload_n 2, 1) := by decide +kernel
theorem dX7_ofLength_35 : decode cX7_ofLength 35 = .ok (.iload 5, 2) := by decide +kernel
theorem dX7_ofLength_37 : decode cX7_ofLength 37 = .ok (.iload 6, 2) := by decide +kernel
theorem dX7_ofLength_39 : decode cX7_ofLength 39 = .ok (.invokestatic 177, 3) := by decide +kernel
theorem dX7_ofLength_42 : decode cX7_ofLength 42 = .ok (.istore 7, 2) := by decide +kernel
theorem dX7_ofLength_44 : decode cX7_ofLength 44 = .ok (.iload 4, 2) := by decide +kernel
theorem dX7_ofLength_46 : decode cX7_ofLength 46 = .ok (.iload 7, 2) := by decide +kernel
theorem dX7_ofLength_48 : decode cX7_ofLength 48 = .ok (.iload_n 3, 1) := by decide +kernel
theorem dX7_ofLength_49 : decode cX7_ofLength 49 = .ok (.if_icmp .ne 7, 3) := by decide +kernel
theorem dX7_ofLength_52 : decode cX7_ofLength 52 = .ok (.iconst 1, 1) := by decide +kernel
theorem dX7_ofLength_53 : decode cX7_ofLength 53 = .ok (.goto 4, 3) := by decide +kernel
theorem dX7_ofLength_56 : decode cX7_ofLength 56 = .ok (.iconst 0, 1) := by decide +kernel
theorem dX7_ofLength_57 : decode cX7_ofLength 57 = .ok (.iadd, 1) := by decide +kernel
theorem dX7_ofLength_58 : decode cX7_ofLength 58 = .ok (.istore 4, 2) := by decide +kernel
theorem dX7_ofLength_60 : decode cX7_ofLength 60 = .ok (.iload 5, 2) := by decide +kernel
theorem dX7_ofLength_62 : decode cX7_ofLength 62 = .ok (.iconst 1, 1) := by decide +kernel
theorem dX7_ofLength_63 : decode cX7_ofLength 63 = .ok (.iload_n 2, 1) := by decide +kernel
theorem dX7_ofLength_64 : decode cX7_ofLength 64 = .ok (.invokestatic 96, 3) := by decide +kernel
theorem dX7_ofLength_67 : decode cX7_ofLength 67 = .ok (.iload 7, 2) := by decide +kernel
theorem dX7_ofLength_69 : decode cX7_ofLength 69 = .ok (.isub, 1) := by decide +kernel
theorem dX7_ofLength_70 : decode cX7_ofLength 70 = .ok (.ishl, 1) := by decide +kernel
theorem dX7_ofLength_71 : decode cX7_ofLength 71 = .ok (.iadd, 1) := by decide +kernel
theorem dX7_ofLength_72 : decode cX7_ofLength 72 = .ok (.istore 5, 2) := by decide +kernel
theorem dX7_ofLength_74 : decode cX7_ofLength 74 = .ok (.goto (-47), 3) := by decide +kernel
theorem dX7_ofLength_77 : decode cX7_ofLength 77 = .ok (.iload 4, 2) := by decide +kernel
theorem dX7_ofLength_79 : decode cX7_ofLength 79 = .ok (.ireturn, 1) := by decide +kernel
theorem dX7_lengthOf_0 : decode cX7_lengthOf 0 = .ok (.aload_n 0, 1) := by decide +kernel
theorem dX7_lengthOf_1 : decode cX7_lengthOf 1 = .ok (.getfield 7, 3) := by decide +kernel
theorem dX7_lengthOf_4 : decode cX7_lengthOf 4 = .ok (.iconst 4, 1) := by decide +kernel
theorem dX7_lengthOf_5 : decode cX7_lengthOf 5 = .ok (.iload_n 1, 1) := by decide +kernel
theorem dX7_lengthOf_6 : decode cX7_lengthOf 6 = .ok (.imul, 1) := by decide +kernel
theorem dX7_lengthOf_7 : decode cX7_lengthOf 7 = .ok (.iload_n 2, 1) := by decide +kernel
theorem dX7_lengthOf_8 : decode cX7_lengthOf 8 = .ok (.iadd, 1) := by decide +kernel
theorem dX7_lengthOf_9 : decode cX7_lengthOf 9 = .ok (.iaload, 1) := by decide +kernel
theorem dX7_lengthOf_10 : decode cX7_lengthOf 10 = .ok (.istore 4, 2) := by decide +kernel
theorem dX7_lengthOf_12 : decode cX7_lengthOf 12 = .ok (.aload_n 0, 1) := by decide +kernel
theorem dX7_lengthOf_13 : decode cX7_lengthOf 13 = .ok (.getfield 13, 3) := by decide +kernel
theorem dX7_lengthOf_16 : decode cX7_lengthOf 16 = .ok (.iconst 4, 1) := by decide +kernel
theorem dX7_lengthOf_17 : decode cX7_lengthOf 17 = .ok (.iload_n 1, 1) := by decide +kernel
theorem dX7_lengthOf_18 : decode cX7_lengthOf 18 = .ok (.imul, 1) := by decide +kernel
theorem dX7_lengthOf_19 : decode cX7_lengthOf 19 = .ok (.iload_n 2, 1) := by decide +kernel
theorem dX7_lengthOf_20 : decode cX7_lengthOf 20 = .ok (.iadd, 1) := by decide +kernel
theorem dX7_lengthOf_21 : decode cX7_lengthOf 21 = .ok (.iaload, 1) := by decide +kernel
theorem dX7_lengthOf_22 : decode cX7_lengthOf 22 = .ok (.istore 5, 2) := by decide +kernel
theorem dX7_lengthOf_24 : decode cX7_lengthOf 24 = .ok (.iload_n 2, 1) := by decide +kernel
theorem dX7_lengthOf_25 : decode cX7_lengthOf 25 = .ok (.iload 4, 2) := by decide +kernel
theorem dX7_lengthOf_27 : decode cX7_lengthOf 27 = .ok (.iload 5, 2) := by decide +kernel
theorem dX7_lengthOf_29 : decode cX7_lengthOf 29 = .ok (.invokestatic 177, 3) := by decide +kernel
theorem dX7_lengthOf_32 : decode cX7_lengthOf 32 = .ok (.istore 6, 2) := by decide +kernel
theorem dX7_lengthOf_34 : decode cX7_lengthOf 34 = .ok (.iload_n 3, 1) := by decide +kernel
theorem dX7_lengthOf_35 : decode cX7_lengthOf 35 = .ok (.iload 4, 2) := by decide +kernel
theorem dX7_lengthOf_37 : decode cX7_lengthOf 37 = .ok (.iconst 1, 1) := by decide +kernel
theorem dX7_lengthOf_38 : decode cX7_lengthOf 38 = .ok (.iload_n 2, 1) := by decide +kernel
theorem dX7_lengthOf_39 : decode cX7_lengthOf 39 = .ok (.invokestatic 96, 3) := by decide +kernel
theorem dX7_lengthOf_42 : decode cX7_lengthOf 42 = .ok (.iload 6, 2) := by decide +kernel
theorem dX7_lengthOf_44 : decode cX7_lengthOf 44 = .ok (.isub, 1) := by decide +kernel
theorem dX7_lengthOf_45 : decode cX7_lengthOf 45 = .ok (.ishl, 1) := by decide +kernel
theorem dX7_lengthOf_46 : decode cX7_lengthOf 46 = .ok (.iadd, 1) := by decide +kernel
theorem dX7_lengthOf_47 : decode cX7_lengthOf 47 = .ok (.if_icmp .lt 30, 3) := by decide +kernel
theorem dX7_lengthOf_50 : decode cX7_lengthOf 50 = .ok (.iload 4, 2) := by decide +kernel
theorem dX7_lengthOf_52 : decode cX7_lengthOf 52 = .ok (.iconst 1, 1) := by decide +kernel
theorem dX7_lengthOf_53 : decode cX7_lengthOf 53 = .ok (.iload_n 2, 1) := by decide +kernel
theorem dX7_lengthOf_54 : decode cX7_lengthOf 54 = .ok (.invokestatic 96, 3) := by decide +kernel
theorem dX7_lengthOf_57 : decode cX7_lengthOf 57 = .ok (.iload 6, 2) := by decide +kernel
theorem dX7_lengthOf_59 : decode cX7_lengthOf 59 = .ok (.isub, 1) := by decide +kernel
theorem dX7_lengthOf_60 : decode cX7_lengthOf 60 = .ok (.ishl, 1) := by decide +kernel
theorem dX7_lengthOf_61 : decode cX7_lengthOf 61 = .ok (.iadd, 1) := by decide +kernel
theorem dX7_lengthOf_62 : decode cX7_lengthOf 62 = .ok (.istore 4, 2) := by decide +kernel
theorem dX7_lengthOf_64 : decode cX7_lengthOf 64 = .ok (.iload_n 2, 1) := by decide +kernel
theorem dX7_lengthOf_65 : decode cX7_lengthOf 65 = .ok (.iload 4, 2) := by decide +kernel
theorem dX7_lengthOf_67 : decode cX7_lengthOf 67 = .ok (.iload 5, 2) := by decide +kernel
theorem dX7_lengthOf_69 : decode cX7_lengthOf 69 = .ok (.invokestatic 177, 3) := by decide +kernel
theorem dX7_lengthOf_72 : decode cX7_lengthOf 72 = .ok (.istore 6, 2) := by decide +kernel
theorem dX7_lengthOf_74 : decode cX7_lengthOf 74 = .ok (.goto (-40), 3) := by decide +kernel
theorem dX7_lengthOf_77 : decode cX7_lengthOf 77 = .ok (.iload 6, 2) := by decide +kernel
theorem dX7_lengthOf_79 : decode cX7_lengthOf 79 = .ok (.ireturn, 1) := by decide +kernel
theorem dX7_lengthIn_0 : decode cX7_lengthIn 0 = .ok (.iload_n 1, 1) := by decide +kernel
theorem dX7_lengthIn_1 : decode cX7_lengthIn 1 = .ok (.iconst 3, 1) := by decide +kernel
theorem dX7_lengthIn_2 : decode cX7_lengthIn 2 = .ok (.if_icmp .ne 11, 3) := by decide +kernel
theorem dX7_lengthIn_5 : decode cX7_lengthIn 5 = .ok (.iconst 2, 1) := by decide +kernel
theorem dX7_lengthIn_6 : decode cX7_lengthIn 6 = .ok (.iload_n 0, 1) := by decide +kernel
theorem dX7_lengthIn_7 : decode cX7_lengthIn 7 = .ok (.iconst 3, 1) := by decide +kernel
theorem dX7_lengthIn_8 : decode cX7_lengthIn 8 = .ok (.irem, 1) := by decide +kernel
theorem dX7_lengthIn_9 : decode cX7_lengthIn 9 = .ok (.isub, 1) := by decide +kernel
theorem dX7_lengthIn_10 : decode cX7_lengthIn 10 = .ok (.goto 40, 3) := by decide +kernel
theorem dX7_lengthIn_13 : decode cX7_lengthIn 13 = .ok (.bipush 6, 2) := by decide +kernel
theorem dX7_lengthIn_15 : decode cX7_lengthIn 15 = .ok (.iload_n 1, 1) := by decide +kernel
theorem dX7_lengthIn_16 : decode cX7_lengthIn 16 = .ok (.iconst 2, 1) := by decide +kernel
theorem dX7_lengthIn_17 : decode cX7_lengthIn 17 = .ok (.if_icmp .ne 12, 3) := by decide +kernel
theorem dX7_lengthIn_20 : decode cX7_lengthIn 20 = .ok (.iload_n 0, 1) := by decide +kernel
theorem dX7_lengthIn_21 : decode cX7_lengthIn 21 = .ok (.iconst 3, 1) := by decide +kernel
theorem dX7_lengthIn_22 : decode cX7_lengthIn 22 = .ok (.idiv, 1) := by decide +kernel
theorem dX7_lengthIn_23 : decode cX7_lengthIn 23 = .ok (.bipush 7, 2) := by decide +kernel
theorem dX7_lengthIn_25 : decode cX7_lengthIn 25 = .ok (.irem, 1) := by decide +kernel
theorem dX7_lengthIn_26 : decode cX7_lengthIn 26 = .ok (.goto 23, 3) := by decide +kernel
theorem dX7_lengthIn_29 : decode cX7_lengthIn 29 = .ok (.iload_n 1, 1) := by decide +kernel
theorem dX7_lengthIn_30 : decode cX7_lengthIn 30 = .ok (.iconst 1, 1) := by decide +kernel
theorem dX7_lengthIn_31 : decode cX7_lengthIn 31 = .ok (.if_icmp .ne 13, 3) := by decide +kernel
theorem dX7_lengthIn_34 : decode cX7_lengthIn 34 = .ok (.iload_n 0, 1) := by decide +kernel
theorem dX7_lengthIn_35 : decode cX7_lengthIn 35 = .ok (.bipush 21, 2) := by decide +kernel
theorem dX7_lengthIn_37 : decode cX7_lengthIn 37 = .ok (.idiv, 1) := by decide +kernel
theorem dX7_lengthIn_38 : decode cX7_lengthIn 38 = .ok (.bipush 7, 2) := by decide +kernel
theorem dX7_lengthIn_40 : decode cX7_lengthIn 40 = .ok (.irem, 1) := by decide +kernel
theorem dX7_lengthIn_41 : decode cX7_lengthIn 41 = .ok (.goto 8, 3) := by decide +kernel
theorem dX7_lengthIn_44 : decode cX7_lengthIn 44 = .ok (.iload_n 0, 1) := by decide +kernel
theorem dX7_lengthIn_45 : decode cX7_lengthIn 45 = .ok (.sipush 147, 3) := by decide +kernel
theorem dX7_lengthIn_48 : decode cX7_lengthIn 48 = .ok (.idiv, 1) := by decide +kernel
theorem dX7_lengthIn_49 : decode cX7_lengthIn 49 = .ok (.isub, 1) := by decide +kernel
theorem dX7_lengthIn_50 : decode cX7_lengthIn 50 = .ok (.ireturn, 1) := by decide +kernel
theorem dX7_entriesOf_0 : decode cX7_entriesOf 0 = .ok (.iconst 1, 1) := by decide +kernel
theorem dX7_entriesOf_1 : decode cX7_entriesOf 1 = .ok (.istore_n 3, 1) := by decide +kernel
theorem dX7_entriesOf_2 : decode cX7_entriesOf 2 = .ok (.iconst 0, 1) := by decide +kernel
theorem dX7_entriesOf_3 : decode cX7_entriesOf 3 = .ok (.istore 4, 2) := by decide +kernel
theorem dX7_entriesOf_5 : decode cX7_entriesOf 5 = .ok (.iload 4, 2) := by decide +kernel
theorem dX7_entriesOf_7 : decode cX7_entriesOf 7 = .ok (.iconst 4, 1) := by decide +kernel
theorem dX7_entriesOf_8 : decode cX7_entriesOf 8 = .ok (.if_icmp .ge 34, 3) := by decide +kernel
theorem dX7_entriesOf_11 : decode cX7_entriesOf 11 = .ok (.iload_n 3, 1) := by decide +kernel
theorem dX7_entriesOf_12 : decode cX7_entriesOf 12 = .ok (.aload_n 0, 1) := by decide +kernel
theorem dX7_entriesOf_13 : decode cX7_entriesOf 13 = .ok (.getfield 54, 3) := by decide +kernel
theorem dX7_entriesOf_16 : decode cX7_entriesOf 16 = .ok (.bipush 28, 2) := by decide +kernel
theorem dX7_entriesOf_18 : decode cX7_entriesOf 18 = .ok (.iload_n 1, 1) := by decide +kernel
theorem dX7_entriesOf_19 : decode cX7_entriesOf 19 = .ok (.imul, 1) := by decide +kernel
theorem dX7_entriesOf_20 : decode cX7_entriesOf 20 = .ok (.bipush 7, 2) := by decide +kernel
theorem dX7_entriesOf_22 : decode cX7_entriesOf 22 = .ok (.iload 4, 2) := by decide +kernel
theorem dX7_entriesOf_24 : decode cX7_entriesOf 24 = .ok (.imul, 1) := by decide +kernel
theorem dX7_entriesOf_25 : decode cX7_entriesOf 25 = .ok (.iadd, 1) := by decide +kernel
theorem dX7_entriesOf_26 : decode cX7_entriesOf 26 = .ok (.iload_n 2, 1) := by decide +kernel
theorem dX7_entriesOf_27 : decode cX7_entriesOf 27 = .ok (.iload 4, 2) := by decide +kernel
theorem dX7_entriesOf_29 : decode cX7_entriesOf 29 = .ok (.invokestatic 187, 3) := by decide +kernel
theorem dX7_entriesOf_32 : decode cX7_entriesOf 32 = .ok (.iadd, 1) := by decide +kernel
theorem dX7_entriesOf_33 : decode cX7_entriesOf 33 = .ok (.iaload, 1) := by decide +kernel
theorem dX7_entriesOf_34 : decode cX7_entriesOf 34 = .ok (.imul, 1) := by decide +kernel
theorem dX7_entriesOf_35 : decode cX7_entriesOf 35 = .ok (.istore_n 3, 1) := by decide +kernel
theorem dX7_entriesOf_36 : decode cX7_entriesOf 36 = .ok (.iinc 4 1, 3) := by decide +kernel
theorem dX7_entriesOf_39 : decode cX7_entriesOf 39 = .ok (.goto (-34), 3) := by decide +kernel
theorem dX7_entriesOf_42 : decode cX7_entriesOf 42 = .ok (.iload_n 3, 1) := by decide +kernel
theorem dX7_entriesOf_43 : decode cX7_entriesOf 43 = .ok (.ireturn, 1) := by decide +kernel
theorem dX7_membersOf_0 : decode cX7_membersOf 0 = .ok (.iconst 0, 1) := by decide +kernel
theorem dX7_membersOf_1 : decode cX7_membersOf 1 = .ok (.istore_n 2, 1) := by decide +kernel
theorem dX7_membersOf_2 : decode cX7_membersOf 2 = .ok (.iconst 0, 1) := by decide +kernel
theorem dX7_membersOf_3 : decode cX7_membersOf 3 = .ok (.istore_n 3, 1) := by decide +kernel
theorem dX7_membersOf_4 : decode cX7_membersOf 4 = .ok (.iload_n 3, 1) := by decide +kernel
theorem dX7_membersOf_5 : decode cX7_membersOf 5 = .ok (.aload_n 0, 1) := by decide +kernel
theorem dX7_membersOf_6 : decode cX7_membersOf 6 = .ok (.getfield 104, 3) := by decide +kernel
theorem dX7_membersOf_9 : decode cX7_membersOf 9 = .ok (.if_icmp .ge 33, 3) := by decide +kernel
theorem dX7_membersOf_12 : decode cX7_membersOf 12 = .ok (.iload_n 2, 1) := by decide +kernel
theorem dX7_membersOf_13 : decode cX7_membersOf 13 = .ok (.aload_n 0, 1) := by decide +kernel
theorem dX7_membersOf_14 : decode cX7_membersOf 14 = .ok (.aload_n 0, 1) := by decide +kernel
theorem dX7_membersOf_15 : decode cX7_membersOf 15 = .ok (.getfield 29, 3) := by decide +kernel
theorem dX7_membersOf_18 : decode cX7_membersOf 18 = .ok (.iload_n 3, 1) := by decide +kernel
theorem dX7_membersOf_19 : decode cX7_membersOf 19 = .ok (.iaload, 1) := by decide +kernel
theorem dX7_membersOf_20 : decode cX7_membersOf 20 = .ok (.iload_n 1, 1) := by decide +kernel
theorem dX7_membersOf_21 : decode cX7_membersOf 21 = .ok (.invokevirtual 190, 3) := by decide +kernel
theorem dX7_membersOf_24 : decode cX7_membersOf 24 = .ok (.ifCond .le 9, 3) := by decide +kernel
theorem dX7_membersOf_27 : decode cX7_membersOf 27 = .ok (.iconst 1, 1) := by decide +kernel
theorem dX7_membersOf_28 : decode cX7_membersOf 28 = .ok (.iload_n 3, 1) := by decide +kernel
theorem dX7_membersOf_29 : decode cX7_membersOf 29 = .ok (.ishl, 1) := by decide +kernel
theorem dX7_membersOf_30 : decode cX7_membersOf 30 = .ok (.goto 4, 3) := by decide +kernel
theorem dX7_membersOf_33 : decode cX7_membersOf 33 = .ok (.iconst 0, 1) := by decide +kernel
theorem dX7_membersOf_34 : decode cX7_membersOf 34 = .ok (.ior, 1) := by decide +kernel
theorem dX7_membersOf_35 : decode cX7_membersOf 35 = .ok (.istore_n 2, 1) := by decide +kernel
theorem dX7_membersOf_36 : decode cX7_membersOf 36 = .ok (.iinc 3 1, 3) := by decide +kernel
theorem dX7_membersOf_39 : decode cX7_membersOf 39 = .ok (.goto (-35), 3) := by decide +kernel
theorem dX7_membersOf_42 : decode cX7_membersOf 42 = .ok (.iload_n 2, 1) := by decide +kernel
theorem dX7_membersOf_43 : decode cX7_membersOf 43 = .ok (.ireturn, 1) := by decide +kernel
theorem dX7_listTuples_0 : decode cX7_listTuples 0 = .ok (.aload_n 0, 1) := by decide +kernel
theorem dX7_listTuples_1 : decode cX7_listTuples 1 = .ok (.invokevirtual 147, 3) := by decide +kernel
theorem dX7_listTuples_4 : decode cX7_listTuples 4 = .ok (.aload_n 0, 1) := by decide +kernel
theorem dX7_listTuples_5 : decode cX7_listTuples 5 = .ok (.getfield 118, 3) := by decide +kernel
theorem dX7_listTuples_8 : decode cX7_listTuples 8 = .ok (.ifCond .eq 4, 3) := by decide +kernel
theorem dX7_listTuples_11 : decode cX7_listTuples 11 = .ok (.return_, 1) := by decide +kernel
theorem dX7_listTuples_12 : decode cX7_listTuples 12 = .ok (.aload_n 0, 1) := by decide +kernel
theorem dX7_listTuples_13 : decode cX7_listTuples 13 = .ok (.iconst 1, 1) := by decide +kernel
theorem dX7_listTuples_14 : decode cX7_listTuples 14 = .ok (.putfield 118, 3) := by decide +kernel
theorem dX7_listTuples_17 : decode cX7_listTuples 17 = .ok (.iconst 0, 1) := by decide +kernel
theorem dX7_listTuples_18 : decode cX7_listTuples 18 = .ok (.istore_n 1, 1) := by decide +kernel
theorem dX7_listTuples_19 : decode cX7_listTuples 19 = .ok (.iload_n 1, 1) := by decide +kernel
theorem dX7_listTuples_20 : decode cX7_listTuples 20 = .ok (.bipush 28, 2) := by decide +kernel
theorem dX7_listTuples_22 : decode cX7_listTuples 22 = .ok (.aload_n 0, 1) := by decide +kernel
theorem dX7_listTuples_23 : decode cX7_listTuples 23 = .ok (.getfield 104, 3) := by decide +kernel
theorem dX7_listTuples_26 : decode cX7_listTuples 26 = .ok (.imul, 1) := by decide +kernel
theorem dX7_listTuples_27 : decode cX7_listTuples 27 = .ok (.if_icmp .ge 33, 3) := by decide +kernel
theorem dX7_listTuples_30 : decode cX7_listTuples 30 = .ok (.aload_n 0, 1) := by decide +kernel
theorem dX7_listTuples_31 : decode cX7_listTuples 31 = .ok (.getfield 54, 3) := by decide +kernel
theorem dX7_listTuples_34 : decode cX7_listTuples 34 = .ok (.iload_n 1, 1) := by decide +kernel
theorem dX7_listTuples_35 : decode cX7_listTuples 35 = .ok (.aload_n 0, 1) := by decide +kernel
theorem dX7_listTuples_36 : decode cX7_listTuples 36 = .ok (.iload_n 1, 1) := by decide +kernel
theorem dX7_listTuples_37 : decode cX7_listTuples 37 = .ok (.bipush 28, 2) := by decide +kernel
theorem dX7_listTuples_39 : decode cX7_listTuples 39 = .ok (.idiv, 1) := by decide +kernel
theorem dX7_listTuples_40 : decode cX7_listTuples 40 = .ok (.iload_n 1, 1) := by decide +kernel
theorem dX7_listTuples_41 : decode cX7_listTuples 41 = .ok (.bipush 7, 2) := by decide +kernel
theorem dX7_listTuples_43 : decode cX7_listTuples 43 = .ok (.idiv, 1) := by decide +kernel
theorem dX7_listTuples_44 : decode cX7_listTuples 44 = .ok (.iconst 4, 1) := by decide +kernel
theorem dX7_listTuples_45 : decode cX7_listTuples 45 = .ok (.irem, 1) := by decide +kernel
theorem dX7_listTuples_46 : decode cX7_listTuples 46 = .ok (.iload_n 1, 1) := by decide +kernel
theorem dX7_listTuples_47 : decode cX7_listTuples 47 = .ok (.bipush 7, 2) := by decide +kernel
theorem dX7_listTuples_49 : decode cX7_listTuples 49 = .ok (.irem, 1) := by decide +kernel
theorem dX7_listTuples_50 : decode cX7_listTuples 50 = .ok (.invokevirtual 193, 3) := by decide +kernel
theorem dX7_listTuples_53 : decode cX7_listTuples 53 = .ok (.iastore, 1) := by decide +kernel
theorem dX7_listTuples_54 : decode cX7_listTuples 54 = .ok (.iinc 1 1, 3) := by decide +kernel
theorem dX7_listTuples_57 : decode cX7_listTuples 57 = .ok (.goto (-38), 3) := by decide +kernel
theorem dX7_listTuples_60 : decode cX7_listTuples 60 = .ok (.iconst 0, 1) := by decide +kernel
theorem dX7_listTuples_61 : decode cX7_listTuples 61 = .ok (.istore_n 1, 1) := by decide +kernel
theorem dX7_listTuples_62 : decode cX7_listTuples 62 = .ok (.iload_n 1, 1) := by decide +kernel
theorem dX7_listTuples_63 : decode cX7_listTuples 63 = .ok (.sipush 1029, 3) := by decide +kernel
theorem dX7_listTuples_66 : decode cX7_listTuples 66 = .ok (.if_icmp .ge 20, 3) := by decide +kernel
theorem dX7_listTuples_69 : decode cX7_listTuples 69 = .ok (.aload_n 0, 1) := by decide +kernel
theorem dX7_listTuples_70 : decode cX7_listTuples 70 = .ok (.getfield 63, 3) := by decide +kernel
theorem dX7_listTuples_73 : decode cX7_listTuples 73 = .ok (.iload_n 1, 1) := by decide +kernel
theorem dX7_listTuples_74 : decode cX7_listTuples 74 = .ok (.aload_n 0, 1) := by decide +kernel
theorem dX7_listTuples_75 : decode cX7_listTuples 75 = .ok (.iload_n 1, 1) := by decide +kernel
theorem dX7_listTuples_76 : decode cX7_listTuples 76 = .ok (.invokevirtual 196, 3) := by decide +kernel
theorem dX7_listTuples_79 : decode cX7_listTuples 79 = .ok (.iastore, 1) := by decide +kernel
theorem dX7_listTuples_80 : decode cX7_listTuples 80 = .ok (.iinc 1 1, 3) := by decide +kernel
theorem dX7_listTuples_83 : decode cX7_listTuples 83 = .ok (.goto (-21), 3) := by decide +kernel
theorem dX7_listTuples_86 : decode cX7_listTuples 86 = .ok (.aload_n 0, 1) := by decide +kernel
theorem dX7_listTuples_87 : decode cX7_listTuples 87 = .ok (.iconst 0, 1) := by decide +kernel
theorem dX7_listTuples_88 : decode cX7_listTuples 88 = .ok (.putfield 199, 3) := by decide +kernel
theorem dX7_listTuples_91 : decode cX7_listTuples 91 = .ok (.iconst 0, 1) := by decide +kernel
theorem dX7_listTuples_92 : decode cX7_listTuples 92 = .ok (.istore_n 1, 1) := by decide +kernel
theorem dX7_listTuples_93 : decode cX7_listTuples 93 = .ok (.iload_n 1, 1) := by decide +kernel
theorem dX7_listTuples_94 : decode cX7_listTuples 94 = .ok (.aload_n 0, 1) := by decide +kernel
theorem dX7_listTuples_95 : decode cX7_listTuples 95 = .ok (.getfield 104, 3) := by decide +kernel
theorem dX7_listTuples_98 : decode cX7_listTuples 98 = .ok (.if_icmp .ge 76, 3) := by decide +kernel
theorem dX7_listTuples_101 : decode cX7_listTuples 101 = .ok (.iconst 0, 1) := by decide +kernel
theorem dX7_listTuples_102 : decode cX7_listTuples 102 = .ok (.istore_n 2, 1) := by decide +kernel
theorem dX7_listTuples_103 : decode cX7_listTuples 103 = .ok (.iload_n 2, 1) := by decide +kernel
theorem dX7_listTuples_104 : decode cX7_listTuples 104 = .ok (.sipush 1029, 3) := by decide +kernel
theorem dX7_listTuples_107 : decode cX7_listTuples 107 = .ok (.if_icmp .ge 61, 3) := by decide +kernel
theorem dX7_listTuples_110 : decode cX7_listTuples 110 = .ok (.aload_n 0, 1) := by decide +kernel
theorem dX7_listTuples_111 : decode cX7_listTuples 111 = .ok (.getfield 63, 3) := by decide +kernel
theorem dX7_listTuples_114 : decode cX7_listTuples 114 = .ok (.iload_n 2, 1) := by decide +kernel
theorem dX7_listTuples_115 : decode cX7_listTuples 115 = .ok (.iaload, 1) := by decide +kernel
theorem dX7_listTuples_116 : decode cX7_listTuples 116 = .ok (.ifCond .eq 46, 3) := by decide +kernel
theorem dX7_listTuples_119 : decode cX7_listTuples 119 = .ok (.aload_n 0, 1) := by decide +kernel
theorem dX7_listTuples_120 : decode cX7_listTuples 120 = .ok (.getfield 63, 3) := by decide +kernel
theorem dX7_listTuples_123 : decode cX7_listTuples 123 = .ok (.iload_n 2, 1) := by decide +kernel
theorem dX7_listTuples_124 : decode cX7_listTuples 124 = .ok (.iaload, 1) := by decide +kernel
theorem dX7_listTuples_125 : decode cX7_listTuples 125 = .ok (.invokestatic 158, 3) := by decide +kernel
theorem dX7_listTuples_128 : decode cX7_listTuples 128 = .ok (.iload_n 1, 1) := by decide +kernel
theorem dX7_listTuples_129 : decode cX7_listTuples 129 = .ok (.if_icmp .ne 33, 3) := by decide +kernel
theorem dX7_listTuples_132 : decode cX7_listTuples 132 = .ok (.aload_n 0, 1) := by decide +kernel
theorem dX7_listTuples_133 : decode cX7_listTuples 133 = .ok (.getfield 57, 3) := by decide +kernel
theorem dX7_listTuples_136 : decode cX7_listTuples 136 = .ok (.aload_n 0, 1) := by decide +kernel
theorem dX7_listTuples_137 : decode cX7_listTuples 137 = .ok (.getfield 199, 3) := by decide +kernel
theorem dX7_listTuples_140 : decode cX7_listTuples 140 = .ok (.iload_n 2, 1) := by decide +kernel
theorem dX7_listTuples_141 : decode cX7_listTuples 141 = .ok (.iastore, 1) := by decide +kernel
theorem dX7_listTuples_142 : decode cX7_listTuples 142 = .ok (.aload_n 0, 1) := by decide +kernel
theorem dX7_listTuples_143 : decode cX7_listTuples 143 = .ok (.getfield 60, 3) := by decide +kernel
theorem dX7_listTuples_146 : decode cX7_listTuples 146 = .ok (.aload_n 0, 1) := by decide +kernel
theorem dX7_listTuples_147 : decode cX7_listTuples 147 = .ok (.getfield 199, 3) := by decide +kernel
theorem dX7_listTuples_150 : decode cX7_listTuples 150 = .ok (.iload_n 1, 1) := by decide +kernel
theorem dX7_listTuples_151 : decode cX7_listTuples 151 = .ok (.iastore, 1) := by decide +kernel
theorem dX7_listTuples_152 : decode cX7_listTuples 152 = .ok (.aload_n 0, 1) := by decide +kernel
theorem dX7_listTuples_153 : decode cX7_listTuples 153 = .ok (.dup, 1) := by decide +kernel
theorem dX7_listTuples_154 : decode cX7_listTuples 154 = .ok (.getfield 199, 3) := by decide +kernel
