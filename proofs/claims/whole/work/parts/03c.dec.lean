theorem dX6_drop_22 : decode cX6_drop 22 = .ok (.invokevirtual 92, 3) := by decide +kernel
theorem dX6_drop_25 : decode cX6_drop 25 = .ok (.aload_n 0, 1) := by decide +kernel
theorem dX6_drop_26 : decode cX6_drop 26 = .ok (.getfield 10, 3) := by decide +kernel
theorem dX6_drop_29 : decode cX6_drop 29 = .ok (.getfield 84, 3) := by decide +kernel
theorem dX6_drop_32 : decode cX6_drop 32 = .ok (.ireturn, 1) := by decide +kernel
theorem dX6_rank_0 : decode cX6_rank 0 = .ok (.aload_n 0, 1) := by decide +kernel
theorem dX6_rank_1 : decode cX6_rank 1 = .ok (.getfield 10, 3) := by decide +kernel
theorem dX6_rank_4 : decode cX6_rank 4 = .ok (.iload_n 1, 1) := by decide +kernel
theorem dX6_rank_5 : decode cX6_rank 5 = .ok (.invokevirtual 95, 3) := by decide +kernel
theorem dX6_rank_8 : decode cX6_rank 8 = .ok (.ifCond .ne 5, 3) := by decide +kernel
theorem dX6_rank_11 : decode cX6_rank 11 = .ok (.iconst (-1), 1) := by decide +kernel
theorem dX6_rank_12 : decode cX6_rank 12 = .ok (.ireturn, 1) := by decide +kernel
theorem dX6_rank_13 : decode cX6_rank 13 = .ok (.iload_n 2, 1) := by decide +kernel
theorem dX6_rank_14 : decode cX6_rank 14 = .ok (.invokestatic 78, 3) := by decide +kernel
theorem dX6_rank_17 : decode cX6_rank 17 = .ok (.ifCond .ne 6, 3) := by decide +kernel
theorem dX6_rank_20 : decode cX6_rank 20 = .ok (.bipush (-2), 2) := by decide +kernel
theorem dX6_rank_22 : decode cX6_rank 22 = .ok (.ireturn, 1) := by decide +kernel
theorem dX6_rank_23 : decode cX6_rank 23 = .ok (.aload_n 0, 1) := by decide +kernel
theorem dX6_rank_24 : decode cX6_rank 24 = .ok (.getfield 10, 3) := by decide +kernel
theorem dX6_rank_27 : decode cX6_rank 27 = .ok (.getfield 102, 3) := by decide +kernel
theorem dX6_rank_30 : decode cX6_rank 30 = .ok (.iload_n 1, 1) := by decide +kernel
theorem dX6_rank_31 : decode cX6_rank 31 = .ok (.iload_n 2, 1) := by decide +kernel
theorem dX6_rank_32 : decode cX6_rank 32 = .ok (.iastore, 1) := by decide +kernel
theorem dX6_rank_33 : decode cX6_rank 33 = .ok (.aload_n 0, 1) := by decide +kernel
theorem dX6_rank_34 : decode cX6_rank 34 = .ok (.invokevirtual 92, 3) := by decide +kernel
theorem dX6_rank_37 : decode cX6_rank 37 = .ok (.aload_n 0, 1) := by decide +kernel
theorem dX6_rank_38 : decode cX6_rank 38 = .ok (.getfield 10, 3) := by decide +kernel
theorem dX6_rank_41 : decode cX6_rank 41 = .ok (.getfield 105, 3) := by decide +kernel
theorem dX6_rank_44 : decode cX6_rank 44 = .ok (.iload_n 1, 1) := by decide +kernel
theorem dX6_rank_45 : decode cX6_rank 45 = .ok (.iaload, 1) := by decide +kernel
theorem dX6_rank_46 : decode cX6_rank 46 = .ok (.ireturn, 1) := by decide +kernel
theorem dX6_told_0 : decode cX6_told 0 = .ok (.aload_n 0, 1) := by decide +kernel
theorem dX6_told_1 : decode cX6_told 1 = .ok (.getfield 10, 3) := by decide +kernel
theorem dX6_told_4 : decode cX6_told 4 = .ok (.iload_n 1, 1) := by decide +kernel
theorem dX6_told_5 : decode cX6_told 5 = .ok (.invokevirtual 95, 3) := by decide +kernel
theorem dX6_told_8 : decode cX6_told 8 = .ok (.ifCond .ne 5, 3) := by decide +kernel
theorem dX6_told_11 : decode cX6_told 11 = .ok (.iconst (-1), 1) := by decide +kernel
theorem dX6_told_12 : decode cX6_told 12 = .ok (.ireturn, 1) := by decide +kernel
theorem dX6_told_13 : decode cX6_told 13 = .ok (.iload_n 2, 1) := by decide +kernel
theorem dX6_told_14 : decode cX6_told 14 = .ok (.tableswitch 56 0 2 #[26, 36, 46], 26) := by decide +kernel
theorem dX6_told_40 : decode cX6_told 40 = .ok (.aload_n 0, 1) := by decide +kernel
theorem dX6_told_41 : decode cX6_told 41 = .ok (.getfield 10, 3) := by decide +kernel
theorem dX6_told_44 : decode cX6_told 44 = .ok (.getfield 102, 3) := by decide +kernel
theorem dX6_told_47 : decode cX6_told 47 = .ok (.iload_n 1, 1) := by decide +kernel
theorem dX6_told_48 : decode cX6_told 48 = .ok (.iaload, 1) := by decide +kernel
theorem dX6_told_49 : decode cX6_told 49 = .ok (.ireturn, 1) := by decide +kernel
theorem dX6_told_50 : decode cX6_told 50 = .ok (.aload_n 0, 1) := by decide +kernel
theorem dX6_told_51 : decode cX6_told 51 = .ok (.getfield 10, 3) := by decide +kernel
theorem dX6_told_54 : decode cX6_told 54 = .ok (.getfield 108, 3) := by decide +kernel
theorem dX6_told_57 : decode cX6_told 57 = .ok (.iload_n 1, 1) := by decide +kernel
theorem dX6_told_58 : decode cX6_told 58 = .ok (.iaload, 1) := by decide +kernel
theorem dX6_told_59 : decode cX6_told 59 = .ok (.ireturn, 1) := by decide +kernel
theorem dX6_told_60 : decode cX6_told 60 = .ok (.aload_n 0, 1) := by decide +kernel
theorem dX6_told_61 : decode cX6_told 61 = .ok (.getfield 10, 3) := by decide +kernel
theorem dX6_told_64 : decode cX6_told 64 = .ok (.getfield 105, 3) := by decide +kernel
theorem dX6_told_67 : decode cX6_told 67 = .ok (.iload_n 1, 1) := by decide +kernel
theorem dX6_told_68 : decode cX6_told 68 = .ok (.iaload, 1) := by decide +kernel
theorem dX6_told_69 : decode cX6_told 69 = .ok (.ireturn, 1) := by decide +kernel
theorem dX6_told_70 : decode cX6_told 70 = .ok (.aload_n 0, 1) := by decide +kernel
theorem dX6_told_71 : decode cX6_told 71 = .ok (.iload_n 1, 1) := by decide +kernel
theorem dX6_told_72 : decode cX6_told 72 = .ok (.iload_n 2, 1) := by decide +kernel
theorem dX6_told_73 : decode cX6_told 73 = .ok (.bipush 10, 2) := by decide +kernel
theorem dX6_told_75 : decode cX6_told 75 = .ok (.isub, 1) := by decide +kernel
theorem dX6_told_76 : decode cX6_told 76 = .ok (.invokevirtual 111, 3) := by decide +kernel
theorem dX6_told_79 : decode cX6_told 79 = .ok (.ireturn, 1) := by decide +kernel
theorem dX6_first_0 : decode cX6_first 0 = .ok (.iload_n 1, 1) := by decide +kernel
theorem dX6_first_1 : decode cX6_first 1 = .ok (.iload_n 2, 1) := by decide +kernel
theorem dX6_first_2 : decode cX6_first 2 = .ok (.iload_n 3, 1) := by decide +kernel
theorem dX6_first_3 : decode cX6_first 3 = .ok (.iload 4, 2) := by decide +kernel
theorem dX6_first_5 : decode cX6_first 5 = .ok (.invokestatic 115, 3) := by decide +kernel
theorem dX6_first_8 : decode cX6_first 8 = .ok (.ifCond .ne 6, 3) := by decide +kernel
theorem dX6_first_11 : decode cX6_first 11 = .ok (.bipush (-2), 2) := by decide +kernel
theorem dX6_first_13 : decode cX6_first 13 = .ok (.ireturn, 1) := by decide +kernel
theorem dX6_first_14 : decode cX6_first 14 = .ok (.aload_n 0, 1) := by decide +kernel
theorem dX6_first_15 : decode cX6_first 15 = .ok (.iload_n 1, 1) := by decide +kernel
theorem dX6_first_16 : decode cX6_first 16 = .ok (.iload_n 2, 1) := by decide +kernel
theorem dX6_first_17 : decode cX6_first 17 = .ok (.iload_n 3, 1) := by decide +kernel
theorem dX6_first_18 : decode cX6_first 18 = .ok (.iload 4, 2) := by decide +kernel
theorem dX6_first_20 : decode cX6_first 20 = .ok (.invokevirtual 119, 3) := by decide +kernel
theorem dX6_first_23 : decode cX6_first 23 = .ok (.aload_n 0, 1) := by decide +kernel
theorem dX6_first_24 : decode cX6_first 24 = .ok (.aload_n 0, 1) := by decide +kernel
theorem dX6_first_25 : decode cX6_first 25 = .ok (.getfield 21, 3) := by decide +kernel
theorem dX6_first_28 : decode cX6_first 28 = .ok (.aload_n 0, 1) := by decide +kernel
theorem dX6_first_29 : decode cX6_first 29 = .ok (.getfield 64, 3) := by decide +kernel
theorem dX6_first_32 : decode cX6_first 32 = .ok (.invokevirtual 123, 3) := by decide +kernel
theorem dX6_first_35 : decode cX6_first 35 = .ok (.invokestatic 127, 3) := by decide +kernel
theorem dX6_first_38 : decode cX6_first 38 = .ok (.invokevirtual 131, 3) := by decide +kernel
theorem dX6_first_41 : decode cX6_first 41 = .ok (.ireturn, 1) := by decide +kernel
theorem dX6_wins_0 : decode cX6_wins 0 = .ok (.aload_n 0, 1) := by decide +kernel
theorem dX6_wins_1 : decode cX6_wins 1 = .ok (.getfield 10, 3) := by decide +kernel
theorem dX6_wins_4 : decode cX6_wins 4 = .ok (.iload_n 1, 1) := by decide +kernel
theorem dX6_wins_5 : decode cX6_wins 5 = .ok (.invokevirtual 95, 3) := by decide +kernel
theorem dX6_wins_8 : decode cX6_wins 8 = .ok (.ifCond .ne 5, 3) := by decide +kernel
theorem dX6_wins_11 : decode cX6_wins 11 = .ok (.iconst (-1), 1) := by decide +kernel
theorem dX6_wins_12 : decode cX6_wins 12 = .ok (.ireturn, 1) := by decide +kernel
theorem dX6_wins_13 : decode cX6_wins 13 = .ok (.aload_n 0, 1) := by decide +kernel
theorem dX6_wins_14 : decode cX6_wins 14 = .ok (.getfield 30, 3) := by decide +kernel
theorem dX6_wins_17 : decode cX6_wins 17 = .ok (.invokevirtual 134, 3) := by decide +kernel
theorem dX6_wins_20 : decode cX6_wins 20 = .ok (.aload_n 0, 1) := by decide +kernel
theorem dX6_wins_21 : decode cX6_wins 21 = .ok (.getfield 30, 3) := by decide +kernel
theorem dX6_wins_24 : decode cX6_wins 24 = .ok (.getfield 137, 3) := by decide +kernel
theorem dX6_wins_27 : decode cX6_wins 27 = .ok (.aload_n 0, 1) := by decide +kernel
theorem dX6_wins_28 : decode cX6_wins 28 = .ok (.getfield 10, 3) := by decide +kernel
theorem dX6_wins_31 : decode cX6_wins 31 = .ok (.getfield 105, 3) := by decide +kernel
theorem dX6_wins_34 : decode cX6_wins 34 = .ok (.iload_n 1, 1) := by decide +kernel
theorem dX6_wins_35 : decode cX6_wins 35 = .ok (.iaload, 1) := by decide +kernel
theorem dX6_wins_36 : decode cX6_wins 36 = .ok (.iaload, 1) := by decide +kernel
theorem dX6_wins_37 : decode cX6_wins 37 = .ok (.ireturn, 1) := by decide +kernel
theorem dX6_overlap_0 : decode cX6_overlap 0 = .ok (.aload_n 0, 1) := by decide +kernel
theorem dX6_overlap_1 : decode cX6_overlap 1 = .ok (.getfield 10, 3) := by decide +kernel
theorem dX6_overlap_4 : decode cX6_overlap 4 = .ok (.iload_n 1, 1) := by decide +kernel
theorem dX6_overlap_5 : decode cX6_overlap 5 = .ok (.invokevirtual 95, 3) := by decide +kernel
theorem dX6_overlap_8 : decode cX6_overlap 8 = .ok (.ifCond .eq 14, 3) := by decide +kernel
theorem dX6_overlap_11 : decode cX6_overlap 11 = .ok (.aload_n 0, 1) := by decide +kernel
theorem dX6_overlap_12 : decode cX6_overlap 12 = .ok (.getfield 10, 3) := by decide +kernel
theorem dX6_overlap_15 : decode cX6_overlap 15 = .ok (.iload_n 2, 1) := by decide +kernel
theorem dX6_overlap_16 : decode cX6_overlap 16 = .ok (.invokevirtual 95, 3) := by decide +kernel
theorem dX6_overlap_19 : decode cX6_overlap 19 = .ok (.ifCond .ne 5, 3) := by decide +kernel
theorem dX6_overlap_22 : decode cX6_overlap 22 = .ok (.iconst (-1), 1) := by decide +kernel
theorem dX6_overlap_23 : decode cX6_overlap 23 = .ok (.ireturn, 1) := by decide +kernel
theorem dX6_overlap_24 : decode cX6_overlap 24 = .ok (.iconst 1, 1) := by decide +kernel
theorem dX6_overlap_25 : decode cX6_overlap 25 = .ok (.istore_n 3, 1) := by decide +kernel
theorem dX6_overlap_26 : decode cX6_overlap 26 = .ok (.iconst 0, 1) := by decide +kernel
theorem dX6_overlap_27 : decode cX6_overlap 27 = .ok (.istore 4, 2) := by decide +kernel
theorem dX6_overlap_29 : decode cX6_overlap 29 = .ok (.iload 4, 2) := by decide +kernel
theorem dX6_overlap_31 : decode cX6_overlap 31 = .ok (.iconst 4, 1) := by decide +kernel
theorem dX6_overlap_32 : decode cX6_overlap 32 = .ok (.if_icmp .ge 23, 3) := by decide +kernel
theorem dX6_overlap_35 : decode cX6_overlap 35 = .ok (.iload_n 3, 1) := by decide +kernel
theorem dX6_overlap_36 : decode cX6_overlap 36 = .ok (.aload_n 0, 1) := by decide +kernel
theorem dX6_overlap_37 : decode cX6_overlap 37 = .ok (.getfield 10, 3) := by decide +kernel
theorem dX6_overlap_40 : decode cX6_overlap 40 = .ok (.iload_n 1, 1) := by decide +kernel
theorem dX6_overlap_41 : decode cX6_overlap 41 = .ok (.iload_n 2, 1) := by decide +kernel
theorem dX6_overlap_42 : decode cX6_overlap 42 = .ok (.iload 4, 2) := by decide +kernel
theorem dX6_overlap_44 : decode cX6_overlap 44 = .ok (.invokevirtual 140, 3) := by decide +kernel
theorem dX6_overlap_47 : decode cX6_overlap 47 = .ok (.imul, 1) := by decide +kernel
theorem dX6_overlap_48 : decode cX6_overlap 48 = .ok (.istore_n 3, 1) := by decide +kernel
theorem dX6_overlap_49 : decode cX6_overlap 49 = .ok (.iinc 4 1, 3) := by decide +kernel
theorem dX6_overlap_52 : decode cX6_overlap 52 = .ok (.goto (-23), 3) := by decide +kernel
theorem dX6_overlap_55 : decode cX6_overlap 55 = .ok (.iload_n 3, 1) := by decide +kernel
theorem dX6_overlap_56 : decode cX6_overlap 56 = .ok (.ireturn, 1) := by decide +kernel
theorem dX6_covered_0 : decode cX6_covered 0 = .ok (.aload_n 0, 1) := by decide +kernel
theorem dX6_covered_1 : decode cX6_covered 1 = .ok (.getfield 10, 3) := by decide +kernel
theorem dX6_covered_4 : decode cX6_covered 4 = .ok (.iload_n 1, 1) := by decide +kernel
theorem dX6_covered_5 : decode cX6_covered 5 = .ok (.invokevirtual 95, 3) := by decide +kernel
theorem dX6_covered_8 : decode cX6_covered 8 = .ok (.ifCond .ne 5, 3) := by decide +kernel
theorem dX6_covered_11 : decode cX6_covered 11 = .ok (.iconst (-1), 1) := by decide +kernel
theorem dX6_covered_12 : decode cX6_covered 12 = .ok (.ireturn, 1) := by decide +kernel
theorem dX6_covered_13 : decode cX6_covered 13 = .ok (.aload_n 0, 1) := by decide +kernel
theorem dX6_covered_14 : decode cX6_covered 14 = .ok (.getfield 10, 3) := by decide +kernel
theorem dX6_covered_17 : decode cX6_covered 17 = .ok (.iload_n 1, 1) := by decide +kernel
theorem dX6_covered_18 : decode cX6_covered 18 = .ok (.invokevirtual 144, 3) := by decide +kernel
theorem dX6_covered_21 : decode cX6_covered 21 = .ok (.ireturn, 1) := by decide +kernel
theorem dX6_idle_0 : decode cX6_idle 0 = .ok (.aload_n 0, 1) := by decide +kernel
theorem dX6_idle_1 : decode cX6_idle 1 = .ok (.getfield 10, 3) := by decide +kernel
theorem dX6_idle_4 : decode cX6_idle 4 = .ok (.iload_n 1, 1) := by decide +kernel
theorem dX6_idle_5 : decode cX6_idle 5 = .ok (.invokevirtual 95, 3) := by decide +kernel
theorem dX6_idle_8 : decode cX6_idle 8 = .ok (.ifCond .ne 5, 3) := by decide +kernel
theorem dX6_idle_11 : decode cX6_idle 11 = .ok (.iconst (-1), 1) := by decide +kernel
theorem dX6_idle_12 : decode cX6_idle 12 = .ok (.ireturn, 1) := by decide +kernel
theorem dX6_idle_13 : decode cX6_idle 13 = .ok (.aload_n 0, 1) := by decide +kernel
theorem dX6_idle_14 : decode cX6_idle 14 = .ok (.getfield 30, 3) := by decide +kernel
theorem dX6_idle_17 : decode cX6_idle 17 = .ok (.invokevirtual 134, 3) := by decide +kernel
theorem dX6_idle_20 : decode cX6_idle 20 = .ok (.aload_n 0, 1) := by decide +kernel
theorem dX6_idle_21 : decode cX6_idle 21 = .ok (.getfield 30, 3) := by decide +kernel
theorem dX6_idle_24 : decode cX6_idle 24 = .ok (.getfield 147, 3) := by decide +kernel
theorem dX6_idle_27 : decode cX6_idle 27 = .ok (.aload_n 0, 1) := by decide +kernel
theorem dX6_idle_28 : decode cX6_idle 28 = .ok (.getfield 10, 3) := by decide +kernel
theorem dX6_idle_31 : decode cX6_idle 31 = .ok (.getfield 105, 3) := by decide +kernel
theorem dX6_idle_34 : decode cX6_idle 34 = .ok (.iload_n 1, 1) := by decide +kernel
theorem dX6_idle_35 : decode cX6_idle 35 = .ok (.iaload, 1) := by decide +kernel
theorem dX6_idle_36 : decode cX6_idle 36 = .ok (.baload, 1) := by decide +kernel
theorem dX6_idle_37 : decode cX6_idle 37 = .ok (.ifCond .eq 7, 3) := by decide +kernel
theorem dX6_idle_40 : decode cX6_idle 40 = .ok (.iconst 0, 1) := by decide +kernel
theorem dX6_idle_41 : decode cX6_idle 41 = .ok (.goto 4, 3) := by decide +kernel
theorem dX6_idle_44 : decode cX6_idle 44 = .ok (.iconst 1, 1) := by decide +kernel
theorem dX6_idle_45 : decode cX6_idle 45 = .ok (.ireturn, 1) := by decide +kernel
theorem dX6_packets_0 : decode cX6_packets 0 = .ok (.iload_n 1, 1) := by decide +kernel
theorem dX6_packets_1 : decode cX6_packets 1 = .ok (.iconst (-1), 1) := by decide +kernel
theorem dX6_packets_2 : decode cX6_packets 2 = .ok (.if_icmp .eq 13, 3) := by decide +kernel
theorem dX6_packets_5 : decode cX6_packets 5 = .ok (.iload_n 1, 1) := by decide +kernel
theorem dX6_packets_6 : decode cX6_packets 6 = .ok (.invokestatic 81, 3) := by decide +kernel
theorem dX6_packets_9 : decode cX6_packets 9 = .ok (.ifCond .ne 6, 3) := by decide +kernel
theorem dX6_packets_12 : decode cX6_packets 12 = .ok (.bipush (-2), 2) := by decide +kernel
theorem dX6_packets_14 : decode cX6_packets 14 = .ok (.ireturn, 1) := by decide +kernel
theorem dX6_packets_15 : decode cX6_packets 15 = .ok (.aload_n 0, 1) := by decide +kernel
theorem dX6_packets_16 : decode cX6_packets 16 = .ok (.getfield 30, 3) := by decide +kernel
theorem dX6_packets_19 : decode cX6_packets 19 = .ok (.invokevirtual 134, 3) := by decide +kernel
theorem dX6_packets_22 : decode cX6_packets 22 = .ok (.iload_n 1, 1) := by decide +kernel
theorem dX6_packets_23 : decode cX6_packets 23 = .ok (.iconst (-1), 1) := by decide +kernel
theorem dX6_packets_24 : decode cX6_packets 24 = .ok (.if_icmp .ne 13, 3) := by decide +kernel
theorem dX6_packets_27 : decode cX6_packets 27 = .ok (.aload_n 0, 1) := by decide +kernel
theorem dX6_packets_28 : decode cX6_packets 28 = .ok (.getfield 30, 3) := by decide +kernel
theorem dX6_packets_31 : decode cX6_packets 31 = .ok (.getfield 151, 3) := by decide +kernel
theorem dX6_packets_34 : decode cX6_packets 34 = .ok (.goto 11, 3) := by decide +kernel
theorem dX6_packets_37 : decode cX6_packets 37 = .ok (.aload_n 0, 1) := by decide +kernel
theorem dX6_packets_38 : decode cX6_packets 38 = .ok (.getfield 30, 3) := by decide +kernel
theorem dX6_packets_41 : decode cX6_packets 41 = .ok (.iload_n 1, 1) := by decide +kernel
theorem dX6_packets_42 : decode cX6_packets 42 = .ok (.invokevirtual 154, 3) := by decide +kernel
theorem dX6_packets_45 : decode cX6_packets 45 = .ok (.ireturn, 1) := by decide +kernel
theorem dX6_split_0 : decode cX6_split 0 = .ok (.aload_n 0, 1) := by decide +kernel
theorem dX6_split_1 : decode cX6_split 1 = .ok (.getfield 10, 3) := by decide +kernel
theorem dX6_split_4 : decode cX6_split 4 = .ok (.iload_n 1, 1) := by decide +kernel
theorem dX6_split_5 : decode cX6_split 5 = .ok (.invokevirtual 95, 3) := by decide +kernel
theorem dX6_split_8 : decode cX6_split 8 = .ok (.ifCond .eq 10, 3) := by decide +kernel
theorem dX6_split_11 : decode cX6_split 11 = .ok (.iload_n 2, 1) := by decide +kernel
theorem dX6_split_12 : decode cX6_split 12 = .ok (.invokestatic 70, 3) := by decide +kernel
theorem dX6_split_15 : decode cX6_split 15 = .ok (.ifCond .ne 5, 3) := by decide +kernel
theorem dX6_split_18 : decode cX6_split 18 = .ok (.iconst (-1), 1) := by decide +kernel
theorem dX6_split_19 : decode cX6_split 19 = .ok (.ireturn, 1) := by decide +kernel
theorem dX6_split_20 : decode cX6_split 20 = .ok (.iconst 0, 1) := by decide +kernel
theorem dX6_split_21 : decode cX6_split 21 = .ok (.istore_n 3, 1) := by decide +kernel
theorem dX6_split_22 : decode cX6_split 22 = .ok (.iconst 0, 1) := by decide +kernel
theorem dX6_split_23 : decode cX6_split 23 = .ok (.istore 4, 2) := by decide +kernel
theorem dX6_split_25 : decode cX6_split 25 = .ok (.iload 4, 2) := by decide +kernel
theorem dX6_split_27 : decode cX6_split 27 = .ok (.getstatic 157, 3) := by decide +kernel
theorem dX6_split_30 : decode cX6_split 30 = .ok (.iload_n 2, 1) := by decide +kernel
theorem dX6_split_31 : decode cX6_split 31 = .ok (.iaload, 1) := by decide +kernel
theorem dX6_split_32 : decode cX6_split 32 = .ok (.if_icmp .gt 23, 3) := by decide +kernel
theorem dX6_split_35 : decode cX6_split 35 = .ok (.iload_n 3, 1) := by decide +kernel
theorem dX6_split_36 : decode cX6_split 36 = .ok (.aload_n 0, 1) := by decide +kernel
theorem dX6_split_37 : decode cX6_split 37 = .ok (.getfield 10, 3) := by decide +kernel
theorem dX6_split_40 : decode cX6_split 40 = .ok (.iload_n 1, 1) := by decide +kernel
theorem dX6_split_41 : decode cX6_split 41 = .ok (.iload_n 2, 1) := by decide +kernel
theorem dX6_split_42 : decode cX6_split 42 = .ok (.iload 4, 2) := by decide +kernel
theorem dX6_split_44 : decode cX6_split 44 = .ok (.invokevirtual 160, 3) := by decide +kernel
theorem dX6_split_47 : decode cX6_split 47 = .ok (.iadd, 1) := by decide +kernel
theorem dX6_split_48 : decode cX6_split 48 = .ok (.istore_n 3, 1) := by decide +kernel
theorem dX6_split_49 : decode cX6_split 49 = .ok (.iinc 4 1, 3) := by decide +kernel
theorem dX6_split_52 : decode cX6_split 52 = .ok (.goto (-27), 3) := by decide +kernel
theorem dX6_split_55 : decode cX6_split 55 = .ok (.iload_n 3, 1) := by decide +kernel
theorem dX6_split_56 : decode cX6_split 56 = .ok (.ireturn, 1) := by decide +kernel
theorem dX6_prefix_0 : decode cX6_prefix 0 = .ok (.aload_n 0, 1) := by decide +kernel
theorem dX6_prefix_1 : decode cX6_prefix 1 = .ok (.getfield 10, 3) := by decide +kernel
theorem dX6_prefix_4 : decode cX6_prefix 4 = .ok (.iload_n 1, 1) := by decide +kernel
theorem dX6_prefix_5 : decode cX6_prefix 5 = .ok (.invokevirtual 95, 3) := by decide +kernel
theorem dX6_prefix_8 : decode cX6_prefix 8 = .ok (.ifCond .eq 10, 3) := by decide +kernel
theorem dX6_prefix_11 : decode cX6_prefix 11 = .ok (.iload_n 2, 1) := by decide +kernel
theorem dX6_prefix_12 : decode cX6_prefix 12 = .ok (.invokestatic 70, 3) := by decide +kernel
theorem dX6_prefix_15 : decode cX6_prefix 15 = .ok (.ifCond .ne 5, 3) := by decide +kernel
theorem dX6_prefix_18 : decode cX6_prefix 18 = .ok (.iconst (-1), 1) := by decide +kernel
theorem dX6_prefix_19 : decode cX6_prefix 19 = .ok (.ireturn, 1) := by decide +kernel
theorem dX6_prefix_20 : decode cX6_prefix 20 = .ok (.iload 4, 2) := by decide +kernel
theorem dX6_prefix_22 : decode cX6_prefix 22 = .ok (.ifCond .eq 12, 3) := by decide +kernel
theorem dX6_prefix_25 : decode cX6_prefix 25 = .ok (.iload 4, 2) := by decide +kernel
theorem dX6_prefix_27 : decode cX6_prefix 27 = .ok (.iconst 1, 1) := by decide +kernel
theorem dX6_prefix_28 : decode cX6_prefix 28 = .ok (.if_icmp .eq 6, 3) := by decide +kernel
theorem dX6_prefix_31 : decode cX6_prefix 31 = .ok (.bipush (-2), 2) := by decide +kernel
theorem dX6_prefix_33 : decode cX6_prefix 33 = .ok (.ireturn, 1) := by decide +kernel
theorem dX6_prefix_34 : decode cX6_prefix 34 = .ok (.aload_n 0, 1) := by decide +kernel
theorem dX6_prefix_35 : decode cX6_prefix 35 = .ok (.getfield 10, 3) := by decide +kernel
theorem dX6_prefix_38 : decode cX6_prefix 38 = .ok (.iload_n 1, 1) := by decide +kernel
theorem dX6_prefix_39 : decode cX6_prefix 39 = .ok (.iload_n 2, 1) := by decide +kernel
theorem dX6_prefix_40 : decode cX6_prefix 40 = .ok (.iload_n 3, 1) := by decide +kernel
theorem dX6_prefix_41 : decode cX6_prefix 41 = .ok (.invokevirtual 163, 3) := by decide +kernel
theorem dX6_prefix_44 : decode cX6_prefix 44 = .ok (.istore 5, 2) := by decide +kernel
theorem dX6_prefix_46 : decode cX6_prefix 46 = .ok (.iload 5, 2) := by decide +kernel
theorem dX6_prefix_48 : decode cX6_prefix 48 = .ok (.ifCond .ge 6, 3) := by decide +kernel
theorem dX6_prefix_51 : decode cX6_prefix 51 = .ok (.bipush (-6), 2) := by decide +kernel
theorem dX6_prefix_53 : decode cX6_prefix 53 = .ok (.ireturn, 1) := by decide +kernel
theorem dX6_prefix_54 : decode cX6_prefix 54 = .ok (.iload 4, 2) := by decide +kernel
theorem dX6_prefix_56 : decode cX6_prefix 56 = .ok (.ifCond .ne 8, 3) := by decide +kernel
theorem dX6_prefix_59 : decode cX6_prefix 59 = .ok (.iload 5, 2) := by decide +kernel
theorem dX6_prefix_61 : decode cX6_prefix 61 = .ok (.goto 14, 3) := by decide +kernel
theorem dX6_prefix_64 : decode cX6_prefix 64 = .ok (.aload_n 0, 1) := by decide +kernel
theorem dX6_prefix_65 : decode cX6_prefix 65 = .ok (.getfield 10, 3) := by decide +kernel
theorem dX6_prefix_68 : decode cX6_prefix 68 = .ok (.iload_n 1, 1) := by decide +kernel
theorem dX6_prefix_69 : decode cX6_prefix 69 = .ok (.iload_n 2, 1) := by decide +kernel
theorem dX6_prefix_70 : decode cX6_prefix 70 = .ok (.iload 5, 2) := by decide +kernel
theorem dX6_prefix_72 : decode cX6_prefix 72 = .ok (.invokevirtual 166, 3) := by decide +kernel
theorem dX6_prefix_75 : decode cX6_prefix 75 = .ok (.ireturn, 1) := by decide +kernel
theorem dX6_tuple_0 : decode cX6_tuple 0 = .ok (.iload_n 2, 1) := by decide +kernel
theorem dX6_tuple_1 : decode cX6_tuple 1 = .ok (.ifCond .lt 9, 3) := by decide +kernel
theorem dX6_tuple_4 : decode cX6_tuple 4 = .ok (.iload_n 2, 1) := by decide +kernel
theorem dX6_tuple_5 : decode cX6_tuple 5 = .ok (.bipush 6, 2) := by decide +kernel
theorem dX6_tuple_7 : decode cX6_tuple 7 = .ok (.if_icmp .le 6, 3) := by decide +kernel
theorem dX6_tuple_10 : decode cX6_tuple 10 = .ok (.bipush (-2), 2) := by decide +kernel
theorem dX6_tuple_12 : decode cX6_tuple 12 = .ok (.ireturn, 1) := by decide +kernel
theorem dX6_tuple_13 : decode cX6_tuple 13 = .ok (.aload_n 0, 1) := by decide +kernel
theorem dX6_tuple_14 : decode cX6_tuple 14 = .ok (.getfield 37, 3) := by decide +kernel
theorem dX6_tuple_17 : decode cX6_tuple 17 = .ok (.invokevirtual 169, 3) := by decide +kernel
theorem dX6_tuple_20 : decode cX6_tuple 20 = .ok (.iload_n 1, 1) := by decide +kernel
theorem dX6_tuple_21 : decode cX6_tuple 21 = .ok (.ifCond .lt 14, 3) := by decide +kernel
theorem dX6_tuple_24 : decode cX6_tuple 24 = .ok (.iload_n 1, 1) := by decide +kernel
theorem dX6_tuple_25 : decode cX6_tuple 25 = .ok (.aload_n 0, 1) := by decide +kernel
theorem dX6_tuple_26 : decode cX6_tuple 26 = .ok (.getfield 37, 3) := by decide +kernel
theorem dX6_tuple_29 : decode cX6_tuple 29 = .ok (.getfield 170, 3) := by decide +kernel
theorem dX6_tuple_32 : decode cX6_tuple 32 = .ok (.if_icmp .lt 6, 3) := by decide +kernel
theorem dX6_tuple_35 : decode cX6_tuple 35 = .ok (.bipush (-6), 2) := by decide +kernel
theorem dX6_tuple_37 : decode cX6_tuple 37 = .ok (.ireturn, 1) := by decide +kernel
theorem dX6_tuple_38 : decode cX6_tuple 38 = .ok (.iload_n 2, 1) := by decide +kernel
theorem dX6_tuple_39 : decode cX6_tuple 39 = .ok (.tableswitch 59 4 6 #[25, 35, 49], 25) := by decide +kernel
theorem dX6_tuple_64 : decode cX6_tuple 64 = .ok (.aload_n 0, 1) := by decide +kernel
theorem dX6_tuple_65 : decode cX6_tuple 65 = .ok (.getfield 37, 3) := by decide +kernel
theorem dX6_tuple_68 : decode cX6_tuple 68 = .ok (.getfield 171, 3) := by decide +kernel
theorem dX6_tuple_71 : decode cX6_tuple 71 = .ok (.iload_n 1, 1) := by decide +kernel
theorem dX6_tuple_72 : decode cX6_tuple 72 = .ok (.iaload, 1) := by decide +kernel
theorem dX6_tuple_73 : decode cX6_tuple 73 = .ok (.ireturn, 1) := by decide +kernel
theorem dX6_tuple_74 : decode cX6_tuple 74 = .ok (.aload_n 0, 1) := by decide +kernel
theorem dX6_tuple_75 : decode cX6_tuple 75 = .ok (.aload_n 0, 1) := by decide +kernel
theorem dX6_tuple_76 : decode cX6_tuple 76 = .ok (.getfield 37, 3) := by decide +kernel
theorem dX6_tuple_79 : decode cX6_tuple 79 = .ok (.getfield 174, 3) := by decide +kernel
theorem dX6_tuple_82 : decode cX6_tuple 82 = .ok (.iload_n 1, 1) := by decide +kernel
theorem dX6_tuple_83 : decode cX6_tuple 83 = .ok (.iaload, 1) := by decide +kernel
theorem dX6_tuple_84 : decode cX6_tuple 84 = .ok (.invokevirtual 131, 3) := by decide +kernel
theorem dX6_tuple_87 : decode cX6_tuple 87 = .ok (.ireturn, 1) := by decide +kernel
theorem dX6_tuple_88 : decode cX6_tuple 88 = .ok (.aload_n 0, 1) := by decide +kernel
theorem dX6_tuple_89 : decode cX6_tuple 89 = .ok (.getfield 37, 3) := by decide +kernel
theorem dX6_tuple_92 : decode cX6_tuple 92 = .ok (.getfield 177, 3) := by decide +kernel
theorem dX6_tuple_95 : decode cX6_tuple 95 = .ok (.iload_n 1, 1) := by decide +kernel
theorem dX6_tuple_96 : decode cX6_tuple 96 = .ok (.iaload, 1) := by decide +kernel
theorem dX6_tuple_97 : decode cX6_tuple 97 = .ok (.ireturn, 1) := by decide +kernel
theorem dX6_tuple_98 : decode cX6_tuple 98 = .ok (.aload_n 0, 1) := by decide +kernel
theorem dX6_tuple_99 : decode cX6_tuple 99 = .ok (.getfield 37, 3) := by decide +kernel
theorem dX6_tuple_102 : decode cX6_tuple 102 = .ok (.iload_n 1, 1) := by decide +kernel
theorem dX6_tuple_103 : decode cX6_tuple 103 = .ok (.iload_n 2, 1) := by decide +kernel
theorem dX6_tuple_104 : decode cX6_tuple 104 = .ok (.invokevirtual 180, 3) := by decide +kernel
theorem dX6_tuple_107 : decode cX6_tuple 107 = .ok (.ireturn, 1) := by decide +kernel
theorem dX6_probe_0 : decode cX6_probe 0 = .ok (.iload_n 1, 1) := by decide +kernel
theorem dX6_probe_1 : decode cX6_probe 1 = .ok (.iload_n 2, 1) := by decide +kernel
theorem dX6_probe_2 : decode cX6_probe 2 = .ok (.iload_n 3, 1) := by decide +kernel
theorem dX6_probe_3 : decode cX6_probe 3 = .ok (.iload 4, 2) := by decide +kernel
theorem dX6_probe_5 : decode cX6_probe 5 = .ok (.invokestatic 115, 3) := by decide +kernel
theorem dX6_probe_8 : decode cX6_probe 8 = .ok (.ifCond .eq 14, 3) := by decide +kernel
theorem dX6_probe_11 : decode cX6_probe 11 = .ok (.iload 5, 2) := by decide +kernel
theorem dX6_probe_13 : decode cX6_probe 13 = .ok (.ifCond .lt 9, 3) := by decide +kernel
theorem dX6_probe_16 : decode cX6_probe 16 = .ok (.iload 5, 2) := by decide +kernel
theorem dX6_probe_18 : decode cX6_probe 18 = .ok (.iconst 2, 1) := by decide +kernel
theorem dX6_probe_19 : decode cX6_probe 19 = .ok (.if_icmp .le 6, 3) := by decide +kernel
theorem dX6_probe_22 : decode cX6_probe 22 = .ok (.bipush (-2), 2) := by decide +kernel
theorem dX6_probe_24 : decode cX6_probe 24 = .ok (.ireturn, 1) := by decide +kernel
theorem dX6_probe_25 : decode cX6_probe 25 = .ok (.aload_n 0, 1) := by decide +kernel
theorem dX6_probe_26 : decode cX6_probe 26 = .ok (.iload_n 1, 1) := by decide +kernel
theorem dX6_probe_27 : decode cX6_probe 27 = .ok (.iload_n 2, 1) := by decide +kernel
theorem dX6_probe_28 : decode cX6_probe 28 = .ok (.iload_n 3, 1) := by decide +kernel
theorem dX6_probe_29 : decode cX6_probe 29 = .ok (.iload 4, 2) := by decide +kernel
theorem dX6_probe_31 : decode cX6_probe 31 = .ok (.invokevirtual 119, 3) := by decide +kernel
theorem dX6_probe_34 : decode cX6_probe 34 = .ok (.aload_n 0, 1) := by decide +kernel
theorem dX6_probe_35 : decode cX6_probe 35 = .ok (.getfield 37, 3) := by decide +kernel
theorem dX6_probe_38 : decode cX6_probe 38 = .ok (.invokevirtual 169, 3) := by decide +kernel
theorem dX6_probe_41 : decode cX6_probe 41 = .ok (.aload_n 0, 1) := by decide +kernel
theorem dX6_probe_42 : decode cX6_probe 42 = .ok (.getfield 37, 3) := by decide +kernel
theorem dX6_probe_45 : decode cX6_probe 45 = .ok (.aload_n 0, 1) := by decide +kernel
theorem dX6_probe_46 : decode cX6_probe 46 = .ok (.getfield 64, 3) := by decide +kernel
theorem dX6_probe_49 : decode cX6_probe 49 = .ok (.invokevirtual 183, 3) := by decide +kernel
theorem dX6_probe_52 : decode cX6_probe 52 = .ok (.iload 5, 2) := by decide +kernel
theorem dX6_probe_54 : decode cX6_probe 54 = .ok (.lookupswitch 46 #[(0, 26), (1, 38)], 26) := by decide +kernel
theorem dX6_probe_80 : decode cX6_probe 80 = .ok (.aload_n 0, 1) := by decide +kernel
theorem dX6_probe_81 : decode cX6_probe 81 = .ok (.aload_n 0, 1) := by decide +kernel
theorem dX6_probe_82 : decode cX6_probe 82 = .ok (.getfield 37, 3) := by decide +kernel
theorem dX6_probe_85 : decode cX6_probe 85 = .ok (.getfield 187, 3) := by decide +kernel
theorem dX6_probe_88 : decode cX6_probe 88 = .ok (.invokevirtual 131, 3) := by decide +kernel
theorem dX6_probe_91 : decode cX6_probe 91 = .ok (.ireturn, 1) := by decide +kernel
theorem dX6_probe_92 : decode cX6_probe 92 = .ok (.aload_n 0, 1) := by decide +kernel
theorem dX6_probe_93 : decode cX6_probe 93 = .ok (.getfield 37, 3) := by decide +kernel
theorem dX6_probe_96 : decode cX6_probe 96 = .ok (.getfield 190, 3) := by decide +kernel
theorem dX6_probe_99 : decode cX6_probe 99 = .ok (.ireturn, 1) := by decide +kernel
theorem dX6_probe_100 : decode cX6_probe 100 = .ok (.aload_n 0, 1) := by decide +kernel
theorem dX6_probe_101 : decode cX6_probe 101 = .ok (.getfield 37, 3) := by decide +kernel
theorem dX6_probe_104 : decode cX6_probe 104 = .ok (.getfield 190, 3) := by decide +kernel
theorem dX6_probe_107 : decode cX6_probe 107 = .ok (.ifCond .le 15, 3) := by decide +kernel
theorem dX6_probe_110 : decode cX6_probe 110 = .ok (.aload_n 0, 1) := by decide +kernel
theorem dX6_probe_111 : decode cX6_probe 111 = .ok (.getfield 37, 3) := by decide +kernel
theorem dX6_probe_114 : decode cX6_probe 114 = .ok (.getfield 190, 3) := by decide +kernel
theorem dX6_probe_117 : decode cX6_probe 117 = .ok (.iconst 1, 1) := by decide +kernel
theorem dX6_probe_118 : decode cX6_probe 118 = .ok (.isub, 1) := by decide +kernel
theorem dX6_probe_119 : decode cX6_probe 119 = .ok (.goto 5, 3) := by decide +kernel
theorem dX6_probe_122 : decode cX6_probe 122 = .ok (.bipush (-6), 2) := by decide +kernel
theorem dX6_probe_124 : decode cX6_probe 124 = .ok (.ireturn, 1) := by decide +kernel
theorem dX6_grow_0 : decode cX6_grow 0 = .ok (.iload_n 1, 1) := by decide +kernel
theorem dX6_grow_1 : decode cX6_grow 1 = .ok (.ifCond .ne 31, 3) := by decide +kernel
theorem dX6_grow_4 : decode cX6_grow 4 = .ok (.iload_n 2, 1) := by decide +kernel
theorem dX6_grow_5 : decode cX6_grow 5 = .ok (.iconst 1, 1) := by decide +kernel
theorem dX6_grow_6 : decode cX6_grow 6 = .ok (.if_icmp .lt 26, 3) := by decide +kernel
theorem dX6_grow_9 : decode cX6_grow 9 = .ok (.iload_n 2, 1) := by decide +kernel
theorem dX6_grow_10 : decode cX6_grow 10 = .ok (.iconst 4, 1) := by decide +kernel
theorem dX6_grow_11 : decode cX6_grow 11 = .ok (.if_icmp .gt 21, 3) := by decide +kernel
theorem dX6_grow_14 : decode cX6_grow 14 = .ok (.aload_n 0, 1) := by decide +kernel
theorem dX6_grow_15 : decode cX6_grow 15 = .ok (.getfield 46, 3) := by decide +kernel
theorem dX6_grow_18 : decode cX6_grow 18 = .ok (.getfield 193, 3) := by decide +kernel
theorem dX6_grow_21 : decode cX6_grow 21 = .ok (.istore_n 3, 1) := by decide +kernel
theorem dX6_grow_22 : decode cX6_grow 22 = .ok (.aload_n 0, 1) := by decide +kernel
theorem dX6_grow_23 : decode cX6_grow 23 = .ok (.getfield 46, 3) := by decide +kernel
theorem dX6_grow_26 : decode cX6_grow 26 = .ok (.iload_n 2, 1) := by decide +kernel
theorem dX6_grow_27 : decode cX6_grow 27 = .ok (.putfield 193, 3) := by decide +kernel
theorem dX6_grow_30 : decode cX6_grow 30 = .ok (.iload_n 3, 1) := by decide +kernel
theorem dX6_grow_31 : decode cX6_grow 31 = .ok (.ireturn, 1) := by decide +kernel
theorem dX6_grow_32 : decode cX6_grow 32 = .ok (.iload_n 1, 1) := by decide +kernel
theorem dX6_grow_33 : decode cX6_grow 33 = .ok (.iconst 1, 1) := by decide +kernel
theorem dX6_grow_34 : decode cX6_grow 34 = .ok (.if_icmp .ne 32, 3) := by decide +kernel
theorem dX6_grow_37 : decode cX6_grow 37 = .ok (.iload_n 2, 1) := by decide +kernel
theorem dX6_grow_38 : decode cX6_grow 38 = .ok (.iconst 1, 1) := by decide +kernel
theorem dX6_grow_39 : decode cX6_grow 39 = .ok (.if_icmp .lt 27, 3) := by decide +kernel
theorem dX6_grow_42 : decode cX6_grow 42 = .ok (.iload_n 2, 1) := by decide +kernel
theorem dX6_grow_43 : decode cX6_grow 43 = .ok (.bipush 8, 2) := by decide +kernel
theorem dX6_grow_45 : decode cX6_grow 45 = .ok (.if_icmp .gt 21, 3) := by decide +kernel
theorem dX6_grow_48 : decode cX6_grow 48 = .ok (.aload_n 0, 1) := by decide +kernel
theorem dX6_grow_49 : decode cX6_grow 49 = .ok (.getfield 46, 3) := by decide +kernel
theorem dX6_grow_52 : decode cX6_grow 52 = .ok (.getfield 196, 3) := by decide +kernel
theorem dX6_grow_55 : decode cX6_grow 55 = .ok (.istore_n 3, 1) := by decide +kernel
theorem dX6_grow_56 : decode cX6_grow 56 = .ok (.aload_n 0, 1) := by decide +kernel
theorem dX6_grow_57 : decode cX6_grow 57 = .ok (.getfield 46, 3) := by decide +kernel
theorem dX6_grow_60 : decode cX6_grow 60 = .ok (.iload_n 2, 1) := by decide +kernel
theorem dX6_grow_61 : decode cX6_grow 61 = .ok (.putfield 196, 3) := by decide +kernel
theorem dX6_grow_64 : decode cX6_grow 64 = .ok (.iload_n 3, 1) := by decide +kernel
theorem dX6_grow_65 : decode cX6_grow 65 = .ok (.ireturn, 1) := by decide +kernel
theorem dX6_grow_66 : decode cX6_grow 66 = .ok (.bipush (-2), 2) := by decide +kernel
theorem dX6_grow_68 : decode cX6_grow 68 = .ok (.ireturn, 1) := by decide +kernel
theorem dX6_tree_0 : decode cX6_tree 0 = .ok (.iload_n 1, 1) := by decide +kernel
theorem dX6_tree_1 : decode cX6_tree 1 = .ok (.ifCond .lt 8, 3) := by decide +kernel
theorem dX6_tree_4 : decode cX6_tree 4 = .ok (.iload_n 1, 1) := by decide +kernel
theorem dX6_tree_5 : decode cX6_tree 5 = .ok (.iconst 5, 1) := by decide +kernel
theorem dX6_tree_6 : decode cX6_tree 6 = .ok (.if_icmp .le 6, 3) := by decide +kernel
theorem dX6_tree_9 : decode cX6_tree 9 = .ok (.bipush (-2), 2) := by decide +kernel
theorem dX6_tree_11 : decode cX6_tree 11 = .ok (.ireturn, 1) := by decide +kernel
theorem dX6_tree_12 : decode cX6_tree 12 = .ok (.aload_n 0, 1) := by decide +kernel
theorem dX6_tree_13 : decode cX6_tree 13 = .ok (.getfield 46, 3) := by decide +kernel
theorem dX6_tree_16 : decode cX6_tree 16 = .ok (.invokevirtual 199, 3) := by decide +kernel
theorem dX6_tree_19 : decode cX6_tree 19 = .ok (.iload_n 1, 1) := by decide +kernel
theorem dX6_tree_20 : decode cX6_tree 20 = .ok (.tableswitch 76 0 4 #[36, 44, 52, 60, 68], 36) := by decide +kernel
theorem dX6_tree_56 : decode cX6_tree 56 = .ok (.aload_n 0, 1) := by decide +kernel
theorem dX6_tree_57 : decode cX6_tree 57 = .ok (.getfield 46, 3) := by decide +kernel
theorem dX6_tree_60 : decode cX6_tree 60 = .ok (.getfield 202, 3) := by decide +kernel
theorem dX6_tree_63 : decode cX6_tree 63 = .ok (.ireturn, 1) := by decide +kernel
theorem dX6_tree_64 : decode cX6_tree 64 = .ok (.aload_n 0, 1) := by decide +kernel
theorem dX6_tree_65 : decode cX6_tree 65 = .ok (.getfield 46, 3) := by decide +kernel
theorem dX6_tree_68 : decode cX6_tree 68 = .ok (.getfield 205, 3) := by decide +kernel
theorem dX6_tree_71 : decode cX6_tree 71 = .ok (.ireturn, 1) := by decide +kernel
theorem dX6_tree_72 : decode cX6_tree 72 = .ok (.aload_n 0, 1) := by decide +kernel
theorem dX6_tree_73 : decode cX6_tree 73 = .ok (.getfield 46, 3) := by decide +kernel
theorem dX6_tree_76 : decode cX6_tree 76 = .ok (.getfield 208, 3) := by decide +kernel
theorem dX6_tree_79 : decode cX6_tree 79 = .ok (.ireturn, 1) := by decide +kernel
theorem dX6_tree_80 : decode cX6_tree 80 = .ok (.aload_n 0, 1) := by decide +kernel
theorem dX6_tree_81 : decode cX6_tree 81 = .ok (.getfield 46, 3) := by decide +kernel
theorem dX6_tree_84 : decode cX6_tree 84 = .ok (.getfield 211, 3) := by decide +kernel
theorem dX6_tree_87 : decode cX6_tree 87 = .ok (.ireturn, 1) := by decide +kernel
theorem dX6_tree_88 : decode cX6_tree 88 = .ok (.aload_n 0, 1) := by decide +kernel
theorem dX6_tree_89 : decode cX6_tree 89 = .ok (.getfield 46, 3) := by decide +kernel
theorem dX6_tree_92 : decode cX6_tree 92 = .ok (.getfield 214, 3) := by decide +kernel
theorem dX6_tree_95 : decode cX6_tree 95 = .ok (.ireturn, 1) := by decide +kernel
theorem dX6_tree_96 : decode cX6_tree 96 = .ok (.aload_n 0, 1) := by decide +kernel
theorem dX6_tree_97 : decode cX6_tree 97 = .ok (.getfield 46, 3) := by decide +kernel
theorem dX6_tree_100 : decode cX6_tree 100 = .ok (.getfield 217, 3) := by decide +kernel
theorem dX6_tree_103 : decode cX6_tree 103 = .ok (.ireturn, 1) := by decide +kernel
theorem dX6_walk_0 : decode cX6_walk 0 = .ok (.iload 5, 2) := by decide +kernel
theorem dX6_walk_2 : decode cX6_walk 2 = .ok (.bipush 10, 2) := by decide +kernel
theorem dX6_walk_4 : decode cX6_walk 4 = .ok (.if_icmp .lt 18, 3) := by decide +kernel
theorem dX6_walk_7 : decode cX6_walk 7 = .ok (.iload 5, 2) := by decide +kernel
theorem dX6_walk_9 : decode cX6_walk 9 = .ok (.bipush 10, 2) := by decide +kernel
theorem dX6_walk_11 : decode cX6_walk 11 = .ok (.isub, 1) := by decide +kernel
theorem dX6_walk_12 : decode cX6_walk 12 = .ok (.invokestatic 70, 3) := by decide +kernel
theorem dX6_walk_15 : decode cX6_walk 15 = .ok (.ifCond .eq 7, 3) := by decide +kernel
theorem dX6_walk_18 : decode cX6_walk 18 = .ok (.iconst 1, 1) := by decide +kernel
theorem dX6_walk_19 : decode cX6_walk 19 = .ok (.goto 4, 3) := by decide +kernel
theorem dX6_walk_22 : decode cX6_walk 22 = .ok (.iconst 0, 1) := by decide +kernel
theorem dX6_walk_23 : decode cX6_walk 23 = .ok (.istore 6, 2) := by decide +kernel
theorem dX6_walk_25 : decode cX6_walk 25 = .ok (.iload_n 1, 1) := by decide +kernel
theorem dX6_walk_26 : decode cX6_walk 26 = .ok (.iload_n 2, 1) := by decide +kernel
theorem dX6_walk_27 : decode cX6_walk 27 = .ok (.iload_n 3, 1) := by decide +kernel
theorem dX6_walk_28 : decode cX6_walk 28 = .ok (.iload 4, 2) := by decide +kernel
theorem dX6_walk_30 : decode cX6_walk 30 = .ok (.invokestatic 115, 3) := by decide +kernel
theorem dX6_walk_33 : decode cX6_walk 33 = .ok (.ifCond .eq 19, 3) := by decide +kernel
theorem dX6_walk_36 : decode cX6_walk 36 = .ok (.iload 6, 2) := by decide +kernel
theorem dX6_walk_38 : decode cX6_walk 38 = .ok (.ifCond .ne 17, 3) := by decide +kernel
theorem dX6_walk_41 : decode cX6_walk 41 = .ok (.iload 5, 2) := by decide +kernel
theorem dX6_walk_43 : decode cX6_walk 43 = .ok (.ifCond .lt 9, 3) := by decide +kernel
theorem dX6_walk_46 : decode cX6_walk 46 = .ok (.iload 5, 2) := by decide +kernel
theorem dX6_walk_48 : decode cX6_walk 48 = .ok (.iconst 2, 1) := by decide +kernel
theorem dX6_walk_49 : decode cX6_walk 49 = .ok (.if_icmp .le 6, 3) := by decide +kernel
theorem dX6_walk_52 : decode cX6_walk 52 = .ok (.bipush (-2), 2) := by decide +kernel
theorem dX6_walk_54 : decode cX6_walk 54 = .ok (.ireturn, 1) := by decide +kernel
theorem dX6_walk_55 : decode cX6_walk 55 = .ok (.aload_n 0, 1) := by decide +kernel
theorem dX6_walk_56 : decode cX6_walk 56 = .ok (.iload_n 1, 1) := by decide +kernel
theorem dX6_walk_57 : decode cX6_walk 57 = .ok (.iload_n 2, 1) := by decide +kernel
theorem dX6_walk_58 : decode cX6_walk 58 = .ok (.iload_n 3, 1) := by decide +kernel
theorem dX6_walk_59 : decode cX6_walk 59 = .ok (.iload 4, 2) := by decide +kernel
theorem dX6_walk_61 : decode cX6_walk 61 = .ok (.invokevirtual 119, 3) := by decide +kernel
theorem dX6_walk_64 : decode cX6_walk 64 = .ok (.aload_n 0, 1) := by decide +kernel
theorem dX6_walk_65 : decode cX6_walk 65 = .ok (.getfield 46, 3) := by decide +kernel
theorem dX6_walk_68 : decode cX6_walk 68 = .ok (.aload_n 0, 1) := by decide +kernel
theorem dX6_walk_69 : decode cX6_walk 69 = .ok (.getfield 64, 3) := by decide +kernel
theorem dX6_walk_72 : decode cX6_walk 72 = .ok (.invokevirtual 220, 3) := by decide +kernel
theorem dX6_walk_75 : decode cX6_walk 75 = .ok (.istore 7, 2) := by decide +kernel
theorem dX6_walk_77 : decode cX6_walk 77 = .ok (.iload 6, 2) := by decide +kernel
theorem dX6_walk_79 : decode cX6_walk 79 = .ok (.ifCond .eq 17, 3) := by decide +kernel
theorem dX6_walk_82 : decode cX6_walk 82 = .ok (.aload_n 0, 1) := by decide +kernel
theorem dX6_walk_83 : decode cX6_walk 83 = .ok (.getfield 46, 3) := by decide +kernel
theorem dX6_walk_86 : decode cX6_walk 86 = .ok (.getfield 223, 3) := by decide +kernel
theorem dX6_walk_89 : decode cX6_walk 89 = .ok (.iload 5, 2) := by decide +kernel
theorem dX6_walk_91 : decode cX6_walk 91 = .ok (.bipush 10, 2) := by decide +kernel
theorem dX6_walk_93 : decode cX6_walk 93 = .ok (.isub, 1) := by decide +kernel
theorem dX6_walk_94 : decode cX6_walk 94 = .ok (.iaload, 1) := by decide +kernel
theorem dX6_walk_95 : decode cX6_walk 95 = .ok (.ireturn, 1) := by decide +kernel
theorem dX6_walk_96 : decode cX6_walk 96 = .ok (.iload 5, 2) := by decide +kernel
theorem dX6_walk_98 : decode cX6_walk 98 = .ok (.lookupswitch 40 #[(0, 26), (1, 34)], 26) := by decide +kernel
theorem dX6_walk_124 : decode cX6_walk 124 = .ok (.aload_n 0, 1) := by decide +kernel
theorem dX6_walk_125 : decode cX6_walk 125 = .ok (.getfield 46, 3) := by decide +kernel
theorem dX6_walk_128 : decode cX6_walk 128 = .ok (.getfield 226, 3) := by decide +kernel
theorem dX6_walk_131 : decode cX6_walk 131 = .ok (.ireturn, 1) := by decide +kernel
theorem dX6_walk_132 : decode cX6_walk 132 = .ok (.iload 7, 2) := by decide +kernel
theorem dX6_walk_134 : decode cX6_walk 134 = .ok (.invokestatic 229, 3) := by decide +kernel
theorem dX6_walk_137 : decode cX6_walk 137 = .ok (.ireturn, 1) := by decide +kernel
theorem dX6_walk_138 : decode cX6_walk 138 = .ok (.iload 7, 2) := by decide +kernel
theorem dX6_walk_140 : decode cX6_walk 140 = .ok (.aload_n 0, 1) := by decide +kernel
theorem dX6_walk_141 : decode cX6_walk 141 = .ok (.getfield 21, 3) := by decide +kernel
theorem dX6_walk_144 : decode cX6_walk 144 = .ok (.aload_n 0, 1) := by decide +kernel
theorem dX6_walk_145 : decode cX6_walk 145 = .ok (.getfield 64, 3) := by decide +kernel
theorem dX6_walk_148 : decode cX6_walk 148 = .ok (.invokevirtual 123, 3) := by decide +kernel
theorem dX6_walk_151 : decode cX6_walk 151 = .ok (.invokestatic 234, 3) := by decide +kernel
theorem dX6_walk_154 : decode cX6_walk 154 = .ok (.ireturn, 1) := by decide +kernel
theorem dX6_image_0 : decode cX6_image 0 = .ok (.iload_n 1, 1) := by decide +kernel
theorem dX6_image_1 : decode cX6_image 1 = .ok (.ifCond .lt 8, 3) := by decide +kernel
theorem dX6_image_4 : decode cX6_image 4 = .ok (.iload_n 1, 1) := by decide +kernel
theorem dX6_image_5 : decode cX6_image 5 = .ok (.iconst 2, 1) := by decide +kernel
theorem dX6_image_6 : decode cX6_image 6 = .ok (.if_icmp .lt 6, 3) := by decide +kernel
theorem dX6_image_9 : decode cX6_image 9 = .ok (.bipush (-2), 2) := by decide +kernel
theorem dX6_image_11 : decode cX6_image 11 = .ok (.ireturn, 1) := by decide +kernel
theorem dX6_image_12 : decode cX6_image 12 = .ok (.aload_n 0, 1) := by decide +kernel
theorem dX6_image_13 : decode cX6_image 13 = .ok (.getfield 52, 3) := by decide +kernel
theorem dX6_image_16 : decode cX6_image 16 = .ok (.iload_n 1, 1) := by decide +kernel
theorem dX6_image_17 : decode cX6_image 17 = .ok (.aaload, 1) := by decide +kernel
theorem dX6_image_18 : decode cX6_image 18 = .ok (.astore_n 2, 1) := by decide +kernel
theorem dX6_image_19 : decode cX6_image 19 = .ok (.aload_n 2, 1) := by decide +kernel
theorem dX6_image_20 : decode cX6_image 20 = .ok (.getfield 237, 3) := by decide +kernel
theorem dX6_image_23 : decode cX6_image 23 = .ok (.aload_n 0, 1) := by decide +kernel
theorem dX6_image_24 : decode cX6_image 24 = .ok (.getfield 10, 3) := by decide +kernel
theorem dX6_image_27 : decode cX6_image 27 = .ok (.invokevirtual 238, 3) := by decide +kernel
theorem dX6_image_30 : decode cX6_image 30 = .ok (.aload_n 2, 1) := by decide +kernel
theorem dX6_image_31 : decode cX6_image 31 = .ok (.aload_n 0, 1) := by decide +kernel
theorem dX6_image_32 : decode cX6_image 32 = .ok (.getfield 46, 3) := by decide +kernel
theorem dX6_image_35 : decode cX6_image 35 = .ok (.getfield 193, 3) := by decide +kernel
theorem dX6_image_38 : decode cX6_image 38 = .ok (.putfield 241, 3) := by decide +kernel
theorem dX6_image_41 : decode cX6_image 41 = .ok (.aload_n 2, 1) := by decide +kernel
theorem dX6_image_42 : decode cX6_image 42 = .ok (.aload_n 0, 1) := by decide +kernel
theorem dX6_image_43 : decode cX6_image 43 = .ok (.getfield 46, 3) := by decide +kernel
theorem dX6_image_46 : decode cX6_image 46 = .ok (.getfield 196, 3) := by decide +kernel
theorem dX6_image_49 : decode cX6_image 49 = .ok (.putfield 242, 3) := by decide +kernel
theorem dX6_image_52 : decode cX6_image 52 = .ok (.aload_n 2, 1) := by decide +kernel
theorem dX6_image_53 : decode cX6_image 53 = .ok (.iconst 1, 1) := by decide +kernel
theorem dX6_image_54 : decode cX6_image 54 = .ok (.putfield 243, 3) := by decide +kernel
theorem dX6_image_57 : decode cX6_image 57 = .ok (.iconst 1, 1) := by decide +kernel
theorem dX6_image_58 : decode cX6_image 58 = .ok (.ireturn, 1) := by decide +kernel
theorem dX6_restore_0 : decode cX6_restore 0 = .ok (.iload_n 1, 1) := by decide +kernel
theorem dX6_restore_1 : decode cX6_restore 1 = .ok (.ifCond .lt 8, 3) := by decide +kernel
theorem dX6_restore_4 : decode cX6_restore 4 = .ok (.iload_n 1, 1) := by decide +kernel
theorem dX6_restore_5 : decode cX6_restore 5 = .ok (.iconst 2, 1) := by decide +kernel
theorem dX6_restore_6 : decode cX6_restore 6 = .ok (.if_icmp .lt 6, 3) := by decide +kernel
theorem dX6_restore_9 : decode cX6_restore 9 = .ok (.bipush (-2), 2) := by decide +kernel
theorem dX6_restore_11 : decode cX6_restore 11 = .ok (.ireturn, 1) := by decide +kernel
theorem dX6_restore_12 : decode cX6_restore 12 = .ok (.aload_n 0, 1) := by decide +kernel
theorem dX6_restore_13 : decode cX6_restore 13 = .ok (.getfield 52, 3) := by decide +kernel
theorem dX6_restore_16 : decode cX6_restore 16 = .ok (.iload_n 1, 1) := by decide +kernel
theorem dX6_restore_17 : decode cX6_restore 17 = .ok (.aaload, 1) := by decide +kernel
theorem dX6_restore_18 : decode cX6_restore 18 = .ok (.astore_n 2, 1) := by decide +kernel
theorem dX6_restore_19 : decode cX6_restore 19 = .ok (.aload_n 2, 1) := by decide +kernel
theorem dX6_restore_20 : decode cX6_restore 20 = .ok (.getfield 243, 3) := by decide +kernel
theorem dX6_restore_23 : decode cX6_restore 23 = .ok (.ifCond .ne 6, 3) := by decide +kernel
theorem dX6_restore_26 : decode cX6_restore 26 = .ok (.bipush (-3), 2) := by decide +kernel
theorem dX6_restore_28 : decode cX6_restore 28 = .ok (.ireturn, 1) := by decide +kernel
theorem dX6_restore_29 : decode cX6_restore 29 = .ok (.aload_n 0, 1) := by decide +kernel
theorem dX6_restore_30 : decode cX6_restore 30 = .ok (.getfield 10, 3) := by decide +kernel
theorem dX6_restore_33 : decode cX6_restore 33 = .ok (.aload_n 2, 1) := by decide +kernel
theorem dX6_restore_34 : decode cX6_restore 34 = .ok (.getfield 237, 3) := by decide +kernel
theorem dX6_restore_37 : decode cX6_restore 37 = .ok (.invokevirtual 238, 3) := by decide +kernel
theorem dX6_restore_40 : decode cX6_restore 40 = .ok (.aload_n 0, 1) := by decide +kernel
theorem dX6_restore_41 : decode cX6_restore 41 = .ok (.getfield 46, 3) := by decide +kernel
theorem dX6_restore_44 : decode cX6_restore 44 = .ok (.aload_n 2, 1) := by decide +kernel
theorem dX6_restore_45 : decode cX6_restore 45 = .ok (.getfield 241, 3) := by decide +kernel
theorem dX6_restore_48 : decode cX6_restore 48 = .ok (.putfield 193, 3) := by decide +kernel
theorem dX6_restore_51 : decode cX6_restore 51 = .ok (.aload_n 0, 1) := by decide +kernel
theorem dX6_restore_52 : decode cX6_restore 52 = .ok (.getfield 46, 3) := by decide +kernel
theorem dX6_restore_55 : decode cX6_restore 55 = .ok (.aload_n 2, 1) := by decide +kernel
theorem dX6_restore_56 : decode cX6_restore 56 = .ok (.getfield 242, 3) := by decide +kernel
theorem dX6_restore_59 : decode cX6_restore 59 = .ok (.putfield 196, 3) := by decide +kernel
theorem dX6_restore_62 : decode cX6_restore 62 = .ok (.aload_n 0, 1) := by decide +kernel
theorem dX6_restore_63 : decode cX6_restore 63 = .ok (.invokevirtual 92, 3) := by decide +kernel
theorem dX6_restore_66 : decode cX6_restore 66 = .ok (.iconst 1, 1) := by decide +kernel
theorem dX6_restore_67 : decode cX6_restore 67 = .ok (.ireturn, 1) := by decide +kernel
theorem dX6_count_0 : decode cX6_count 0 = .ok (.iload_n 1, 1) := by decide +kernel
theorem dX6_count_1 : decode cX6_count 1 = .ok (.tableswitch 96 0 7 #[47, 55, 60, 65, 73, 81, 86, 91], 47) := by decide +kernel
theorem dX6_count_48 : decode cX6_count 48 = .ok (.aload_n 0, 1) := by decide +kernel
theorem dX6_count_49 : decode cX6_count 49 = .ok (.getfield 10, 3) := by decide +kernel
theorem dX6_count_52 : decode cX6_count 52 = .ok (.getfield 84, 3) := by decide +kernel
theorem dX6_count_55 : decode cX6_count 55 = .ok (.ireturn, 1) := by decide +kernel
theorem dX6_count_56 : decode cX6_count 56 = .ok (.aload_n 0, 1) := by decide +kernel
theorem dX6_count_57 : decode cX6_count 57 = .ok (.invokevirtual 247, 3) := by decide +kernel
theorem dX6_count_60 : decode cX6_count 60 = .ok (.ireturn, 1) := by decide +kernel
theorem dX6_count_61 : decode cX6_count 61 = .ok (.aload_n 0, 1) := by decide +kernel
theorem dX6_count_62 : decode cX6_count 62 = .ok (.invokevirtual 251, 3) := by decide +kernel
theorem dX6_count_65 : decode cX6_count 65 = .ok (.ireturn, 1) := by decide +kernel
theorem dX6_count_66 : decode cX6_count 66 = .ok (.aload_n 0, 1) := by decide +kernel
theorem dX6_count_67 : decode cX6_count 67 = .ok (.getfield 46, 3) := by decide +kernel
theorem dX6_count_70 : decode cX6_count 70 = .ok (.getfield 193, 3) := by decide +kernel
theorem dX6_count_73 : decode cX6_count 73 = .ok (.ireturn, 1) := by decide +kernel
theorem dX6_count_74 : decode cX6_count 74 = .ok (.aload_n 0, 1) := by decide +kernel
theorem dX6_count_75 : decode cX6_count 75 = .ok (.getfield 46, 3) := by decide +kernel
theorem dX6_count_78 : decode cX6_count 78 = .ok (.getfield 196, 3) := by decide +kernel
theorem dX6_count_81 : decode cX6_count 81 = .ok (.ireturn, 1) := by decide +kernel
theorem dX6_count_82 : decode cX6_count 82 = .ok (.aload_n 0, 1) := by decide +kernel
theorem dX6_count_83 : decode cX6_count 83 = .ok (.invokevirtual 254, 3) := by decide +kernel
theorem dX6_count_86 : decode cX6_count 86 = .ok (.ireturn, 1) := by decide +kernel
theorem dX6_count_87 : decode cX6_count 87 = .ok (.aload_n 0, 1) := by decide +kernel
theorem dX6_count_88 : decode cX6_count 88 = .ok (.invokevirtual 257, 3) := by decide +kernel
theorem dX6_count_91 : decode cX6_count 91 = .ok (.ireturn, 1) := by decide +kernel
theorem dX6_count_92 : decode cX6_count 92 = .ok (.aload_n 0, 1) := by decide +kernel
theorem dX6_count_93 : decode cX6_count 93 = .ok (.invokevirtual 260, 3) := by decide +kernel
theorem dX6_count_96 : decode cX6_count 96 = .ok (.ireturn, 1) := by decide +kernel
theorem dX6_count_97 : decode cX6_count 97 = .ok (.bipush (-2), 2) := by decide +kernel
theorem dX6_count_99 : decode cX6_count 99 = .ok (.ireturn, 1) := by decide +kernel
theorem dX6_isField_0 : decode cX6_isField 0 = .ok (.iload_n 0, 1) := by decide +kernel
theorem dX6_isField_1 : decode cX6_isField 1 = .ok (.ifCond .lt 12, 3) := by decide +kernel
theorem dX6_isField_4 : decode cX6_isField 4 = .ok (.iload_n 0, 1) := by decide +kernel
theorem dX6_isField_5 : decode cX6_isField 5 = .ok (.iconst 4, 1) := by decide +kernel
theorem dX6_isField_6 : decode cX6_isField 6 = .ok (.if_icmp .ge 7, 3) := by decide +kernel
theorem dX6_isField_9 : decode cX6_isField 9 = .ok (.iconst 1, 1) := by decide +kernel
theorem dX6_isField_10 : decode cX6_isField 10 = .ok (.goto 4, 3) := by decide +kernel
theorem dX6_isField_13 : decode cX6_isField 13 = .ok (.iconst 0, 1) := by decide +kernel
theorem dX6_isField_14 : decode cX6_isField 14 = .ok (.ireturn, 1) := by decide +kernel
theorem dX6_isNumber_0 : decode cX6_isNumber 0 = .ok (.iload_n 1, 1) := by decide +kernel
theorem dX6_isNumber_1 : decode cX6_isNumber 1 = .ok (.ifCond .lt 16, 3) := by decide +kernel
theorem dX6_isNumber_4 : decode cX6_isNumber 4 = .ok (.iload_n 1, 1) := by decide +kernel
theorem dX6_isNumber_5 : decode cX6_isNumber 5 = .ok (.getstatic 263, 3) := by decide +kernel
theorem dX6_isNumber_8 : decode cX6_isNumber 8 = .ok (.iload_n 0, 1) := by decide +kernel
theorem dX6_isNumber_9 : decode cX6_isNumber 9 = .ok (.iaload, 1) := by decide +kernel
theorem dX6_isNumber_10 : decode cX6_isNumber 10 = .ok (.if_icmp .gt 7, 3) := by decide +kernel
theorem dX6_isNumber_13 : decode cX6_isNumber 13 = .ok (.iconst 1, 1) := by decide +kernel
theorem dX6_isNumber_14 : decode cX6_isNumber 14 = .ok (.goto 4, 3) := by decide +kernel
theorem dX6_isNumber_17 : decode cX6_isNumber 17 = .ok (.iconst 0, 1) := by decide +kernel
theorem dX6_isNumber_18 : decode cX6_isNumber 18 = .ok (.ireturn, 1) := by decide +kernel
theorem dX6_isPacket_0 : decode cX6_isPacket 0 = .ok (.iconst 0, 1) := by decide +kernel
theorem dX6_isPacket_1 : decode cX6_isPacket 1 = .ok (.iload_n 0, 1) := by decide +kernel
theorem dX6_isPacket_2 : decode cX6_isPacket 2 = .ok (.invokestatic 74, 3) := by decide +kernel
theorem dX6_isPacket_5 : decode cX6_isPacket 5 = .ok (.ifCond .eq 31, 3) := by decide +kernel
theorem dX6_isPacket_8 : decode cX6_isPacket 8 = .ok (.iconst 1, 1) := by decide +kernel
theorem dX6_isPacket_9 : decode cX6_isPacket 9 = .ok (.iload_n 1, 1) := by decide +kernel
theorem dX6_isPacket_10 : decode cX6_isPacket 10 = .ok (.invokestatic 74, 3) := by decide +kernel
theorem dX6_isPacket_13 : decode cX6_isPacket 13 = .ok (.ifCond .eq 23, 3) := by decide +kernel
theorem dX6_isPacket_16 : decode cX6_isPacket 16 = .ok (.iconst 2, 1) := by decide +kernel
theorem dX6_isPacket_17 : decode cX6_isPacket 17 = .ok (.iload_n 2, 1) := by decide +kernel
theorem dX6_isPacket_18 : decode cX6_isPacket 18 = .ok (.invokestatic 74, 3) := by decide +kernel
theorem dX6_isPacket_21 : decode cX6_isPacket 21 = .ok (.ifCond .eq 15, 3) := by decide +kernel
theorem dX6_isPacket_24 : decode cX6_isPacket 24 = .ok (.iconst 3, 1) := by decide +kernel
theorem dX6_isPacket_25 : decode cX6_isPacket 25 = .ok (.iload_n 3, 1) := by decide +kernel
theorem dX6_isPacket_26 : decode cX6_isPacket 26 = .ok (.invokestatic 74, 3) := by decide +kernel
theorem dX6_isPacket_29 : decode cX6_isPacket 29 = .ok (.ifCond .eq 7, 3) := by decide +kernel
theorem dX6_isPacket_32 : decode cX6_isPacket 32 = .ok (.iconst 1, 1) := by decide +kernel
theorem dX6_isPacket_33 : decode cX6_isPacket 33 = .ok (.goto 4, 3) := by decide +kernel
theorem dX6_isPacket_36 : decode cX6_isPacket 36 = .ok (.iconst 0, 1) := by decide +kernel
theorem dX6_isPacket_37 : decode cX6_isPacket 37 = .ok (.ireturn, 1) := by decide +kernel
theorem dX6_isRank_0 : decode cX6_isRank 0 = .ok (.iload_n 0, 1) := by decide +kernel
theorem dX6_isRank_1 : decode cX6_isRank 1 = .ok (.ifCond .lt 14, 3) := by decide +kernel
theorem dX6_isRank_4 : decode cX6_isRank 4 = .ok (.iload_n 0, 1) := by decide +kernel
theorem dX6_isRank_5 : decode cX6_isRank 5 = .ok (.sipush 999, 3) := by decide +kernel
theorem dX6_isRank_8 : decode cX6_isRank 8 = .ok (.if_icmp .gt 7, 3) := by decide +kernel
theorem dX6_isRank_11 : decode cX6_isRank 11 = .ok (.iconst 1, 1) := by decide +kernel
theorem dX6_isRank_12 : decode cX6_isRank 12 = .ok (.goto 4, 3) := by decide +kernel
theorem dX6_isRank_15 : decode cX6_isRank 15 = .ok (.iconst 0, 1) := by decide +kernel
theorem dX6_isRank_16 : decode cX6_isRank 16 = .ok (.ireturn, 1) := by decide +kernel
theorem dX6_isAction_0 : decode cX6_isAction 0 = .ok (.iload_n 0, 1) := by decide +kernel
theorem dX6_isAction_1 : decode cX6_isAction 1 = .ok (.ifCond .lt 13, 3) := by decide +kernel
theorem dX6_isAction_4 : decode cX6_isAction 4 = .ok (.iload_n 0, 1) := by decide +kernel
theorem dX6_isAction_5 : decode cX6_isAction 5 = .ok (.bipush 9, 2) := by decide +kernel
theorem dX6_isAction_7 : decode cX6_isAction 7 = .ok (.if_icmp .gt 7, 3) := by decide +kernel
theorem dX6_isAction_10 : decode cX6_isAction 10 = .ok (.iconst 1, 1) := by decide +kernel
theorem dX6_isAction_11 : decode cX6_isAction 11 = .ok (.goto 4, 3) := by decide +kernel
theorem dX6_isAction_14 : decode cX6_isAction 14 = .ok (.iconst 0, 1) := by decide +kernel
theorem dX6_isAction_15 : decode cX6_isAction 15 = .ok (.ireturn, 1) := by decide +kernel
theorem dX6_lowestBit_0 : decode cX6_lowestBit 0 = .ok (.iload_n 0, 1) := by decide +kernel
theorem dX6_lowestBit_1 : decode cX6_lowestBit 1 = .ok (.ifCond .ne 7, 3) := by decide +kernel
theorem dX6_lowestBit_4 : decode cX6_lowestBit 4 = .ok (.iconst (-1), 1) := by decide +kernel
theorem dX6_lowestBit_5 : decode cX6_lowestBit 5 = .ok (.goto 12, 3) := by decide +kernel
theorem dX6_lowestBit_8 : decode cX6_lowestBit 8 = .ok (.iload_n 0, 1) := by decide +kernel
theorem dX6_lowestBit_9 : decode cX6_lowestBit 9 = .ok (.iload_n 0, 1) := by decide +kernel
theorem dX6_lowestBit_10 : decode cX6_lowestBit 10 = .ok (.ineg, 1) := by decide +kernel
theorem dX6_lowestBit_11 : decode cX6_lowestBit 11 = .ok (.iand, 1) := by decide +kernel
theorem dX6_lowestBit_12 : decode cX6_lowestBit 12 = .ok (.iconst 1, 1) := by decide +kernel
theorem dX6_lowestBit_13 : decode cX6_lowestBit 13 = .ok (.isub, 1) := by decide +kernel
theorem dX6_lowestBit_14 : decode cX6_lowestBit 14 = .ok (.invokestatic 229, 3) := by decide +kernel
theorem dX6_lowestBit_17 : decode cX6_lowestBit 17 = .ok (.ireturn, 1) := by decide +kernel
theorem dX6_setPacket_0 : decode cX6_setPacket 0 = .ok (.aload_n 0, 1) := by decide +kernel
theorem dX6_setPacket_1 : decode cX6_setPacket 1 = .ok (.getfield 64, 3) := by decide +kernel
theorem dX6_setPacket_4 : decode cX6_setPacket 4 = .ok (.iconst 0, 1) := by decide +kernel
theorem dX6_setPacket_5 : decode cX6_setPacket 5 = .ok (.iload_n 1, 1) := by decide +kernel
theorem dX6_setPacket_6 : decode cX6_setPacket 6 = .ok (.iastore, 1) := by decide +kernel
theorem dX6_setPacket_7 : decode cX6_setPacket 7 = .ok (.aload_n 0, 1) := by decide +kernel
theorem dX6_setPacket_8 : decode cX6_setPacket 8 = .ok (.getfield 64, 3) := by decide +kernel
theorem dX6_setPacket_11 : decode cX6_setPacket 11 = .ok (.iconst 1, 1) := by decide +kernel
theorem dX6_setPacket_12 : decode cX6_setPacket 12 = .ok (.iload_n 2, 1) := by decide +kernel
theorem dX6_setPacket_13 : decode cX6_setPacket 13 = .ok (.iastore, 1) := by decide +kernel
theorem dX6_setPacket_14 : decode cX6_setPacket 14 = .ok (.aload_n 0, 1) := by decide +kernel
theorem dX6_setPacket_15 : decode cX6_setPacket 15 = .ok (.getfield 64, 3) := by decide +kernel
theorem dX6_setPacket_18 : decode cX6_setPacket 18 = .ok (.iconst 2, 1) := by decide +kernel
theorem dX6_setPacket_19 : decode cX6_setPacket 19 = .ok (.iload_n 3, 1) := by decide +kernel
theorem dX6_setPacket_20 : decode cX6_setPacket 20 = .ok (.iastore, 1) := by decide +kernel
theorem dX6_setPacket_21 : decode cX6_setPacket 21 = .ok (.aload_n 0, 1) := by decide +kernel
theorem dX6_setPacket_22 : decode cX6_setPacket 22 = .ok (.getfield 64, 3) := by decide +kernel
theorem dX6_setPacket_25 : decode cX6_setPacket 25 = .ok (.iconst 3, 1) := by decide +kernel
theorem dX6_setPacket_26 : decode cX6_setPacket 26 = .ok (.iload 4, 2) := by decide +kernel
theorem dX6_setPacket_28 : decode cX6_setPacket 28 = .ok (.iastore, 1) := by decide +kernel
theorem dX6_setPacket_29 : decode cX6_setPacket 29 = .ok (.return_, 1) := by decide +kernel
theorem dX6_clearDraft_0 : decode cX6_clearDraft 0 = .ok (.iconst 0, 1) := by decide +kernel
theorem dX6_clearDraft_1 : decode cX6_clearDraft 1 = .ok (.istore_n 1, 1) := by decide +kernel
theorem dX6_clearDraft_2 : decode cX6_clearDraft 2 = .ok (.iload_n 1, 1) := by decide +kernel
theorem dX6_clearDraft_3 : decode cX6_clearDraft 3 = .ok (.iconst 4, 1) := by decide +kernel
theorem dX6_clearDraft_4 : decode cX6_clearDraft 4 = .ok (.if_icmp .ge 27, 3) := by decide +kernel
theorem dX6_clearDraft_7 : decode cX6_clearDraft 7 = .ok (.aload_n 0, 1) := by decide +kernel
theorem dX6_clearDraft_8 : decode cX6_clearDraft 8 = .ok (.getfield 57, 3) := by decide +kernel
theorem dX6_clearDraft_11 : decode cX6_clearDraft 11 = .ok (.iload_n 1, 1) := by decide +kernel
theorem dX6_clearDraft_12 : decode cX6_clearDraft 12 = .ok (.iconst 0, 1) := by decide +kernel
theorem dX6_clearDraft_13 : decode cX6_clearDraft 13 = .ok (.iastore, 1) := by decide +kernel
theorem dX6_clearDraft_14 : decode cX6_clearDraft 14 = .ok (.aload_n 0, 1) := by decide +kernel
theorem dX6_clearDraft_15 : decode cX6_clearDraft 15 = .ok (.getfield 61, 3) := by decide +kernel
theorem dX6_clearDraft_18 : decode cX6_clearDraft 18 = .ok (.iload_n 1, 1) := by decide +kernel
theorem dX6_clearDraft_19 : decode cX6_clearDraft 19 = .ok (.getstatic 263, 3) := by decide +kernel
theorem dX6_clearDraft_22 : decode cX6_clearDraft 22 = .ok (.iload_n 1, 1) := by decide +kernel
theorem dX6_clearDraft_23 : decode cX6_clearDraft 23 = .ok (.iaload, 1) := by decide +kernel
theorem dX6_clearDraft_24 : decode cX6_clearDraft 24 = .ok (.iastore, 1) := by decide +kernel
theorem dX6_clearDraft_25 : decode cX6_clearDraft 25 = .ok (.iinc 1 1, 3) := by decide +kernel
theorem dX6_clearDraft_28 : decode cX6_clearDraft 28 = .ok (.goto (-26), 3) := by decide +kernel
theorem dX6_clearDraft_31 : decode cX6_clearDraft 31 = .ok (.return_, 1) := by decide +kernel
theorem dX6_rulesChanged_0 : decode cX6_rulesChanged 0 = .ok (.aload_n 0, 1) := by decide +kernel
theorem dX6_rulesChanged_1 : decode cX6_rulesChanged 1 = .ok (.getfield 10, 3) := by decide +kernel
theorem dX6_rulesChanged_4 : decode cX6_rulesChanged 4 = .ok (.invokevirtual 266, 3) := by decide +kernel
theorem dX6_rulesChanged_7 : decode cX6_rulesChanged 7 = .ok (.aload_n 0, 1) := by decide +kernel
theorem dX6_rulesChanged_8 : decode cX6_rulesChanged 8 = .ok (.getfield 21, 3) := by decide +kernel
theorem dX6_rulesChanged_11 : decode cX6_rulesChanged 11 = .ok (.invokevirtual 269, 3) := by decide +kernel
theorem dX6_rulesChanged_14 : decode cX6_rulesChanged 14 = .ok (.aload_n 0, 1) := by decide +kernel
theorem dX6_rulesChanged_15 : decode cX6_rulesChanged 15 = .ok (.getfield 30, 3) := by decide +kernel
theorem dX6_rulesChanged_18 : decode cX6_rulesChanged 18 = .ok (.iconst 1, 1) := by decide +kernel
theorem dX6_rulesChanged_19 : decode cX6_rulesChanged 19 = .ok (.putfield 272, 3) := by decide +kernel
theorem dX6_rulesChanged_22 : decode cX6_rulesChanged 22 = .ok (.aload_n 0, 1) := by decide +kernel
theorem dX6_rulesChanged_23 : decode cX6_rulesChanged 23 = .ok (.getfield 37, 3) := by decide +kernel
theorem dX6_rulesChanged_26 : decode cX6_rulesChanged 26 = .ok (.iconst 1, 1) := by decide +kernel
theorem dX6_rulesChanged_27 : decode cX6_rulesChanged 27 = .ok (.putfield 275, 3) := by decide +kernel
theorem dX6_rulesChanged_30 : decode cX6_rulesChanged 30 = .ok (.return_, 1) := by decide +kernel
theorem dX6_ruleAt_0 : decode cX6_ruleAt 0 = .ok (.iload_n 1, 1) := by decide +kernel
theorem dX6_ruleAt_1 : decode cX6_ruleAt 1 = .ok (.ifCond .lt 26, 3) := by decide +kernel
theorem dX6_ruleAt_4 : decode cX6_ruleAt 4 = .ok (.iload_n 1, 1) := by decide +kernel
theorem dX6_ruleAt_5 : decode cX6_ruleAt 5 = .ok (.aload_n 0, 1) := by decide +kernel
theorem dX6_ruleAt_6 : decode cX6_ruleAt 6 = .ok (.getfield 10, 3) := by decide +kernel
theorem dX6_ruleAt_9 : decode cX6_ruleAt 9 = .ok (.getfield 84, 3) := by decide +kernel
theorem dX6_ruleAt_12 : decode cX6_ruleAt 12 = .ok (.if_icmp .ge 15, 3) := by decide +kernel
theorem dX6_ruleAt_15 : decode cX6_ruleAt 15 = .ok (.aload_n 0, 1) := by decide +kernel
theorem dX6_ruleAt_16 : decode cX6_ruleAt 16 = .ok (.getfield 10, 3) := by decide +kernel
theorem dX6_ruleAt_19 : decode cX6_ruleAt 19 = .ok (.getfield 276, 3) := by decide +kernel
theorem dX6_ruleAt_22 : decode cX6_ruleAt 22 = .ok (.iload_n 1, 1) := by decide +kernel
theorem dX6_ruleAt_23 : decode cX6_ruleAt 23 = .ok (.iaload, 1) := by decide +kernel
theorem dX6_ruleAt_24 : decode cX6_ruleAt 24 = .ok (.goto 5, 3) := by decide +kernel
theorem dX6_ruleAt_27 : decode cX6_ruleAt 27 = .ok (.bipush (-6), 2) := by decide +kernel
theorem dX6_ruleAt_29 : decode cX6_ruleAt 29 = .ok (.ireturn, 1) := by decide +kernel
theorem dX6_toldBound_0 : decode cX6_toldBound 0 = .ok (.iload_n 2, 1) := by decide +kernel
theorem dX6_toldBound_1 : decode cX6_toldBound 1 = .ok (.ifCond .lt 9, 3) := by decide +kernel
theorem dX6_toldBound_4 : decode cX6_toldBound 4 = .ok (.iload_n 2, 1) := by decide +kernel
theorem dX6_toldBound_5 : decode cX6_toldBound 5 = .ok (.bipush 8, 2) := by decide +kernel
theorem dX6_toldBound_7 : decode cX6_toldBound 7 = .ok (.if_icmp .lt 6, 3) := by decide +kernel
theorem dX6_toldBound_10 : decode cX6_toldBound 10 = .ok (.bipush (-2), 2) := by decide +kernel
theorem dX6_toldBound_12 : decode cX6_toldBound 12 = .ok (.ireturn, 1) := by decide +kernel
theorem dX6_toldBound_13 : decode cX6_toldBound 13 = .ok (.iload_n 2, 1) := by decide +kernel
theorem dX6_toldBound_14 : decode cX6_toldBound 14 = .ok (.iconst 1, 1) := by decide +kernel
theorem dX6_toldBound_15 : decode cX6_toldBound 15 = .ok (.ishr, 1) := by decide +kernel
theorem dX6_toldBound_16 : decode cX6_toldBound 16 = .ok (.istore_n 3, 1) := by decide +kernel
theorem dX6_toldBound_17 : decode cX6_toldBound 17 = .ok (.iload_n 2, 1) := by decide +kernel
theorem dX6_toldBound_18 : decode cX6_toldBound 18 = .ok (.iconst 1, 1) := by decide +kernel
theorem dX6_toldBound_19 : decode cX6_toldBound 19 = .ok (.iand, 1) := by decide +kernel
theorem dX6_toldBound_20 : decode cX6_toldBound 20 = .ok (.ifCond .ne 17, 3) := by decide +kernel
theorem dX6_toldBound_23 : decode cX6_toldBound 23 = .ok (.aload_n 0, 1) := by decide +kernel
theorem dX6_toldBound_24 : decode cX6_toldBound 24 = .ok (.getfield 10, 3) := by decide +kernel
theorem dX6_toldBound_27 : decode cX6_toldBound 27 = .ok (.getfield 279, 3) := by decide +kernel
theorem dX6_toldBound_30 : decode cX6_toldBound 30 = .ok (.iload_n 3, 1) := by decide +kernel
theorem dX6_toldBound_31 : decode cX6_toldBound 31 = .ok (.aaload, 1) := by decide +kernel
theorem dX6_toldBound_32 : decode cX6_toldBound 32 = .ok (.iload_n 1, 1) := by decide +kernel
theorem dX6_toldBound_33 : decode cX6_toldBound 33 = .ok (.iaload, 1) := by decide +kernel
theorem dX6_toldBound_34 : decode cX6_toldBound 34 = .ok (.goto 14, 3) := by decide +kernel
theorem dX6_toldBound_37 : decode cX6_toldBound 37 = .ok (.aload_n 0, 1) := by decide +kernel
theorem dX6_toldBound_38 : decode cX6_toldBound 38 = .ok (.getfield 10, 3) := by decide +kernel
theorem dX6_toldBound_41 : decode cX6_toldBound 41 = .ok (.getfield 283, 3) := by decide +kernel
theorem dX6_toldBound_44 : decode cX6_toldBound 44 = .ok (.iload_n 3, 1) := by decide +kernel
theorem dX6_toldBound_45 : decode cX6_toldBound 45 = .ok (.aaload, 1) := by decide +kernel
theorem dX6_toldBound_46 : decode cX6_toldBound 46 = .ok (.iload_n 1, 1) := by decide +kernel
theorem dX6_toldBound_47 : decode cX6_toldBound 47 = .ok (.iaload, 1) := by decide +kernel
theorem dX6_toldBound_48 : decode cX6_toldBound 48 = .ok (.ireturn, 1) := by decide +kernel
theorem dX6_lookedAt_0 : decode cX6_lookedAt 0 = .ok (.iload_n 1, 1) := by decide +kernel
theorem dX6_lookedAt_1 : decode cX6_lookedAt 1 = .ok (.invokestatic 127, 3) := by decide +kernel
theorem dX6_lookedAt_4 : decode cX6_lookedAt 4 = .ok (.istore_n 2, 1) := by decide +kernel
theorem dX6_lookedAt_5 : decode cX6_lookedAt 5 = .ok (.iload_n 2, 1) := by decide +kernel
theorem dX6_lookedAt_6 : decode cX6_lookedAt 6 = .ok (.ifCond .ge 10, 3) := by decide +kernel
theorem dX6_lookedAt_9 : decode cX6_lookedAt 9 = .ok (.iload_n 0, 1) := by decide +kernel
theorem dX6_lookedAt_10 : decode cX6_lookedAt 10 = .ok (.invokestatic 229, 3) := by decide +kernel
theorem dX6_lookedAt_13 : decode cX6_lookedAt 13 = .ok (.goto 15, 3) := by decide +kernel
theorem dX6_lookedAt_16 : decode cX6_lookedAt 16 = .ok (.iload_n 0, 1) := by decide +kernel
theorem dX6_lookedAt_17 : decode cX6_lookedAt 17 = .ok (.iconst 1, 1) := by decide +kernel
theorem dX6_lookedAt_18 : decode cX6_lookedAt 18 = .ok (.iload_n 2, 1) := by decide +kernel
theorem dX6_lookedAt_19 : decode cX6_lookedAt 19 = .ok (.ishl, 1) := by decide +kernel
theorem dX6_lookedAt_20 : decode cX6_lookedAt 20 = .ok (.iconst 1, 1) := by decide +kernel
theorem dX6_lookedAt_21 : decode cX6_lookedAt 21 = .ok (.isub, 1) := by decide +kernel
theorem dX6_lookedAt_22 : decode cX6_lookedAt 22 = .ok (.iand, 1) := by decide +kernel
theorem dX6_lookedAt_23 : decode cX6_lookedAt 23 = .ok (.invokestatic 229, 3) := by decide +kernel
theorem dX6_lookedAt_26 : decode cX6_lookedAt 26 = .ok (.iconst 1, 1) := by decide +kernel
theorem dX6_lookedAt_27 : decode cX6_lookedAt 27 = .ok (.iadd, 1) := by decide +kernel
theorem dX6_lookedAt_28 : decode cX6_lookedAt 28 = .ok (.ireturn, 1) := by decide +kernel
theorem dX6_countTuples_0 : decode cX6_countTuples 0 = .ok (.aload_n 0, 1) := by decide +kernel
theorem dX6_countTuples_1 : decode cX6_countTuples 1 = .ok (.getfield 37, 3) := by decide +kernel
theorem dX6_countTuples_4 : decode cX6_countTuples 4 = .ok (.invokevirtual 169, 3) := by decide +kernel
theorem dX6_countTuples_7 : decode cX6_countTuples 7 = .ok (.aload_n 0, 1) := by decide +kernel
theorem dX6_countTuples_8 : decode cX6_countTuples 8 = .ok (.getfield 37, 3) := by decide +kernel
theorem dX6_countTuples_11 : decode cX6_countTuples 11 = .ok (.getfield 170, 3) := by decide +kernel
theorem dX6_countTuples_14 : decode cX6_countTuples 14 = .ok (.ireturn, 1) := by decide +kernel
theorem dX6_countEntries_0 : decode cX6_countEntries 0 = .ok (.aload_n 0, 1) := by decide +kernel
theorem dX6_countEntries_1 : decode cX6_countEntries 1 = .ok (.getfield 37, 3) := by decide +kernel
theorem dX6_countEntries_4 : decode cX6_countEntries 4 = .ok (.invokevirtual 169, 3) := by decide +kernel
theorem dX6_countEntries_7 : decode cX6_countEntries 7 = .ok (.iconst 0, 1) := by decide +kernel
theorem dX6_countEntries_8 : decode cX6_countEntries 8 = .ok (.istore_n 1, 1) := by decide +kernel
theorem dX6_countEntries_9 : decode cX6_countEntries 9 = .ok (.iconst 0, 1) := by decide +kernel
theorem dX6_countEntries_10 : decode cX6_countEntries 10 = .ok (.istore_n 2, 1) := by decide +kernel
theorem dX6_countEntries_11 : decode cX6_countEntries 11 = .ok (.iload_n 2, 1) := by decide +kernel
theorem dX6_countEntries_12 : decode cX6_countEntries 12 = .ok (.aload_n 0, 1) := by decide +kernel
theorem dX6_countEntries_13 : decode cX6_countEntries 13 = .ok (.getfield 37, 3) := by decide +kernel
theorem dX6_countEntries_16 : decode cX6_countEntries 16 = .ok (.getfield 170, 3) := by decide +kernel
theorem dX6_countEntries_19 : decode cX6_countEntries 19 = .ok (.if_icmp .ge 21, 3) := by decide +kernel
theorem dX6_countEntries_22 : decode cX6_countEntries 22 = .ok (.iload_n 1, 1) := by decide +kernel
theorem dX6_countEntries_23 : decode cX6_countEntries 23 = .ok (.aload_n 0, 1) := by decide +kernel
theorem dX6_countEntries_24 : decode cX6_countEntries 24 = .ok (.getfield 37, 3) := by decide +kernel
theorem dX6_countEntries_27 : decode cX6_countEntries 27 = .ok (.getfield 171, 3) := by decide +kernel
theorem dX6_countEntries_30 : decode cX6_countEntries 30 = .ok (.iload_n 2, 1) := by decide +kernel
theorem dX6_countEntries_31 : decode cX6_countEntries 31 = .ok (.iaload, 1) := by decide +kernel
theorem dX6_countEntries_32 : decode cX6_countEntries 32 = .ok (.iadd, 1) := by decide +kernel
theorem dX6_countEntries_33 : decode cX6_countEntries 33 = .ok (.istore_n 1, 1) := by decide +kernel
theorem dX6_countEntries_34 : decode cX6_countEntries 34 = .ok (.iinc 2 1, 3) := by decide +kernel
theorem dX6_countEntries_37 : decode cX6_countEntries 37 = .ok (.goto (-26), 3) := by decide +kernel
theorem dX6_countEntries_40 : decode cX6_countEntries 40 = .ok (.iload_n 1, 1) := by decide +kernel
theorem dX6_countEntries_41 : decode cX6_countEntries 41 = .ok (.ireturn, 1) := by decide +kernel
theorem dX6_countIdle_0 : decode cX6_countIdle 0 = .ok (.aload_n 0, 1) := by decide +kernel
theorem dX6_countIdle_1 : decode cX6_countIdle 1 = .ok (.getfield 30, 3) := by decide +kernel
theorem dX6_countIdle_4 : decode cX6_countIdle 4 = .ok (.invokevirtual 134, 3) := by decide +kernel
theorem dX6_countIdle_7 : decode cX6_countIdle 7 = .ok (.iconst 0, 1) := by decide +kernel
theorem dX6_countIdle_8 : decode cX6_countIdle 8 = .ok (.istore_n 1, 1) := by decide +kernel
theorem dX6_countIdle_9 : decode cX6_countIdle 9 = .ok (.iconst 0, 1) := by decide +kernel
theorem dX6_countIdle_10 : decode cX6_countIdle 10 = .ok (.istore_n 2, 1) := by decide +kernel
theorem dX6_countIdle_11 : decode cX6_countIdle 11 = .ok (.iload_n 2, 1) := by decide +kernel
theorem dX6_countIdle_12 : decode cX6_countIdle 12 = .ok (.aload_n 0, 1) := by decide +kernel
theorem dX6_countIdle_13 : decode cX6_countIdle 13 = .ok (.getfield 10, 3) := by decide +kernel
theorem dX6_countIdle_16 : decode cX6_countIdle 16 = .ok (.getfield 84, 3) := by decide +kernel
theorem dX6_countIdle_19 : decode cX6_countIdle 19 = .ok (.if_icmp .ge 24, 3) := by decide +kernel
theorem dX6_countIdle_22 : decode cX6_countIdle 22 = .ok (.aload_n 0, 1) := by decide +kernel
theorem dX6_countIdle_23 : decode cX6_countIdle 23 = .ok (.getfield 30, 3) := by decide +kernel
theorem dX6_countIdle_26 : decode cX6_countIdle 26 = .ok (.getfield 147, 3) := by decide +kernel
theorem dX6_countIdle_29 : decode cX6_countIdle 29 = .ok (.iload_n 2, 1) := by decide +kernel
theorem dX6_countIdle_30 : decode cX6_countIdle 30 = .ok (.baload, 1) := by decide +kernel
theorem dX6_countIdle_31 : decode cX6_countIdle 31 = .ok (.ifCond .ne 6, 3) := by decide +kernel
theorem dX6_countIdle_34 : decode cX6_countIdle 34 = .ok (.iinc 1 1, 3) := by decide +kernel
theorem dX6_countIdle_37 : decode cX6_countIdle 37 = .ok (.iinc 2 1, 3) := by decide +kernel
theorem dX6_countIdle_40 : decode cX6_countIdle 40 = .ok (.goto (-29), 3) := by decide +kernel
theorem dX6_countIdle_43 : decode cX6_countIdle 43 = .ok (.iload_n 1, 1) := by decide +kernel
theorem dX6_countIdle_44 : decode cX6_countIdle 44 = .ok (.ireturn, 1) := by decide +kernel
theorem dX6_countCovered_0 : decode cX6_countCovered 0 = .ok (.iconst 0, 1) := by decide +kernel
theorem dX6_countCovered_1 : decode cX6_countCovered 1 = .ok (.istore_n 1, 1) := by decide +kernel
theorem dX6_countCovered_2 : decode cX6_countCovered 2 = .ok (.iconst 0, 1) := by decide +kernel
theorem dX6_countCovered_3 : decode cX6_countCovered 3 = .ok (.istore_n 2, 1) := by decide +kernel
theorem dX6_countCovered_4 : decode cX6_countCovered 4 = .ok (.iload_n 2, 1) := by decide +kernel
theorem dX6_countCovered_5 : decode cX6_countCovered 5 = .ok (.aload_n 0, 1) := by decide +kernel
theorem dX6_countCovered_6 : decode cX6_countCovered 6 = .ok (.getfield 10, 3) := by decide +kernel
theorem dX6_countCovered_9 : decode cX6_countCovered 9 = .ok (.getfield 84, 3) := by decide +kernel
theorem dX6_countCovered_12 : decode cX6_countCovered 12 = .ok (.if_icmp .ge 25, 3) := by decide +kernel
theorem dX6_countCovered_15 : decode cX6_countCovered 15 = .ok (.aload_n 0, 1) := by decide +kernel
theorem dX6_countCovered_16 : decode cX6_countCovered 16 = .ok (.getfield 10, 3) := by decide +kernel
theorem dX6_countCovered_19 : decode cX6_countCovered 19 = .ok (.iload_n 2, 1) := by decide +kernel
theorem dX6_countCovered_20 : decode cX6_countCovered 20 = .ok (.invokevirtual 144, 3) := by decide +kernel
theorem dX6_countCovered_23 : decode cX6_countCovered 23 = .ok (.bipush (-6), 2) := by decide +kernel
theorem dX6_countCovered_25 : decode cX6_countCovered 25 = .ok (.if_icmp .eq 6, 3) := by decide +kernel
theorem dX6_countCovered_28 : decode cX6_countCovered 28 = .ok (.iinc 1 1, 3) := by decide +kernel
theorem dX6_countCovered_31 : decode cX6_countCovered 31 = .ok (.iinc 2 1, 3) := by decide +kernel
theorem dX6_countCovered_34 : decode cX6_countCovered 34 = .ok (.goto (-30), 3) := by decide +kernel
theorem dX6_countCovered_37 : decode cX6_countCovered 37 = .ok (.iload_n 1, 1) := by decide +kernel
theorem dX6_countCovered_38 : decode cX6_countCovered 38 = .ok (.ireturn, 1) := by decide +kernel
theorem dX6_keptImages_0 : decode cX6_keptImages 0 = .ok (.iconst 0, 1) := by decide +kernel
theorem dX6_keptImages_1 : decode cX6_keptImages 1 = .ok (.istore_n 1, 1) := by decide +kernel
theorem dX6_keptImages_2 : decode cX6_keptImages 2 = .ok (.iconst 0, 1) := by decide +kernel
theorem dX6_keptImages_3 : decode cX6_keptImages 3 = .ok (.istore_n 2, 1) := by decide +kernel
theorem dX6_keptImages_4 : decode cX6_keptImages 4 = .ok (.iload_n 2, 1) := by decide +kernel
theorem dX6_keptImages_5 : decode cX6_keptImages 5 = .ok (.iconst 2, 1) := by decide +kernel
theorem dX6_keptImages_6 : decode cX6_keptImages 6 = .ok (.if_icmp .ge 27, 3) := by decide +kernel
theorem dX6_keptImages_9 : decode cX6_keptImages 9 = .ok (.aload_n 0, 1) := by decide +kernel
theorem dX6_keptImages_10 : decode cX6_keptImages 10 = .ok (.getfield 52, 3) := by decide +kernel
theorem dX6_keptImages_13 : decode cX6_keptImages 13 = .ok (.iload_n 2, 1) := by decide +kernel
theorem dX6_keptImages_14 : decode cX6_keptImages 14 = .ok (.aaload, 1) := by decide +kernel
theorem dX6_keptImages_15 : decode cX6_keptImages 15 = .ok (.getfield 243, 3) := by decide +kernel
theorem dX6_keptImages_18 : decode cX6_keptImages 18 = .ok (.ifCond .eq 9, 3) := by decide +kernel
theorem dX6_keptImages_21 : decode cX6_keptImages 21 = .ok (.iload_n 1, 1) := by decide +kernel
theorem dX6_keptImages_22 : decode cX6_keptImages 22 = .ok (.iconst 1, 1) := by decide +kernel
theorem dX6_keptImages_23 : decode cX6_keptImages 23 = .ok (.iload_n 2, 1) := by decide +kernel
theorem dX6_keptImages_24 : decode cX6_keptImages 24 = .ok (.ishl, 1) := by decide +kernel
theorem dX6_keptImages_25 : decode cX6_keptImages 25 = .ok (.iadd, 1) := by decide +kernel
theorem dX6_keptImages_26 : decode cX6_keptImages 26 = .ok (.istore_n 1, 1) := by decide +kernel
theorem dX6_keptImages_27 : decode cX6_keptImages 27 = .ok (.iinc 2 1, 3) := by decide +kernel
theorem dX6_keptImages_30 : decode cX6_keptImages 30 = .ok (.goto (-26), 3) := by decide +kernel
theorem dX6_keptImages_33 : decode cX6_keptImages 33 = .ok (.iload_n 1, 1) := by decide +kernel
theorem dX6_keptImages_34 : decode cX6_keptImages 34 = .ok (.ireturn, 1) := by decide +kernel
theorem dX7_init_0 : decode cX7_init 0 = .ok (.aload_n 0, 1) := by decide +kernel
theorem dX7_init_1 : decode cX7_init 1 = .ok (.invokespecial 1, 3) := by decide +kernel
theorem dX7_init_4 : decode cX7_init 4 = .ok (.aload_n 0, 1) := by decide +kernel
theorem dX7_init_5 : decode cX7_init 5 = .ok (.bipush 68, 2) := by decide +kernel
theorem dX7_init_7 : decode cX7_init 7 = .ok (.newarray .int, 2) := by decide +kernel
theorem dX7_init_9 : decode cX7_init 9 = .ok (.putfield 7, 3) := by decide +kernel
theorem dX7_init_12 : decode cX7_init 12 = .ok (.aload_n 0, 1) := by decide +kernel
theorem dX7_init_13 : decode cX7_init 13 = .ok (.bipush 68, 2) := by decide +kernel
theorem dX7_init_15 : decode cX7_init 15 = .ok (.newarray .int, 2) := by decide +kernel
theorem dX7_init_17 : decode cX7_init 17 = .ok (.putfield 13, 3) := by decide +kernel
theorem dX7_init_20 : decode cX7_init 20 = .ok (.aload_n 0, 1) := by decide +kernel
theorem dX7_init_21 : decode cX7_init 21 = .ok (.bipush 16, 2) := by decide +kernel
theorem dX7_init_23 : decode cX7_init 23 = .ok (.newarray .int, 2) := by decide +kernel
theorem dX7_init_25 : decode cX7_init 25 = .ok (.putfield 16, 3) := by decide +kernel
theorem dX7_init_28 : decode cX7_init 28 = .ok (.aload_n 0, 1) := by decide +kernel
theorem dX7_init_29 : decode cX7_init 29 = .ok (.bipush 16, 2) := by decide +kernel
theorem dX7_init_31 : decode cX7_init 31 = .ok (.newarray .int, 2) := by decide +kernel
theorem dX7_init_33 : decode cX7_init 33 = .ok (.putfield 19, 3) := by decide +kernel
theorem dX7_init_36 : decode cX7_init 36 = .ok (.aload_n 0, 1) := by decide +kernel
theorem dX7_init_37 : decode cX7_init 37 = .ok (.iconst 2, 1) := by decide +kernel
theorem dX7_init_38 : decode cX7_init 38 = .ok (.putfield 22, 3) := by decide +kernel
theorem dX7_init_41 : decode cX7_init 41 = .ok (.aload_n 0, 1) := by decide +kernel
theorem dX7_init_42 : decode cX7_init 42 = .ok (.bipush 6, 2) := by decide +kernel
theorem dX7_init_44 : decode cX7_init 44 = .ok (.putfield 26, 3) := by decide +kernel
theorem dX7_init_47 : decode cX7_init 47 = .ok (.aload_n 0, 1) := by decide +kernel
theorem dX7_init_48 : decode cX7_init 48 = .ok (.bipush 16, 2) := by decide +kernel
theorem dX7_init_50 : decode cX7_init 50 = .ok (.newarray .int, 2) := by decide +kernel
theorem dX7_init_52 : decode cX7_init 52 = .ok (.putfield 29, 3) := by decide +kernel
theorem dX7_init_55 : decode cX7_init 55 = .ok (.aload_n 0, 1) := by decide +kernel
theorem dX7_init_56 : decode cX7_init 56 = .ok (.sipush 256, 3) := by decide +kernel
theorem dX7_init_59 : decode cX7_init 59 = .ok (.newarray .int, 2) := by decide +kernel
theorem dX7_init_61 : decode cX7_init 61 = .ok (.putfield 32, 3) := by decide +kernel
theorem dX7_init_64 : decode cX7_init 64 = .ok (.aload_n 0, 1) := by decide +kernel
theorem dX7_init_65 : decode cX7_init 65 = .ok (.sipush 256, 3) := by decide +kernel
theorem dX7_init_68 : decode cX7_init 68 = .ok (.newarray .int, 2) := by decide +kernel
theorem dX7_init_70 : decode cX7_init 70 = .ok (.putfield 35, 3) := by decide +kernel
theorem dX7_init_73 : decode cX7_init 73 = .ok (.aload_n 0, 1) := by decide +kernel
theorem dX7_init_74 : decode cX7_init 74 = .ok (.sipush 256, 3) := by decide +kernel
theorem dX7_init_77 : decode cX7_init 77 = .ok (.newarray .int, 2) := by decide +kernel
theorem dX7_init_79 : decode cX7_init 79 = .ok (.putfield 38, 3) := by decide +kernel
theorem dX7_init_82 : decode cX7_init 82 = .ok (.aload_n 0, 1) := by decide +kernel
theorem dX7_init_83 : decode cX7_init 83 = .ok (.iconst 4, 1) := by decide +kernel
theorem dX7_init_84 : decode cX7_init 84 = .ok (.newarray .int, 2) := by decide +kernel
theorem dX7_init_86 : decode cX7_init 86 = .ok (.putfield 41, 3) := by decide +kernel
theorem dX7_init_89 : decode cX7_init 89 = .ok (.aload_n 0, 1) := by decide +kernel
theorem dX7_init_90 : decode cX7_init 90 = .ok (.bipush 16, 2) := by decide +kernel
theorem dX7_init_92 : decode cX7_init 92 = .ok (.newarray .int, 2) := by decide +kernel
theorem dX7_init_94 : decode cX7_init 94 = .ok (.putfield 44, 3) := by decide +kernel
theorem dX7_init_97 : decode cX7_init 97 = .ok (.aload_n 0, 1) := by decide +kernel
theorem dX7_init_98 : decode cX7_init 98 = .ok (.bipush 16, 2) := by decide +kernel
theorem dX7_init_100 : decode cX7_init 100 = .ok (.newarray .boolean, 2) := by decide +kernel
theorem dX7_init_102 : decode cX7_init 102 = .ok (.putfield 47, 3) := by decide +kernel
theorem dX7_init_105 : decode cX7_init 105 = .ok (.aload_n 0, 1) := by decide +kernel
theorem dX7_init_106 : decode cX7_init 106 = .ok (.bipush 11, 2) := by decide +kernel
theorem dX7_init_108 : decode cX7_init 108 = .ok (.newarray .int, 2) := by decide +kernel
theorem dX7_init_110 : decode cX7_init 110 = .ok (.putfield 51, 3) := by decide +kernel
theorem dX7_init_113 : decode cX7_init 113 = .ok (.aload_n 0, 1) := by decide +kernel
theorem dX7_init_114 : decode cX7_init 114 = .ok (.sipush 448, 3) := by decide +kernel
theorem dX7_init_117 : decode cX7_init 117 = .ok (.newarray .int, 2) := by decide +kernel
theorem dX7_init_119 : decode cX7_init 119 = .ok (.putfield 54, 3) := by decide +kernel
theorem dX7_init_122 : decode cX7_init 122 = .ok (.aload_n 0, 1) := by decide +kernel
theorem dX7_init_123 : decode cX7_init 123 = .ok (.sipush 1029, 3) := by decide +kernel
theorem dX7_init_126 : decode cX7_init 126 = .ok (.newarray .int, 2) := by decide +kernel
theorem dX7_init_128 : decode cX7_init 128 = .ok (.putfield 57, 3) := by decide +kernel
theorem dX7_init_131 : decode cX7_init 131 = .ok (.aload_n 0, 1) := by decide +kernel
theorem dX7_init_132 : decode cX7_init 132 = .ok (.sipush 1029, 3) := by decide +kernel
theorem dX7_init_135 : decode cX7_init 135 = .ok (.newarray .int, 2) := by decide +kernel
theorem dX7_init_137 : decode cX7_init 137 = .ok (.putfield 60, 3) := by decide +kernel
theorem dX7_init_140 : decode cX7_init 140 = .ok (.aload_n 0, 1) := by decide +kernel
theorem dX7_init_141 : decode cX7_init 141 = .ok (.sipush 1029, 3) := by decide +kernel
theorem dX7_init_144 : decode cX7_init 144 = .ok (.newarray .int, 2) := by decide +kernel
theorem dX7_init_146 : decode cX7_init 146 = .ok (.putfield 63, 3) := by decide +kernel
theorem dX7_init_149 : decode cX7_init 149 = .ok (.aload_n 0, 1) := by decide +kernel
theorem dX7_init_150 : decode cX7_init 150 = .ok (.bipush 16, 2) := by decide +kernel
theorem dX7_init_152 : decode cX7_init 152 = .ok (.newarray .int, 2) := by decide +kernel
theorem dX7_init_154 : decode cX7_init 154 = .ok (.putfield 66, 3) := by decide +kernel
theorem dX7_init_157 : decode cX7_init 157 = .ok (.aload_n 0, 1) := by decide +kernel
theorem dX7_init_158 : decode cX7_init 158 = .ok (.sipush 2044, 3) := by decide +kernel
theorem dX7_init_161 : decode cX7_init 161 = .ok (.newarray .int, 2) := by decide +kernel
theorem dX7_init_163 : decode cX7_init 163 = .ok (.putfield 69, 3) := by decide +kernel
theorem dX7_init_166 : decode cX7_init 166 = .ok (.aload_n 0, 1) := by decide +kernel
theorem dX7_init_167 : decode cX7_init 167 = .ok (.sipush 2044, 3) := by decide +kernel
theorem dX7_init_170 : decode cX7_init 170 = .ok (.newarray .int, 2) := by decide +kernel
theorem dX7_init_172 : decode cX7_init 172 = .ok (.putfield 72, 3) := by decide +kernel
theorem dX7_init_175 : decode cX7_init 175 = .ok (.aload_n 0, 1) := by decide +kernel
theorem dX7_init_176 : decode cX7_init 176 = .ok (.sipush 511, 3) := by decide +kernel
theorem dX7_init_179 : decode cX7_init 179 = .ok (.newarray .int, 2) := by decide +kernel
theorem dX7_init_181 : decode cX7_init 181 = .ok (.putfield 75, 3) := by decide +kernel
theorem dX7_init_184 : decode cX7_init 184 = .ok (.aload_n 0, 1) := by decide +kernel
theorem dX7_init_185 : decode cX7_init 185 = .ok (.sipush 511, 3) := by decide +kernel
theorem dX7_init_188 : decode cX7_init 188 = .ok (.newarray .int, 2) := by decide +kernel
theorem dX7_init_190 : decode cX7_init 190 = .ok (.putfield 78, 3) := by decide +kernel
theorem dX7_init_193 : decode cX7_init 193 = .ok (.aload_n 0, 1) := by decide +kernel
theorem dX7_init_194 : decode cX7_init 194 = .ok (.sipush 511, 3) := by decide +kernel
theorem dX7_init_197 : decode cX7_init 197 = .ok (.newarray .int, 2) := by decide +kernel
theorem dX7_init_199 : decode cX7_init 199 = .ok (.putfield 81, 3) := by decide +kernel
theorem dX7_init_202 : decode cX7_init 202 = .ok (.aload_n 0, 1) := by decide +kernel
theorem dX7_init_203 : decode cX7_init 203 = .ok (.sipush 511, 3) := by decide +kernel
theorem dX7_init_206 : decode cX7_init 206 = .ok (.newarray .int, 2) := by decide +kernel
theorem dX7_init_208 : decode cX7_init 208 = .ok (.putfield 84, 3) := by decide +kernel
theorem dX7_init_211 : decode cX7_init 211 = .ok (.aload_n 0, 1) := by decide +kernel
theorem dX7_init_212 : decode cX7_init 212 = .ok (.sipush 326, 3) := by decide +kernel
theorem dX7_init_215 : decode cX7_init 215 = .ok (.newarray .int, 2) := by decide +kernel
theorem dX7_init_217 : decode cX7_init 217 = .ok (.putfield 87, 3) := by decide +kernel
theorem dX7_init_220 : decode cX7_init 220 = .ok (.aload_n 0, 1) := by decide +kernel
theorem dX7_init_221 : decode cX7_init 221 = .ok (.iconst 2, 1) := by decide +kernel
theorem dX7_init_222 : decode cX7_init 222 = .ok (.newarray .boolean, 2) := by decide +kernel
theorem dX7_init_224 : decode cX7_init 224 = .ok (.putfield 90, 3) := by decide +kernel
theorem dX7_init_227 : decode cX7_init 227 = .ok (.aload_n 0, 1) := by decide +kernel
theorem dX7_init_228 : decode cX7_init 228 = .ok (.invokevirtual 93, 3) := by decide +kernel
theorem dX7_init_231 : decode cX7_init 231 = .ok (.return_, 1) := by decide +kernel
theorem dX7_in_0 : decode cX7_in 0 = .ok (.iload_n 0, 1) := by decide +kernel
theorem dX7_in_1 : decode cX7_in 1 = .ok (.iload_n 1, 1) := by decide +kernel
theorem dX7_in_2 : decode cX7_in 2 = .ok (.if_icmp .lt 12, 3) := by decide +kernel
theorem dX7_in_5 : decode cX7_in 5 = .ok (.iload_n 0, 1) := by decide +kernel
theorem dX7_in_6 : decode cX7_in 6 = .ok (.iload_n 2, 1) := by decide +kernel
theorem dX7_in_7 : decode cX7_in 7 = .ok (.if_icmp .gt 7, 3) := by decide +kernel
theorem dX7_in_10 : decode cX7_in 10 = .ok (.iconst 1, 1) := by decide +kernel
theorem dX7_in_11 : decode cX7_in 11 = .ok (.goto 4, 3) := by decide +kernel
theorem dX7_in_14 : decode cX7_in 14 = .ok (.iconst 0, 1) := by decide +kernel
theorem dX7_in_15 : decode cX7_in 15 = .ok (.ireturn, 1) := by decide +kernel
theorem dX7_width_0 : decode cX7_width 0 = .ok (.iload_n 0, 1) := by decide +kernel
theorem dX7_width_1 : decode cX7_width 1 = .ok (.iconst 3, 1) := by decide +kernel
theorem dX7_width_2 : decode cX7_width 2 = .ok (.if_icmp .ne 7, 3) := by decide +kernel
theorem dX7_width_5 : decode cX7_width 5 = .ok (.iconst 2, 1) := by decide +kernel
theorem dX7_width_6 : decode cX7_width 6 = .ok (.goto 5, 3) := by decide +kernel
theorem dX7_width_9 : decode cX7_width 9 = .ok (.bipush 6, 2) := by decide +kernel
theorem dX7_width_11 : decode cX7_width 11 = .ok (.ireturn, 1) := by decide +kernel
theorem dX7_most_0 : decode cX7_most 0 = .ok (.iconst 1, 1) := by decide +kernel
theorem dX7_most_1 : decode cX7_most 1 = .ok (.iload_n 0, 1) := by decide +kernel
theorem dX7_most_2 : decode cX7_most 2 = .ok (.invokestatic 96, 3) := by decide +kernel
theorem dX7_most_5 : decode cX7_most 5 = .ok (.ishl, 1) := by decide +kernel
theorem dX7_most_6 : decode cX7_most 6 = .ok (.iconst 1, 1) := by decide +kernel
theorem dX7_most_7 : decode cX7_most 7 = .ok (.isub, 1) := by decide +kernel
theorem dX7_most_8 : decode cX7_most 8 = .ok (.ireturn, 1) := by decide +kernel
theorem dX7_isField_0 : decode cX7_isField 0 = .ok (.iload_n 0, 1) := by decide +kernel
theorem dX7_isField_1 : decode cX7_isField 1 = .ok (.iconst 0, 1) := by decide +kernel
theorem dX7_isField_2 : decode cX7_isField 2 = .ok (.iconst 3, 1) := by decide +kernel
theorem dX7_isField_3 : decode cX7_isField 3 = .ok (.invokestatic 100, 3) := by decide +kernel
theorem dX7_isField_6 : decode cX7_isField 6 = .ok (.ireturn, 1) := by decide +kernel
theorem dX7_isRule_0 : decode cX7_isRule 0 = .ok (.iload_n 1, 1) := by decide +kernel
theorem dX7_isRule_1 : decode cX7_isRule 1 = .ok (.iconst 0, 1) := by decide +kernel
theorem dX7_isRule_2 : decode cX7_isRule 2 = .ok (.aload_n 0, 1) := by decide +kernel
theorem dX7_isRule_3 : decode cX7_isRule 3 = .ok (.getfield 104, 3) := by decide +kernel
theorem dX7_isRule_6 : decode cX7_isRule 6 = .ok (.iconst 1, 1) := by decide +kernel
theorem dX7_isRule_7 : decode cX7_isRule 7 = .ok (.isub, 1) := by decide +kernel
theorem dX7_isRule_8 : decode cX7_isRule 8 = .ok (.invokestatic 100, 3) := by decide +kernel
theorem dX7_isRule_11 : decode cX7_isRule 11 = .ok (.ireturn, 1) := by decide +kernel
theorem dX7_isPacket_0 : decode cX7_isPacket 0 = .ok (.iload_n 0, 1) := by decide +kernel
theorem dX7_isPacket_1 : decode cX7_isPacket 1 = .ok (.iconst 0, 1) := by decide +kernel
theorem dX7_isPacket_2 : decode cX7_isPacket 2 = .ok (.bipush 63, 2) := by decide +kernel
theorem dX7_isPacket_4 : decode cX7_isPacket 4 = .ok (.invokestatic 100, 3) := by decide +kernel
theorem dX7_isPacket_7 : decode cX7_isPacket 7 = .ok (.ifCond .eq 36, 3) := by decide +kernel
theorem dX7_isPacket_10 : decode cX7_isPacket 10 = .ok (.iload_n 1, 1) := by decide +kernel
theorem dX7_isPacket_11 : decode cX7_isPacket 11 = .ok (.iconst 0, 1) := by decide +kernel
theorem dX7_isPacket_12 : decode cX7_isPacket 12 = .ok (.bipush 63, 2) := by decide +kernel
theorem dX7_isPacket_14 : decode cX7_isPacket 14 = .ok (.invokestatic 100, 3) := by decide +kernel
theorem dX7_isPacket_17 : decode cX7_isPacket 17 = .ok (.ifCond .eq 26, 3) := by decide +kernel
theorem dX7_isPacket_20 : decode cX7_isPacket 20 = .ok (.iload_n 2, 1) := by decide +kernel
theorem dX7_isPacket_21 : decode cX7_isPacket 21 = .ok (.iconst 0, 1) := by decide +kernel
theorem dX7_isPacket_22 : decode cX7_isPacket 22 = .ok (.bipush 63, 2) := by decide +kernel
theorem dX7_isPacket_24 : decode cX7_isPacket 24 = .ok (.invokestatic 100, 3) := by decide +kernel
theorem dX7_isPacket_27 : decode cX7_isPacket 27 = .ok (.ifCond .eq 16, 3) := by decide +kernel
theorem dX7_isPacket_30 : decode cX7_isPacket 30 = .ok (.iload_n 3, 1) := by decide +kernel
theorem dX7_isPacket_31 : decode cX7_isPacket 31 = .ok (.iconst 0, 1) := by decide +kernel
theorem dX7_isPacket_32 : decode cX7_isPacket 32 = .ok (.iconst 3, 1) := by decide +kernel
theorem dX7_isPacket_33 : decode cX7_isPacket 33 = .ok (.invokestatic 100, 3) := by decide +kernel
theorem dX7_isPacket_36 : decode cX7_isPacket 36 = .ok (.ifCond .eq 7, 3) := by decide +kernel
theorem dX7_isPacket_39 : decode cX7_isPacket 39 = .ok (.iconst 1, 1) := by decide +kernel
theorem dX7_isPacket_40 : decode cX7_isPacket 40 = .ok (.goto 4, 3) := by decide +kernel
theorem dX7_isPacket_43 : decode cX7_isPacket 43 = .ok (.iconst 0, 1) := by decide +kernel
theorem dX7_isPacket_44 : decode cX7_isPacket 44 = .ok (.ireturn, 1) := by decide +kernel
theorem dX7_has_0 : decode cX7_has 0 = .ok (.iload_n 0, 1) := by decide +kernel
theorem dX7_has_1 : decode cX7_has 1 = .ok (.iload_n 1, 1) := by decide +kernel
theorem dX7_has_2 : decode cX7_has 2 = .ok (.ishr, 1) := by decide +kernel
theorem dX7_has_3 : decode cX7_has 3 = .ok (.iconst 1, 1) := by decide +kernel
theorem dX7_has_4 : decode cX7_has 4 = .ok (.iand, 1) := by decide +kernel
theorem dX7_has_5 : decode cX7_has 5 = .ok (.iconst 1, 1) := by decide +kernel
theorem dX7_has_6 : decode cX7_has 6 = .ok (.if_icmp .ne 7, 3) := by decide +kernel
theorem dX7_has_9 : decode cX7_has 9 = .ok (.iconst 1, 1) := by decide +kernel
theorem dX7_has_10 : decode cX7_has 10 = .ok (.goto 4, 3) := by decide +kernel
theorem dX7_has_13 : decode cX7_has 13 = .ok (.iconst 0, 1) := by decide +kernel
theorem dX7_has_14 : decode cX7_has 14 = .ok (.ireturn, 1) := by decide +kernel
theorem dX7_bits_0 : decode cX7_bits 0 = .ok (.iconst 0, 1) := by decide +kernel
theorem dX7_bits_1 : decode cX7_bits 1 = .ok (.istore_n 1, 1) := by decide +kernel
theorem dX7_bits_2 : decode cX7_bits 2 = .ok (.iconst 0, 1) := by decide +kernel
theorem dX7_bits_3 : decode cX7_bits 3 = .ok (.istore_n 2, 1) := by decide +kernel
theorem dX7_bits_4 : decode cX7_bits 4 = .ok (.iload_n 2, 1) := by decide +kernel
theorem dX7_bits_5 : decode cX7_bits 5 = .ok (.bipush 16, 2) := by decide +kernel
theorem dX7_bits_7 : decode cX7_bits 7 = .ok (.if_icmp .ge 17, 3) := by decide +kernel
theorem dX7_bits_10 : decode cX7_bits 10 = .ok (.iload_n 1, 1) := by decide +kernel
theorem dX7_bits_11 : decode cX7_bits 11 = .ok (.iload_n 0, 1) := by decide +kernel
theorem dX7_bits_12 : decode cX7_bits 12 = .ok (.iload_n 2, 1) := by decide +kernel
theorem dX7_bits_13 : decode cX7_bits 13 = .ok (.ishr, 1) := by decide +kernel
theorem dX7_bits_14 : decode cX7_bits 14 = .ok (.iconst 1, 1) := by decide +kernel
theorem dX7_bits_15 : decode cX7_bits 15 = .ok (.iand, 1) := by decide +kernel
theorem dX7_bits_16 : decode cX7_bits 16 = .ok (.iadd, 1) := by decide +kernel
theorem dX7_bits_17 : decode cX7_bits 17 = .ok (.istore_n 1, 1) := by decide +kernel
theorem dX7_bits_18 : decode cX7_bits 18 = .ok (.iinc 2 1, 3) := by decide +kernel
theorem dX7_bits_21 : decode cX7_bits 21 = .ok (.goto (-17), 3) := by decide +kernel
theorem dX7_bits_24 : decode cX7_bits 24 = .ok (.iload_n 1, 1) := by decide +kernel
theorem dX7_bits_25 : decode cX7_bits 25 = .ok (.ireturn, 1) := by decide +kernel
theorem dX7_lowest_0 : decode cX7_lowest 0 = .ok (.iconst 0, 1) := by decide +kernel
theorem dX7_lowest_1 : decode cX7_lowest 1 = .ok (.istore_n 1, 1) := by decide +kernel
theorem dX7_lowest_2 : decode cX7_lowest 2 = .ok (.iload_n 1, 1) := by decide +kernel
theorem dX7_lowest_3 : decode cX7_lowest 3 = .ok (.bipush 16, 2) := by decide +kernel
theorem dX7_lowest_5 : decode cX7_lowest 5 = .ok (.if_icmp .ge 17, 3) := by decide +kernel
theorem dX7_lowest_8 : decode cX7_lowest 8 = .ok (.iload_n 0, 1) := by decide +kernel
theorem dX7_lowest_9 : decode cX7_lowest 9 = .ok (.iload_n 1, 1) := by decide +kernel
theorem dX7_lowest_10 : decode cX7_lowest 10 = .ok (.invokestatic 107, 3) := by decide +kernel
theorem dX7_lowest_13 : decode cX7_lowest 13 = .ok (.ifCond .ne 9, 3) := by decide +kernel
theorem dX7_lowest_16 : decode cX7_lowest 16 = .ok (.iinc 1 1, 3) := by decide +kernel
theorem dX7_lowest_19 : decode cX7_lowest 19 = .ok (.goto (-17), 3) := by decide +kernel
theorem dX7_lowest_22 : decode cX7_lowest 22 = .ok (.iload_n 1, 1) := by decide +kernel
theorem dX7_lowest_23 : decode cX7_lowest 23 = .ok (.ireturn, 1) := by decide +kernel
theorem dX7_change_0 : decode cX7_change 0 = .ok (.aload_n 0, 1) := by decide +kernel
theorem dX7_change_1 : decode cX7_change 1 = .ok (.iconst 0, 1) := by decide +kernel
theorem dX7_change_2 : decode cX7_change 2 = .ok (.putfield 111, 3) := by decide +kernel
theorem dX7_change_5 : decode cX7_change 5 = .ok (.aload_n 0, 1) := by decide +kernel
theorem dX7_change_6 : decode cX7_change 6 = .ok (.iconst 0, 1) := by decide +kernel
theorem dX7_change_7 : decode cX7_change 7 = .ok (.putfield 115, 3) := by decide +kernel
theorem dX7_change_10 : decode cX7_change 10 = .ok (.aload_n 0, 1) := by decide +kernel
theorem dX7_change_11 : decode cX7_change 11 = .ok (.iconst 0, 1) := by decide +kernel
theorem dX7_change_12 : decode cX7_change 12 = .ok (.putfield 118, 3) := by decide +kernel
theorem dX7_change_15 : decode cX7_change 15 = .ok (.aload_n 0, 1) := by decide +kernel
theorem dX7_change_16 : decode cX7_change 16 = .ok (.iconst 0, 1) := by decide +kernel
theorem dX7_change_17 : decode cX7_change 17 = .ok (.putfield 121, 3) := by decide +kernel
theorem dX7_change_20 : decode cX7_change 20 = .ok (.return_, 1) := by decide +kernel
theorem dX7_clearDraft_0 : decode cX7_clearDraft 0 = .ok (.iconst 0, 1) := by decide +kernel
theorem dX7_clearDraft_1 : decode cX7_clearDraft 1 = .ok (.istore_n 1, 1) := by decide +kernel
theorem dX7_clearDraft_2 : decode cX7_clearDraft 2 = .ok (.iload_n 1, 1) := by decide +kernel
theorem dX7_clearDraft_3 : decode cX7_clearDraft 3 = .ok (.iconst 4, 1) := by decide +kernel
theorem dX7_clearDraft_4 : decode cX7_clearDraft 4 = .ok (.if_icmp .ge 32, 3) := by decide +kernel
theorem dX7_clearDraft_7 : decode cX7_clearDraft 7 = .ok (.aload_n 0, 1) := by decide +kernel
theorem dX7_clearDraft_8 : decode cX7_clearDraft 8 = .ok (.getfield 7, 3) := by decide +kernel
theorem dX7_clearDraft_11 : decode cX7_clearDraft 11 = .ok (.bipush 64, 2) := by decide +kernel
theorem dX7_clearDraft_13 : decode cX7_clearDraft 13 = .ok (.iload_n 1, 1) := by decide +kernel
theorem dX7_clearDraft_14 : decode cX7_clearDraft 14 = .ok (.iadd, 1) := by decide +kernel
theorem dX7_clearDraft_15 : decode cX7_clearDraft 15 = .ok (.iconst 0, 1) := by decide +kernel
theorem dX7_clearDraft_16 : decode cX7_clearDraft 16 = .ok (.iastore, 1) := by decide +kernel
theorem dX7_clearDraft_17 : decode cX7_clearDraft 17 = .ok (.aload_n 0, 1) := by decide +kernel
theorem dX7_clearDraft_18 : decode cX7_clearDraft 18 = .ok (.getfield 13, 3) := by decide +kernel
theorem dX7_clearDraft_21 : decode cX7_clearDraft 21 = .ok (.bipush 64, 2) := by decide +kernel
theorem dX7_clearDraft_23 : decode cX7_clearDraft 23 = .ok (.iload_n 1, 1) := by decide +kernel
theorem dX7_clearDraft_24 : decode cX7_clearDraft 24 = .ok (.iadd, 1) := by decide +kernel
theorem dX7_clearDraft_25 : decode cX7_clearDraft 25 = .ok (.iload_n 1, 1) := by decide +kernel
theorem dX7_clearDraft_26 : decode cX7_clearDraft 26 = .ok (.invokestatic 124, 3) := by decide +kernel
theorem dX7_clearDraft_29 : decode cX7_clearDraft 29 = .ok (.iastore, 1) := by decide +kernel
theorem dX7_clearDraft_30 : decode cX7_clearDraft 30 = .ok (.iinc 1 1, 3) := by decide +kernel
theorem dX7_clearDraft_33 : decode cX7_clearDraft 33 = .ok (.goto (-31), 3) := by decide +kernel
theorem dX7_clearDraft_36 : decode cX7_clearDraft 36 = .ok (.return_, 1) := by decide +kernel
theorem dX7_draft_0 : decode cX7_draft 0 = .ok (.iload_n 1, 1) := by decide +kernel
theorem dX7_draft_1 : decode cX7_draft 1 = .ok (.invokestatic 127, 3) := by decide +kernel
theorem dX7_draft_4 : decode cX7_draft 4 = .ok (.ifCond .ne 5, 3) := by decide +kernel
theorem dX7_draft_7 : decode cX7_draft 7 = .ok (.iconst (-1), 1) := by decide +kernel
theorem dX7_draft_8 : decode cX7_draft 8 = .ok (.ireturn, 1) := by decide +kernel
theorem dX7_draft_9 : decode cX7_draft 9 = .ok (.iload_n 2, 1) := by decide +kernel
theorem dX7_draft_10 : decode cX7_draft 10 = .ok (.iconst 0, 1) := by decide +kernel
theorem dX7_draft_11 : decode cX7_draft 11 = .ok (.iload_n 1, 1) := by decide +kernel
theorem dX7_draft_12 : decode cX7_draft 12 = .ok (.invokestatic 124, 3) := by decide +kernel
theorem dX7_draft_15 : decode cX7_draft 15 = .ok (.invokestatic 100, 3) := by decide +kernel
theorem dX7_draft_18 : decode cX7_draft 18 = .ok (.ifCond .eq 20, 3) := by decide +kernel
theorem dX7_draft_21 : decode cX7_draft 21 = .ok (.iload_n 3, 1) := by decide +kernel
theorem dX7_draft_22 : decode cX7_draft 22 = .ok (.iconst 0, 1) := by decide +kernel
theorem dX7_draft_23 : decode cX7_draft 23 = .ok (.iload_n 1, 1) := by decide +kernel
theorem dX7_draft_24 : decode cX7_draft 24 = .ok (.invokestatic 124, 3) := by decide +kernel
theorem dX7_draft_27 : decode cX7_draft 27 = .ok (.invokestatic 100, 3) := by decide +kernel
theorem dX7_draft_30 : decode cX7_draft 30 = .ok (.ifCond .eq 8, 3) := by decide +kernel
theorem dX7_draft_33 : decode cX7_draft 33 = .ok (.iload_n 2, 1) := by decide +kernel
theorem dX7_draft_34 : decode cX7_draft 34 = .ok (.iload_n 3, 1) := by decide +kernel
theorem dX7_draft_35 : decode cX7_draft 35 = .ok (.if_icmp .le 6, 3) := by decide +kernel
theorem dX7_draft_38 : decode cX7_draft 38 = .ok (.bipush (-2), 2) := by decide +kernel
theorem dX7_draft_40 : decode cX7_draft 40 = .ok (.ireturn, 1) := by decide +kernel
theorem dX7_draft_41 : decode cX7_draft 41 = .ok (.aload_n 0, 1) := by decide +kernel
theorem dX7_draft_42 : decode cX7_draft 42 = .ok (.getfield 7, 3) := by decide +kernel
theorem dX7_draft_45 : decode cX7_draft 45 = .ok (.bipush 64, 2) := by decide +kernel
theorem dX7_draft_47 : decode cX7_draft 47 = .ok (.iload_n 1, 1) := by decide +kernel
theorem dX7_draft_48 : decode cX7_draft 48 = .ok (.iadd, 1) := by decide +kernel
theorem dX7_draft_49 : decode cX7_draft 49 = .ok (.iload_n 2, 1) := by decide +kernel
theorem dX7_draft_50 : decode cX7_draft 50 = .ok (.iastore, 1) := by decide +kernel
theorem dX7_draft_51 : decode cX7_draft 51 = .ok (.aload_n 0, 1) := by decide +kernel
theorem dX7_draft_52 : decode cX7_draft 52 = .ok (.getfield 13, 3) := by decide +kernel
theorem dX7_draft_55 : decode cX7_draft 55 = .ok (.bipush 64, 2) := by decide +kernel
theorem dX7_draft_57 : decode cX7_draft 57 = .ok (.iload_n 1, 1) := by decide +kernel
theorem dX7_draft_58 : decode cX7_draft 58 = .ok (.iadd, 1) := by decide +kernel
theorem dX7_draft_59 : decode cX7_draft 59 = .ok (.iload_n 3, 1) := by decide +kernel
theorem dX7_draft_60 : decode cX7_draft 60 = .ok (.iastore, 1) := by decide +kernel
theorem dX7_draft_61 : decode cX7_draft 61 = .ok (.iload_n 3, 1) := by decide +kernel
theorem dX7_draft_62 : decode cX7_draft 62 = .ok (.iload_n 2, 1) := by decide +kernel
theorem dX7_draft_63 : decode cX7_draft 63 = .ok (.isub, 1) := by decide +kernel
theorem dX7_draft_64 : decode cX7_draft 64 = .ok (.iconst 1, 1) := by decide +kernel
theorem dX7_draft_65 : decode cX7_draft 65 = .ok (.iadd, 1) := by decide +kernel
theorem dX7_draft_66 : decode cX7_draft 66 = .ok (.ireturn, 1) := by decide +kernel
theorem dX7_rule_0 : decode cX7_rule 0 = .ok (.iload_n 1, 1) := by decide +kernel
theorem dX7_rule_1 : decode cX7_rule 1 = .ok (.iconst 0, 1) := by decide +kernel
theorem dX7_rule_2 : decode cX7_rule 2 = .ok (.sipush 999, 3) := by decide +kernel
theorem dX7_rule_5 : decode cX7_rule 5 = .ok (.invokestatic 100, 3) := by decide +kernel
theorem dX7_rule_8 : decode cX7_rule 8 = .ok (.ifCond .eq 13, 3) := by decide +kernel
theorem dX7_rule_11 : decode cX7_rule 11 = .ok (.iload_n 2, 1) := by decide +kernel
theorem dX7_rule_12 : decode cX7_rule 12 = .ok (.iconst 0, 1) := by decide +kernel
theorem dX7_rule_13 : decode cX7_rule 13 = .ok (.bipush 9, 2) := by decide +kernel
theorem dX7_rule_15 : decode cX7_rule 15 = .ok (.invokestatic 100, 3) := by decide +kernel
theorem dX7_rule_18 : decode cX7_rule 18 = .ok (.ifCond .ne 6, 3) := by decide +kernel
theorem dX7_rule_21 : decode cX7_rule 21 = .ok (.bipush (-2), 2) := by decide +kernel
theorem dX7_rule_23 : decode cX7_rule 23 = .ok (.ireturn, 1) := by decide +kernel
theorem dX7_rule_24 : decode cX7_rule 24 = .ok (.aload_n 0, 1) := by decide +kernel
theorem dX7_rule_25 : decode cX7_rule 25 = .ok (.getfield 104, 3) := by decide +kernel
theorem dX7_rule_28 : decode cX7_rule 28 = .ok (.bipush 16, 2) := by decide +kernel
theorem dX7_rule_30 : decode cX7_rule 30 = .ok (.if_icmp .ne 6, 3) := by decide +kernel
theorem dX7_rule_33 : decode cX7_rule 33 = .ok (.bipush (-4), 2) := by decide +kernel
theorem dX7_rule_35 : decode cX7_rule 35 = .ok (.ireturn, 1) := by decide +kernel
theorem dX7_rule_36 : decode cX7_rule 36 = .ok (.iconst 0, 1) := by decide +kernel
theorem dX7_rule_37 : decode cX7_rule 37 = .ok (.istore_n 3, 1) := by decide +kernel
theorem dX7_rule_38 : decode cX7_rule 38 = .ok (.iload_n 3, 1) := by decide +kernel
theorem dX7_rule_39 : decode cX7_rule 39 = .ok (.iconst 4, 1) := by decide +kernel
theorem dX7_rule_40 : decode cX7_rule 40 = .ok (.if_icmp .ge 53, 3) := by decide +kernel
theorem dX7_rule_43 : decode cX7_rule 43 = .ok (.aload_n 0, 1) := by decide +kernel
theorem dX7_rule_44 : decode cX7_rule 44 = .ok (.getfield 7, 3) := by decide +kernel
theorem dX7_rule_47 : decode cX7_rule 47 = .ok (.iconst 4, 1) := by decide +kernel
theorem dX7_rule_48 : decode cX7_rule 48 = .ok (.aload_n 0, 1) := by decide +kernel
theorem dX7_rule_49 : decode cX7_rule 49 = .ok (.getfield 104, 3) := by decide +kernel
theorem dX7_rule_52 : decode cX7_rule 52 = .ok (.imul, 1) := by decide +kernel
theorem dX7_rule_53 : decode cX7_rule 53 = .ok (.iload_n 3, 1) := by decide +kernel
theorem dX7_rule_54 : decode cX7_rule 54 = .ok (.iadd, 1) := by decide +kernel
theorem dX7_rule_55 : decode cX7_rule 55 = .ok (.aload_n 0, 1) := by decide +kernel
theorem dX7_rule_56 : decode cX7_rule 56 = .ok (.getfield 7, 3) := by decide +kernel
theorem dX7_rule_59 : decode cX7_rule 59 = .ok (.bipush 64, 2) := by decide +kernel
theorem dX7_rule_61 : decode cX7_rule 61 = .ok (.iload_n 3, 1) := by decide +kernel
theorem dX7_rule_62 : decode cX7_rule 62 = .ok (.iadd, 1) := by decide +kernel
theorem dX7_rule_63 : decode cX7_rule 63 = .ok (.iaload, 1) := by decide +kernel
theorem dX7_rule_64 : decode cX7_rule 64 = .ok (.iastore, 1) := by decide +kernel
theorem dX7_rule_65 : decode cX7_rule 65 = .ok (.aload_n 0, 1) := by decide +kernel
theorem dX7_rule_66 : decode cX7_rule 66 = .ok (.getfield 13, 3) := by decide +kernel
theorem dX7_rule_69 : decode cX7_rule 69 = .ok (.iconst 4, 1) := by decide +kernel
theorem dX7_rule_70 : decode cX7_rule 70 = .ok (.aload_n 0, 1) := by decide +kernel
theorem dX7_rule_71 : decode cX7_rule 71 = .ok (.getfield 104, 3) := by decide +kernel
theorem dX7_rule_74 : decode cX7_rule 74 = .ok (.imul, 1) := by decide +kernel
theorem dX7_rule_75 : decode cX7_rule 75 = .ok (.iload_n 3, 1) := by decide +kernel
theorem dX7_rule_76 : decode cX7_rule 76 = .ok (.iadd, 1) := by decide +kernel
theorem dX7_rule_77 : decode cX7_rule 77 = .ok (.aload_n 0, 1) := by decide +kernel
theorem dX7_rule_78 : decode cX7_rule 78 = .ok (.getfield 13, 3) := by decide +kernel
theorem dX7_rule_81 : decode cX7_rule 81 = .ok (.bipush 64, 2) := by decide +kernel
theorem dX7_rule_83 : decode cX7_rule 83 = .ok (.iload_n 3, 1) := by decide +kernel
theorem dX7_rule_84 : decode cX7_rule 84 = .ok (.iadd, 1) := by decide +kernel
theorem dX7_rule_85 : decode cX7_rule 85 = .ok (.iaload, 1) := by decide +kernel
theorem dX7_rule_86 : decode cX7_rule 86 = .ok (.iastore, 1) := by decide +kernel
theorem dX7_rule_87 : decode cX7_rule 87 = .ok (.iinc 3 1, 3) := by decide +kernel
theorem dX7_rule_90 : decode cX7_rule 90 = .ok (.goto (-52), 3) := by decide +kernel
theorem dX7_rule_93 : decode cX7_rule 93 = .ok (.aload_n 0, 1) := by decide +kernel
theorem dX7_rule_94 : decode cX7_rule 94 = .ok (.getfield 16, 3) := by decide +kernel
theorem dX7_rule_97 : decode cX7_rule 97 = .ok (.aload_n 0, 1) := by decide +kernel
theorem dX7_rule_98 : decode cX7_rule 98 = .ok (.getfield 104, 3) := by decide +kernel
theorem dX7_rule_101 : decode cX7_rule 101 = .ok (.iload_n 1, 1) := by decide +kernel
theorem dX7_rule_102 : decode cX7_rule 102 = .ok (.iastore, 1) := by decide +kernel
theorem dX7_rule_103 : decode cX7_rule 103 = .ok (.aload_n 0, 1) := by decide +kernel
theorem dX7_rule_104 : decode cX7_rule 104 = .ok (.getfield 19, 3) := by decide +kernel
theorem dX7_rule_107 : decode cX7_rule 107 = .ok (.aload_n 0, 1) := by decide +kernel
theorem dX7_rule_108 : decode cX7_rule 108 = .ok (.getfield 104, 3) := by decide +kernel
theorem dX7_rule_111 : decode cX7_rule 111 = .ok (.iload_n 2, 1) := by decide +kernel
theorem dX7_rule_112 : decode cX7_rule 112 = .ok (.iastore, 1) := by decide +kernel
theorem dX7_rule_113 : decode cX7_rule 113 = .ok (.aload_n 0, 1) := by decide +kernel
theorem dX7_rule_114 : decode cX7_rule 114 = .ok (.dup, 1) := by decide +kernel
theorem dX7_rule_115 : decode cX7_rule 115 = .ok (.getfield 104, 3) := by decide +kernel
theorem dX7_rule_118 : decode cX7_rule 118 = .ok (.iconst 1, 1) := by decide +kernel
theorem dX7_rule_119 : decode cX7_rule 119 = .ok (.iadd, 1) := by decide +kernel
theorem dX7_rule_120 : decode cX7_rule 120 = .ok (.putfield 104, 3) := by decide +kernel
theorem dX7_rule_123 : decode cX7_rule 123 = .ok (.aload_n 0, 1) := by decide +kernel
theorem dX7_rule_124 : decode cX7_rule 124 = .ok (.invokevirtual 93, 3) := by decide +kernel
theorem dX7_rule_127 : decode cX7_rule 127 = .ok (.aload_n 0, 1) := by decide +kernel
theorem dX7_rule_128 : decode cX7_rule 128 = .ok (.invokevirtual 131, 3) := by decide +kernel
theorem dX7_rule_131 : decode cX7_rule 131 = .ok (.aload_n 0, 1) := by decide +kernel
theorem dX7_rule_132 : decode cX7_rule 132 = .ok (.getfield 104, 3) := by decide +kernel
theorem dX7_rule_135 : decode cX7_rule 135 = .ok (.iconst 1, 1) := by decide +kernel
theorem dX7_rule_136 : decode cX7_rule 136 = .ok (.isub, 1) := by decide +kernel
theorem dX7_rule_137 : decode cX7_rule 137 = .ok (.ireturn, 1) := by decide +kernel
theorem dX7_drop_0 : decode cX7_drop 0 = .ok (.aload_n 0, 1) := by decide +kernel
theorem dX7_drop_1 : decode cX7_drop 1 = .ok (.iload_n 1, 1) := by decide +kernel
theorem dX7_drop_2 : decode cX7_drop 2 = .ok (.invokevirtual 134, 3) := by decide +kernel
theorem dX7_drop_5 : decode cX7_drop 5 = .ok (.ifCond .ne 5, 3) := by decide +kernel
theorem dX7_drop_8 : decode cX7_drop 8 = .ok (.iconst (-1), 1) := by decide +kernel
theorem dX7_drop_9 : decode cX7_drop 9 = .ok (.ireturn, 1) := by decide +kernel
theorem dX7_drop_10 : decode cX7_drop 10 = .ok (.aload_n 0, 1) := by decide +kernel
theorem dX7_drop_11 : decode cX7_drop 11 = .ok (.dup, 1) := by decide +kernel
theorem dX7_drop_12 : decode cX7_drop 12 = .ok (.getfield 104, 3) := by decide +kernel
theorem dX7_drop_15 : decode cX7_drop 15 = .ok (.iconst 1, 1) := by decide +kernel
theorem dX7_drop_16 : decode cX7_drop 16 = .ok (.isub, 1) := by decide +kernel
theorem dX7_drop_17 : decode cX7_drop 17 = .ok (.putfield 104, 3) := by decide +kernel
theorem dX7_drop_20 : decode cX7_drop 20 = .ok (.iload_n 1, 1) := by decide +kernel
theorem dX7_drop_21 : decode cX7_drop 21 = .ok (.istore_n 2, 1) := by decide +kernel
theorem dX7_drop_22 : decode cX7_drop 22 = .ok (.iload_n 2, 1) := by decide +kernel
theorem dX7_drop_23 : decode cX7_drop 23 = .ok (.aload_n 0, 1) := by decide +kernel
theorem dX7_drop_24 : decode cX7_drop 24 = .ok (.getfield 104, 3) := by decide +kernel
theorem dX7_drop_27 : decode cX7_drop 27 = .ok (.if_icmp .ge 94, 3) := by decide +kernel
theorem dX7_drop_30 : decode cX7_drop 30 = .ok (.iconst 0, 1) := by decide +kernel
theorem dX7_drop_31 : decode cX7_drop 31 = .ok (.istore_n 3, 1) := by decide +kernel
theorem dX7_drop_32 : decode cX7_drop 32 = .ok (.iload_n 3, 1) := by decide +kernel
theorem dX7_drop_33 : decode cX7_drop 33 = .ok (.iconst 4, 1) := by decide +kernel
theorem dX7_drop_34 : decode cX7_drop 34 = .ok (.if_icmp .ge 53, 3) := by decide +kernel
theorem dX7_drop_37 : decode cX7_drop 37 = .ok (.aload_n 0, 1) := by decide +kernel
theorem dX7_drop_38 : decode cX7_drop 38 = .ok (.getfield 7, 3) := by decide +kernel
theorem dX7_drop_41 : decode cX7_drop 41 = .ok (.iconst 4, 1) := by decide +kernel
theorem dX7_drop_42 : decode cX7_drop 42 = .ok (.iload_n 2, 1) := by decide +kernel
theorem dX7_drop_43 : decode cX7_drop 43 = .ok (.imul, 1) := by decide +kernel
theorem dX7_drop_44 : decode cX7_drop 44 = .ok (.iload_n 3, 1) := by decide +kernel
