-- ===== printed: the decode rows of the methods that are walked =====
theorem dX3_at_0 : decode cX3_at 0 = .ok (.aload_n 0, 1) := by decide +kernel
theorem dX3_at_1 : decode cX3_at 1 = .ok (.getfield 20, 3) := by decide +kernel
theorem dX3_at_4 : decode cX3_at 4 = .ok (.iload_n 1, 1) := by decide +kernel
theorem dX3_at_5 : decode cX3_at 5 = .ok (.bipush 7, 2) := by decide +kernel
theorem dX3_at_7 : decode cX3_at 7 = .ok (.iand, 1) := by decide +kernel
theorem dX3_at_8 : decode cX3_at 8 = .ok (.aaload, 1) := by decide +kernel
theorem dX3_at_9 : decode cX3_at 9 = .ok (.areturn, 1) := by decide +kernel
theorem dX6_isSet_0 : decode cX6_isSet 0 = .ok (.aload_n 0, 1) := by decide +kernel
theorem dX6_isSet_1 : decode cX6_isSet 1 = .ok (.getfield 9, 3) := by decide +kernel
theorem dX6_isSet_4 : decode cX6_isSet 4 = .ok (.bipush (-9), 2) := by decide +kernel
theorem dX6_isSet_6 : decode cX6_isSet 6 = .ok (.if_icmp .eq 7, 3) := by decide +kernel
theorem dX6_isSet_9 : decode cX6_isSet 9 = .ok (.iconst 1, 1) := by decide +kernel
theorem dX6_isSet_10 : decode cX6_isSet 10 = .ok (.goto 4, 3) := by decide +kernel
theorem dX6_isSet_13 : decode cX6_isSet 13 = .ok (.iconst 0, 1) := by decide +kernel
theorem dX6_isSet_14 : decode cX6_isSet 14 = .ok (.ireturn, 1) := by decide +kernel
theorem dX6_gladIn_0 : decode cX6_gladIn 0 = .ok (.iload_n 1, 1) := by decide +kernel
theorem dX6_gladIn_1 : decode cX6_gladIn 1 = .ok (.ifCond .lt 9, 3) := by decide +kernel
theorem dX6_gladIn_4 : decode cX6_gladIn 4 = .ok (.iload_n 1, 1) := by decide +kernel
theorem dX6_gladIn_5 : decode cX6_gladIn 5 = .ok (.bipush 12, 2) := by decide +kernel
theorem dX6_gladIn_7 : decode cX6_gladIn 7 = .ok (.if_icmp .lt 7, 3) := by decide +kernel
theorem dX6_gladIn_10 : decode cX6_gladIn 10 = .ok (.iconst 0, 1) := by decide +kernel
theorem dX6_gladIn_11 : decode cX6_gladIn 11 = .ok (.goto 9, 3) := by decide +kernel
theorem dX6_gladIn_14 : decode cX6_gladIn 14 = .ok (.aload_n 0, 1) := by decide +kernel
theorem dX6_gladIn_15 : decode cX6_gladIn 15 = .ok (.getfield 15, 3) := by decide +kernel
theorem dX6_gladIn_18 : decode cX6_gladIn 18 = .ok (.iload_n 1, 1) := by decide +kernel
theorem dX6_gladIn_19 : decode cX6_gladIn 19 = .ok (.iaload, 1) := by decide +kernel
theorem dX6_gladIn_20 : decode cX6_gladIn 20 = .ok (.ireturn, 1) := by decide +kernel
theorem dX6_gladdestYear_0 : decode cX6_gladdestYear 0 = .ok (.iload_n 1, 1) := by decide +kernel
theorem dX6_gladdestYear_1 : decode cX6_gladdestYear 1 = .ok (.istore_n 2, 1) := by decide +kernel
theorem dX6_gladdestYear_2 : decode cX6_gladdestYear 2 = .ok (.iload_n 1, 1) := by decide +kernel
theorem dX6_gladdestYear_3 : decode cX6_gladdestYear 3 = .ok (.iconst 1, 1) := by decide +kernel
theorem dX6_gladdestYear_4 : decode cX6_gladdestYear 4 = .ok (.isub, 1) := by decide +kernel
theorem dX6_gladdestYear_5 : decode cX6_gladdestYear 5 = .ok (.istore_n 3, 1) := by decide +kernel
theorem dX6_gladdestYear_6 : decode cX6_gladdestYear 6 = .ok (.iload_n 3, 1) := by decide +kernel
theorem dX6_gladdestYear_7 : decode cX6_gladdestYear 7 = .ok (.ifCond .lt 24, 3) := by decide +kernel
theorem dX6_gladdestYear_10 : decode cX6_gladdestYear 10 = .ok (.aload_n 0, 1) := by decide +kernel
theorem dX6_gladdestYear_11 : decode cX6_gladdestYear 11 = .ok (.iload_n 3, 1) := by decide +kernel
theorem dX6_gladdestYear_12 : decode cX6_gladdestYear 12 = .ok (.invokevirtual 35, 3) := by decide +kernel
theorem dX6_gladdestYear_15 : decode cX6_gladdestYear 15 = .ok (.aload_n 0, 1) := by decide +kernel
theorem dX6_gladdestYear_16 : decode cX6_gladdestYear 16 = .ok (.iload_n 2, 1) := by decide +kernel
theorem dX6_gladdestYear_17 : decode cX6_gladdestYear 17 = .ok (.invokevirtual 35, 3) := by decide +kernel
theorem dX6_gladdestYear_20 : decode cX6_gladdestYear 20 = .ok (.if_icmp .le 5, 3) := by decide +kernel
theorem dX6_gladdestYear_23 : decode cX6_gladdestYear 23 = .ok (.iload_n 3, 1) := by decide +kernel
theorem dX6_gladdestYear_24 : decode cX6_gladdestYear 24 = .ok (.istore_n 2, 1) := by decide +kernel
theorem dX6_gladdestYear_25 : decode cX6_gladdestYear 25 = .ok (.iinc 3 (-1), 3) := by decide +kernel
theorem dX6_gladdestYear_28 : decode cX6_gladdestYear 28 = .ok (.goto (-22), 3) := by decide +kernel
theorem dX6_gladdestYear_31 : decode cX6_gladdestYear 31 = .ok (.iload_n 2, 1) := by decide +kernel
theorem dX6_gladdestYear_32 : decode cX6_gladdestYear 32 = .ok (.ireturn, 1) := by decide +kernel
theorem dX6_reach_0 : decode cX6_reach 0 = .ok (.iconst 0, 1) := by decide +kernel
theorem dX6_reach_1 : decode cX6_reach 1 = .ok (.iload_n 1, 1) := by decide +kernel
theorem dX6_reach_2 : decode cX6_reach 2 = .ok (.iconst 5, 1) := by decide +kernel
theorem dX6_reach_3 : decode cX6_reach 3 = .ok (.idiv, 1) := by decide +kernel
theorem dX6_reach_4 : decode cX6_reach 4 = .ok (.iload_n 2, 1) := by decide +kernel
theorem dX6_reach_5 : decode cX6_reach 5 = .ok (.isub, 1) := by decide +kernel
theorem dX6_reach_6 : decode cX6_reach 6 = .ok (.invokestatic 42, 3) := by decide +kernel
theorem dX6_reach_9 : decode cX6_reach 9 = .ok (.istore_n 3, 1) := by decide +kernel
theorem dX6_reach_10 : decode cX6_reach 10 = .ok (.aload_n 0, 1) := by decide +kernel
theorem dX6_reach_11 : decode cX6_reach 11 = .ok (.getfield 19, 3) := by decide +kernel
theorem dX6_reach_14 : decode cX6_reach 14 = .ok (.iconst 2, 1) := by decide +kernel
theorem dX6_reach_15 : decode cX6_reach 15 = .ok (.if_icmp .eq 11, 3) := by decide +kernel
theorem dX6_reach_18 : decode cX6_reach 18 = .ok (.aload_n 0, 1) := by decide +kernel
theorem dX6_reach_19 : decode cX6_reach 19 = .ok (.getfield 19, 3) := by decide +kernel
theorem dX6_reach_22 : decode cX6_reach 22 = .ok (.iconst 5, 1) := by decide +kernel
theorem dX6_reach_23 : decode cX6_reach 23 = .ok (.if_icmp .ne 10, 3) := by decide +kernel
theorem dX6_reach_26 : decode cX6_reach 26 = .ok (.iload_n 3, 1) := by decide +kernel
theorem dX6_reach_27 : decode cX6_reach 27 = .ok (.aload_n 0, 1) := by decide +kernel
theorem dX6_reach_28 : decode cX6_reach 28 = .ok (.getfield 22, 3) := by decide +kernel
theorem dX6_reach_31 : decode cX6_reach 31 = .ok (.iadd, 1) := by decide +kernel
theorem dX6_reach_32 : decode cX6_reach 32 = .ok (.ireturn, 1) := by decide +kernel
theorem dX6_reach_33 : decode cX6_reach 33 = .ok (.aload_n 0, 1) := by decide +kernel
theorem dX6_reach_34 : decode cX6_reach 34 = .ok (.getfield 19, 3) := by decide +kernel
theorem dX6_reach_37 : decode cX6_reach 37 = .ok (.iconst 4, 1) := by decide +kernel
theorem dX6_reach_38 : decode cX6_reach 38 = .ok (.if_icmp .ne 9, 3) := by decide +kernel
theorem dX6_reach_41 : decode cX6_reach 41 = .ok (.iload_n 3, 1) := by decide +kernel
theorem dX6_reach_42 : decode cX6_reach 42 = .ok (.iconst 2, 1) := by decide +kernel
theorem dX6_reach_43 : decode cX6_reach 43 = .ok (.idiv, 1) := by decide +kernel
theorem dX6_reach_44 : decode cX6_reach 44 = .ok (.goto 4, 3) := by decide +kernel
theorem dX6_reach_47 : decode cX6_reach 47 = .ok (.iload_n 3, 1) := by decide +kernel
theorem dX6_reach_48 : decode cX6_reach 48 = .ok (.ireturn, 1) := by decide +kernel
theorem dX6_counts_0 : decode cX6_counts 0 = .ok (.aload_n 0, 1) := by decide +kernel
theorem dX6_counts_1 : decode cX6_counts 1 = .ok (.getfield 19, 3) := by decide +kernel
theorem dX6_counts_4 : decode cX6_counts 4 = .ok (.iconst 5, 1) := by decide +kernel
theorem dX6_counts_5 : decode cX6_counts 5 = .ok (.if_icmp .ne 10, 3) := by decide +kernel
theorem dX6_counts_8 : decode cX6_counts 8 = .ok (.aload_n 0, 1) := by decide +kernel
theorem dX6_counts_9 : decode cX6_counts 9 = .ok (.iload_n 1, 1) := by decide +kernel
theorem dX6_counts_10 : decode cX6_counts 10 = .ok (.invokevirtual 35, 3) := by decide +kernel
theorem dX6_counts_13 : decode cX6_counts 13 = .ok (.ineg, 1) := by decide +kernel
theorem dX6_counts_14 : decode cX6_counts 14 = .ok (.ireturn, 1) := by decide +kernel
theorem dX6_counts_15 : decode cX6_counts 15 = .ok (.aload_n 0, 1) := by decide +kernel
theorem dX6_counts_16 : decode cX6_counts 16 = .ok (.getfield 19, 3) := by decide +kernel
theorem dX6_counts_19 : decode cX6_counts 19 = .ok (.iconst 3, 1) := by decide +kernel
theorem dX6_counts_20 : decode cX6_counts 20 = .ok (.if_icmp .ne 20, 3) := by decide +kernel
theorem dX6_counts_23 : decode cX6_counts 23 = .ok (.aload_n 0, 1) := by decide +kernel
theorem dX6_counts_24 : decode cX6_counts 24 = .ok (.iload_n 1, 1) := by decide +kernel
theorem dX6_counts_25 : decode cX6_counts 25 = .ok (.invokevirtual 35, 3) := by decide +kernel
theorem dX6_counts_28 : decode cX6_counts 28 = .ok (.aload_n 0, 1) := by decide +kernel
theorem dX6_counts_29 : decode cX6_counts 29 = .ok (.getfield 22, 3) := by decide +kernel
theorem dX6_counts_32 : decode cX6_counts 32 = .ok (.iload_n 2, 1) := by decide +kernel
theorem dX6_counts_33 : decode cX6_counts 33 = .ok (.iload_n 1, 1) := by decide +kernel
theorem dX6_counts_34 : decode cX6_counts 34 = .ok (.isub, 1) := by decide +kernel
theorem dX6_counts_35 : decode cX6_counts 35 = .ok (.imul, 1) := by decide +kernel
theorem dX6_counts_36 : decode cX6_counts 36 = .ok (.isub, 1) := by decide +kernel
theorem dX6_counts_37 : decode cX6_counts 37 = .ok (.goto 8, 3) := by decide +kernel
theorem dX6_counts_40 : decode cX6_counts 40 = .ok (.aload_n 0, 1) := by decide +kernel
theorem dX6_counts_41 : decode cX6_counts 41 = .ok (.iload_n 1, 1) := by decide +kernel
theorem dX6_counts_42 : decode cX6_counts 42 = .ok (.invokevirtual 35, 3) := by decide +kernel
theorem dX6_counts_45 : decode cX6_counts 45 = .ok (.ireturn, 1) := by decide +kernel
theorem dX6_yearBy_0 : decode cX6_yearBy 0 = .ok (.aload_n 0, 1) := by decide +kernel
theorem dX6_yearBy_1 : decode cX6_yearBy 1 = .ok (.getfield 19, 3) := by decide +kernel
theorem dX6_yearBy_4 : decode cX6_yearBy 4 = .ok (.iconst 1, 1) := by decide +kernel
theorem dX6_yearBy_5 : decode cX6_yearBy 5 = .ok (.if_icmp .eq 11, 3) := by decide +kernel
theorem dX6_yearBy_8 : decode cX6_yearBy 8 = .ok (.aload_n 0, 1) := by decide +kernel
theorem dX6_yearBy_9 : decode cX6_yearBy 9 = .ok (.getfield 19, 3) := by decide +kernel
theorem dX6_yearBy_12 : decode cX6_yearBy 12 = .ok (.iconst 3, 1) := by decide +kernel
theorem dX6_yearBy_13 : decode cX6_yearBy 13 = .ok (.if_icmp .ne 7, 3) := by decide +kernel
theorem dX6_yearBy_16 : decode cX6_yearBy 16 = .ok (.iconst 1, 1) := by decide +kernel
theorem dX6_yearBy_17 : decode cX6_yearBy 17 = .ok (.goto 4, 3) := by decide +kernel
theorem dX6_yearBy_20 : decode cX6_yearBy 20 = .ok (.iconst 0, 1) := by decide +kernel
theorem dX6_yearBy_21 : decode cX6_yearBy 21 = .ok (.istore 4, 2) := by decide +kernel
theorem dX6_yearBy_23 : decode cX6_yearBy 23 = .ok (.iconst 0, 1) := by decide +kernel
theorem dX6_yearBy_24 : decode cX6_yearBy 24 = .ok (.iload_n 3, 1) := by decide +kernel
theorem dX6_yearBy_25 : decode cX6_yearBy 25 = .ok (.aload_n 0, 1) := by decide +kernel
theorem dX6_yearBy_26 : decode cX6_yearBy 26 = .ok (.iload_n 1, 1) := by decide +kernel
theorem dX6_yearBy_27 : decode cX6_yearBy 27 = .ok (.iload_n 2, 1) := by decide +kernel
theorem dX6_yearBy_28 : decode cX6_yearBy 28 = .ok (.invokevirtual 48, 3) := by decide +kernel
theorem dX6_yearBy_31 : decode cX6_yearBy 31 = .ok (.isub, 1) := by decide +kernel
theorem dX6_yearBy_32 : decode cX6_yearBy 32 = .ok (.invokestatic 42, 3) := by decide +kernel
theorem dX6_yearBy_35 : decode cX6_yearBy 35 = .ok (.istore 5, 2) := by decide +kernel
theorem dX6_yearBy_37 : decode cX6_yearBy 37 = .ok (.iload_n 3, 1) := by decide +kernel
theorem dX6_yearBy_38 : decode cX6_yearBy 38 = .ok (.istore 6, 2) := by decide +kernel
theorem dX6_yearBy_40 : decode cX6_yearBy 40 = .ok (.aload_n 0, 1) := by decide +kernel
theorem dX6_yearBy_41 : decode cX6_yearBy 41 = .ok (.iload_n 3, 1) := by decide +kernel
theorem dX6_yearBy_42 : decode cX6_yearBy 42 = .ok (.iload_n 3, 1) := by decide +kernel
theorem dX6_yearBy_43 : decode cX6_yearBy 43 = .ok (.invokevirtual 51, 3) := by decide +kernel
theorem dX6_yearBy_46 : decode cX6_yearBy 46 = .ok (.istore 7, 2) := by decide +kernel
theorem dX6_yearBy_48 : decode cX6_yearBy 48 = .ok (.iload_n 3, 1) := by decide +kernel
theorem dX6_yearBy_49 : decode cX6_yearBy 49 = .ok (.iconst 1, 1) := by decide +kernel
theorem dX6_yearBy_50 : decode cX6_yearBy 50 = .ok (.isub, 1) := by decide +kernel
theorem dX6_yearBy_51 : decode cX6_yearBy 51 = .ok (.istore 8, 2) := by decide +kernel
theorem dX6_yearBy_53 : decode cX6_yearBy 53 = .ok (.iload 8, 2) := by decide +kernel
theorem dX6_yearBy_55 : decode cX6_yearBy 55 = .ok (.iload 5, 2) := by decide +kernel
theorem dX6_yearBy_57 : decode cX6_yearBy 57 = .ok (.if_icmp .lt 45, 3) := by decide +kernel
theorem dX6_yearBy_60 : decode cX6_yearBy 60 = .ok (.aload_n 0, 1) := by decide +kernel
theorem dX6_yearBy_61 : decode cX6_yearBy 61 = .ok (.iload 8, 2) := by decide +kernel
theorem dX6_yearBy_63 : decode cX6_yearBy 63 = .ok (.iload_n 3, 1) := by decide +kernel
theorem dX6_yearBy_64 : decode cX6_yearBy 64 = .ok (.invokevirtual 51, 3) := by decide +kernel
theorem dX6_yearBy_67 : decode cX6_yearBy 67 = .ok (.istore 9, 2) := by decide +kernel
theorem dX6_yearBy_69 : decode cX6_yearBy 69 = .ok (.iload 9, 2) := by decide +kernel
theorem dX6_yearBy_71 : decode cX6_yearBy 71 = .ok (.iload 7, 2) := by decide +kernel
theorem dX6_yearBy_73 : decode cX6_yearBy 73 = .ok (.if_icmp .gt 15, 3) := by decide +kernel
theorem dX6_yearBy_76 : decode cX6_yearBy 76 = .ok (.iload 4, 2) := by decide +kernel
theorem dX6_yearBy_78 : decode cX6_yearBy 78 = .ok (.ifCond .eq 18, 3) := by decide +kernel
theorem dX6_yearBy_81 : decode cX6_yearBy 81 = .ok (.iload 9, 2) := by decide +kernel
theorem dX6_yearBy_83 : decode cX6_yearBy 83 = .ok (.iload 7, 2) := by decide +kernel
theorem dX6_yearBy_85 : decode cX6_yearBy 85 = .ok (.if_icmp .ne 11, 3) := by decide +kernel
theorem dX6_yearBy_88 : decode cX6_yearBy 88 = .ok (.iload 8, 2) := by decide +kernel
theorem dX6_yearBy_90 : decode cX6_yearBy 90 = .ok (.istore 6, 2) := by decide +kernel
theorem dX6_yearBy_92 : decode cX6_yearBy 92 = .ok (.iload 9, 2) := by decide +kernel
theorem dX6_yearBy_94 : decode cX6_yearBy 94 = .ok (.istore 7, 2) := by decide +kernel
theorem dX6_yearBy_96 : decode cX6_yearBy 96 = .ok (.iinc 8 (-1), 3) := by decide +kernel
theorem dX6_yearBy_99 : decode cX6_yearBy 99 = .ok (.goto (-46), 3) := by decide +kernel
theorem dX6_yearBy_102 : decode cX6_yearBy 102 = .ok (.iload 6, 2) := by decide +kernel
theorem dX6_yearBy_104 : decode cX6_yearBy 104 = .ok (.ireturn, 1) := by decide +kernel
theorem dX6_fewestFor_0 : decode cX6_fewestFor 0 = .ok (.iconst 0, 1) := by decide +kernel
theorem dX6_fewestFor_1 : decode cX6_fewestFor 1 = .ok (.istore_n 3, 1) := by decide +kernel
theorem dX6_fewestFor_2 : decode cX6_fewestFor 2 = .ok (.iload_n 3, 1) := by decide +kernel
theorem dX6_fewestFor_3 : decode cX6_fewestFor 3 = .ok (.bipush 19, 2) := by decide +kernel
theorem dX6_fewestFor_5 : decode cX6_fewestFor 5 = .ok (.if_icmp .gt 26, 3) := by decide +kernel
theorem dX6_fewestFor_8 : decode cX6_fewestFor 8 = .ok (.aload_n 0, 1) := by decide +kernel
theorem dX6_fewestFor_9 : decode cX6_fewestFor 9 = .ok (.iload_n 3, 1) := by decide +kernel
theorem dX6_fewestFor_10 : decode cX6_fewestFor 10 = .ok (.iconst 5, 1) := by decide +kernel
theorem dX6_fewestFor_11 : decode cX6_fewestFor 11 = .ok (.imul, 1) := by decide +kernel
theorem dX6_fewestFor_12 : decode cX6_fewestFor 12 = .ok (.iconst 0, 1) := by decide +kernel
theorem dX6_fewestFor_13 : decode cX6_fewestFor 13 = .ok (.iload_n 2, 1) := by decide +kernel
theorem dX6_fewestFor_14 : decode cX6_fewestFor 14 = .ok (.invokevirtual 54, 3) := by decide +kernel
theorem dX6_fewestFor_17 : decode cX6_fewestFor 17 = .ok (.iload_n 1, 1) := by decide +kernel
theorem dX6_fewestFor_18 : decode cX6_fewestFor 18 = .ok (.if_icmp .ne 7, 3) := by decide +kernel
theorem dX6_fewestFor_21 : decode cX6_fewestFor 21 = .ok (.iload_n 3, 1) := by decide +kernel
theorem dX6_fewestFor_22 : decode cX6_fewestFor 22 = .ok (.iconst 5, 1) := by decide +kernel
theorem dX6_fewestFor_23 : decode cX6_fewestFor 23 = .ok (.imul, 1) := by decide +kernel
theorem dX6_fewestFor_24 : decode cX6_fewestFor 24 = .ok (.ireturn, 1) := by decide +kernel
theorem dX6_fewestFor_25 : decode cX6_fewestFor 25 = .ok (.iinc 3 1, 3) := by decide +kernel
theorem dX6_fewestFor_28 : decode cX6_fewestFor 28 = .ok (.goto (-26), 3) := by decide +kernel
theorem dX6_fewestFor_31 : decode cX6_fewestFor 31 = .ok (.bipush (-9), 2) := by decide +kernel
theorem dX6_fewestFor_33 : decode cX6_fewestFor 33 = .ok (.ireturn, 1) := by decide +kernel
theorem dX0_begin_0 : decode cX0_begin 0 = .ok (.iconst 0, 1) := by decide +kernel
theorem dX0_begin_1 : decode cX0_begin 1 = .ok (.istore_n 3, 1) := by decide +kernel
theorem dX0_begin_2 : decode cX0_begin 2 = .ok (.iconst 1, 1) := by decide +kernel
theorem dX0_begin_3 : decode cX0_begin 3 = .ok (.istore 4, 2) := by decide +kernel
theorem dX0_begin_5 : decode cX0_begin 5 = .ok (.iload 4, 2) := by decide +kernel
theorem dX0_begin_7 : decode cX0_begin 7 = .ok (.iload_n 2, 1) := by decide +kernel
theorem dX0_begin_8 : decode cX0_begin 8 = .ok (.if_icmp .ge 34, 3) := by decide +kernel
theorem dX0_begin_11 : decode cX0_begin 11 = .ok (.iload 4, 2) := by decide +kernel
theorem dX0_begin_13 : decode cX0_begin 13 = .ok (.iconst 4, 1) := by decide +kernel
theorem dX0_begin_14 : decode cX0_begin 14 = .ok (.if_icmp .ge 28, 3) := by decide +kernel
theorem dX0_begin_17 : decode cX0_begin 17 = .ok (.aload_n 0, 1) := by decide +kernel
theorem dX0_begin_18 : decode cX0_begin 18 = .ok (.getfield 15, 3) := by decide +kernel
theorem dX0_begin_21 : decode cX0_begin 21 = .ok (.iload 4, 2) := by decide +kernel
theorem dX0_begin_23 : decode cX0_begin 23 = .ok (.iaload, 1) := by decide +kernel
theorem dX0_begin_24 : decode cX0_begin 24 = .ok (.aload_n 0, 1) := by decide +kernel
theorem dX0_begin_25 : decode cX0_begin 25 = .ok (.getfield 15, 3) := by decide +kernel
theorem dX0_begin_28 : decode cX0_begin 28 = .ok (.iload_n 3, 1) := by decide +kernel
theorem dX0_begin_29 : decode cX0_begin 29 = .ok (.iaload, 1) := by decide +kernel
theorem dX0_begin_30 : decode cX0_begin 30 = .ok (.if_icmp .ge 6, 3) := by decide +kernel
theorem dX0_begin_33 : decode cX0_begin 33 = .ok (.iload 4, 2) := by decide +kernel
theorem dX0_begin_35 : decode cX0_begin 35 = .ok (.istore_n 3, 1) := by decide +kernel
theorem dX0_begin_36 : decode cX0_begin 36 = .ok (.iinc 4 1, 3) := by decide +kernel
theorem dX0_begin_39 : decode cX0_begin 39 = .ok (.goto (-34), 3) := by decide +kernel
theorem dX0_begin_42 : decode cX0_begin 42 = .ok (.aload_n 0, 1) := by decide +kernel
theorem dX0_begin_43 : decode cX0_begin 43 = .ok (.getfield 15, 3) := by decide +kernel
theorem dX0_begin_46 : decode cX0_begin 46 = .ok (.iload_n 3, 1) := by decide +kernel
theorem dX0_begin_47 : decode cX0_begin 47 = .ok (.iaload, 1) := by decide +kernel
theorem dX0_begin_48 : decode cX0_begin 48 = .ok (.istore 4, 2) := by decide +kernel
theorem dX0_begin_50 : decode cX0_begin 50 = .ok (.aload_n 0, 1) := by decide +kernel
theorem dX0_begin_51 : decode cX0_begin 51 = .ok (.getfield 15, 3) := by decide +kernel
theorem dX0_begin_54 : decode cX0_begin 54 = .ok (.iload_n 3, 1) := by decide +kernel
theorem dX0_begin_55 : decode cX0_begin 55 = .ok (.iload 4, 2) := by decide +kernel
theorem dX0_begin_57 : decode cX0_begin 57 = .ok (.iload_n 1, 1) := by decide +kernel
theorem dX0_begin_58 : decode cX0_begin 58 = .ok (.iadd, 1) := by decide +kernel
theorem dX0_begin_59 : decode cX0_begin 59 = .ok (.iastore, 1) := by decide +kernel
theorem dX0_begin_60 : decode cX0_begin 60 = .ok (.aload_n 0, 1) := by decide +kernel
theorem dX0_begin_61 : decode cX0_begin 61 = .ok (.aload_n 0, 1) := by decide +kernel
theorem dX0_begin_62 : decode cX0_begin 62 = .ok (.getfield 18, 3) := by decide +kernel
theorem dX0_begin_65 : decode cX0_begin 65 = .ok (.aload_n 0, 1) := by decide +kernel
theorem dX0_begin_66 : decode cX0_begin 66 = .ok (.getfield 15, 3) := by decide +kernel
theorem dX0_begin_69 : decode cX0_begin 69 = .ok (.iload_n 3, 1) := by decide +kernel
theorem dX0_begin_70 : decode cX0_begin 70 = .ok (.iaload, 1) := by decide +kernel
theorem dX0_begin_71 : decode cX0_begin 71 = .ok (.invokestatic 54, 3) := by decide +kernel
theorem dX0_begin_74 : decode cX0_begin 74 = .ok (.putfield 18, 3) := by decide +kernel
theorem dX0_begin_77 : decode cX0_begin 77 = .ok (.iload 4, 2) := by decide +kernel
theorem dX0_begin_79 : decode cX0_begin 79 = .ok (.ireturn, 1) := by decide +kernel
theorem dX0_arrange_0 : decode cX0_arrange 0 = .ok (.aload_n 0, 1) := by decide +kernel
theorem dX0_arrange_1 : decode cX0_arrange 1 = .ok (.iconst 0, 1) := by decide +kernel
theorem dX0_arrange_2 : decode cX0_arrange 2 = .ok (.putfield 18, 3) := by decide +kernel
theorem dX0_arrange_5 : decode cX0_arrange 5 = .ok (.iconst 0, 1) := by decide +kernel
theorem dX0_arrange_6 : decode cX0_arrange 6 = .ok (.istore_n 2, 1) := by decide +kernel
theorem dX0_arrange_7 : decode cX0_arrange 7 = .ok (.iload_n 2, 1) := by decide +kernel
theorem dX0_arrange_8 : decode cX0_arrange 8 = .ok (.iconst 4, 1) := by decide +kernel
theorem dX0_arrange_9 : decode cX0_arrange 9 = .ok (.if_icmp .ge 16, 3) := by decide +kernel
theorem dX0_arrange_12 : decode cX0_arrange 12 = .ok (.aload_n 0, 1) := by decide +kernel
theorem dX0_arrange_13 : decode cX0_arrange 13 = .ok (.getfield 15, 3) := by decide +kernel
theorem dX0_arrange_16 : decode cX0_arrange 16 = .ok (.iload_n 2, 1) := by decide +kernel
theorem dX0_arrange_17 : decode cX0_arrange 17 = .ok (.iconst 0, 1) := by decide +kernel
theorem dX0_arrange_18 : decode cX0_arrange 18 = .ok (.iastore, 1) := by decide +kernel
theorem dX0_arrange_19 : decode cX0_arrange 19 = .ok (.iinc 2 1, 3) := by decide +kernel
theorem dX0_arrange_22 : decode cX0_arrange 22 = .ok (.goto (-15), 3) := by decide +kernel
theorem dX0_arrange_25 : decode cX0_arrange 25 = .ok (.iconst 0, 1) := by decide +kernel
theorem dX0_arrange_26 : decode cX0_arrange 26 = .ok (.istore_n 2, 1) := by decide +kernel
theorem dX0_arrange_27 : decode cX0_arrange 27 = .ok (.iload_n 2, 1) := by decide +kernel
theorem dX0_arrange_28 : decode cX0_arrange 28 = .ok (.aload_n 1, 1) := by decide +kernel
theorem dX0_arrange_29 : decode cX0_arrange 29 = .ok (.getfield 22, 3) := by decide +kernel
theorem dX0_arrange_32 : decode cX0_arrange 32 = .ok (.if_icmp .ge 79, 3) := by decide +kernel
theorem dX0_arrange_35 : decode cX0_arrange 35 = .ok (.iload_n 2, 1) := by decide +kernel
theorem dX0_arrange_36 : decode cX0_arrange 36 = .ok (.bipush 8, 2) := by decide +kernel
theorem dX0_arrange_38 : decode cX0_arrange 38 = .ok (.if_icmp .ge 73, 3) := by decide +kernel
theorem dX0_arrange_41 : decode cX0_arrange 41 = .ok (.aload_n 1, 1) := by decide +kernel
theorem dX0_arrange_42 : decode cX0_arrange 42 = .ok (.iload_n 2, 1) := by decide +kernel
theorem dX0_arrange_43 : decode cX0_arrange 43 = .ok (.invokevirtual 27, 3) := by decide +kernel
theorem dX0_arrange_46 : decode cX0_arrange 46 = .ok (.astore_n 3, 1) := by decide +kernel
theorem dX0_arrange_47 : decode cX0_arrange 47 = .ok (.aload_n 3, 1) := by decide +kernel
theorem dX0_arrange_48 : decode cX0_arrange 48 = .ok (.invokevirtual 31, 3) := by decide +kernel
theorem dX0_arrange_51 : decode cX0_arrange 51 = .ok (.ifCond .eq 8, 3) := by decide +kernel
theorem dX0_arrange_54 : decode cX0_arrange 54 = .ok (.bipush (-9), 2) := by decide +kernel
theorem dX0_arrange_56 : decode cX0_arrange 56 = .ok (.goto 19, 3) := by decide +kernel
theorem dX0_arrange_59 : decode cX0_arrange 59 = .ok (.aload_n 3, 1) := by decide +kernel
theorem dX0_arrange_60 : decode cX0_arrange 60 = .ok (.aload_n 3, 1) := by decide +kernel
theorem dX0_arrange_61 : decode cX0_arrange 61 = .ok (.aload_n 1, 1) := by decide +kernel
theorem dX0_arrange_62 : decode cX0_arrange 62 = .ok (.getfield 37, 3) := by decide +kernel
theorem dX0_arrange_65 : decode cX0_arrange 65 = .ok (.invokevirtual 40, 3) := by decide +kernel
theorem dX0_arrange_68 : decode cX0_arrange 68 = .ok (.aload_n 1, 1) := by decide +kernel
theorem dX0_arrange_69 : decode cX0_arrange 69 = .ok (.getfield 37, 3) := by decide +kernel
theorem dX0_arrange_72 : decode cX0_arrange 72 = .ok (.invokevirtual 44, 3) := by decide +kernel
theorem dX0_arrange_75 : decode cX0_arrange 75 = .ok (.istore 4, 2) := by decide +kernel
theorem dX0_arrange_77 : decode cX0_arrange 77 = .ok (.aload_n 0, 1) := by decide +kernel
theorem dX0_arrange_78 : decode cX0_arrange 78 = .ok (.getfield 9, 3) := by decide +kernel
theorem dX0_arrange_81 : decode cX0_arrange 81 = .ok (.iload_n 2, 1) := by decide +kernel
theorem dX0_arrange_82 : decode cX0_arrange 82 = .ok (.iload 4, 2) := by decide +kernel
theorem dX0_arrange_84 : decode cX0_arrange 84 = .ok (.bipush (-9), 2) := by decide +kernel
theorem dX0_arrange_86 : decode cX0_arrange 86 = .ok (.if_icmp .ne 8, 3) := by decide +kernel
theorem dX0_arrange_89 : decode cX0_arrange 89 = .ok (.bipush (-9), 2) := by decide +kernel
theorem dX0_arrange_91 : decode cX0_arrange 91 = .ok (.goto 13, 3) := by decide +kernel
theorem dX0_arrange_94 : decode cX0_arrange 94 = .ok (.aload_n 0, 1) := by decide +kernel
theorem dX0_arrange_95 : decode cX0_arrange 95 = .ok (.iload 4, 2) := by decide +kernel
theorem dX0_arrange_97 : decode cX0_arrange 97 = .ok (.aload_n 1, 1) := by decide +kernel
theorem dX0_arrange_98 : decode cX0_arrange 98 = .ok (.getfield 48, 3) := by decide +kernel
theorem dX0_arrange_101 : decode cX0_arrange 101 = .ok (.invokevirtual 51, 3) := by decide +kernel
theorem dX0_arrange_104 : decode cX0_arrange 104 = .ok (.iastore, 1) := by decide +kernel
theorem dX0_arrange_105 : decode cX0_arrange 105 = .ok (.iinc 2 1, 3) := by decide +kernel
theorem dX0_arrange_108 : decode cX0_arrange 108 = .ok (.goto (-81), 3) := by decide +kernel
theorem dX0_arrange_111 : decode cX0_arrange 111 = .ok (.return_, 1) := by decide +kernel
theorem dX0_beginOf_0 : decode cX0_beginOf 0 = .ok (.iload_n 1, 1) := by decide +kernel
theorem dX0_beginOf_1 : decode cX0_beginOf 1 = .ok (.ifCond .lt 9, 3) := by decide +kernel
theorem dX0_beginOf_4 : decode cX0_beginOf 4 = .ok (.iload_n 1, 1) := by decide +kernel
theorem dX0_beginOf_5 : decode cX0_beginOf 5 = .ok (.bipush 8, 2) := by decide +kernel
theorem dX0_beginOf_7 : decode cX0_beginOf 7 = .ok (.if_icmp .lt 8, 3) := by decide +kernel
theorem dX0_beginOf_10 : decode cX0_beginOf 10 = .ok (.bipush (-9), 2) := by decide +kernel
theorem dX0_beginOf_12 : decode cX0_beginOf 12 = .ok (.goto 9, 3) := by decide +kernel
theorem dX0_beginOf_15 : decode cX0_beginOf 15 = .ok (.aload_n 0, 1) := by decide +kernel
theorem dX0_beginOf_16 : decode cX0_beginOf 16 = .ok (.getfield 9, 3) := by decide +kernel
theorem dX0_beginOf_19 : decode cX0_beginOf 19 = .ok (.iload_n 1, 1) := by decide +kernel
theorem dX0_beginOf_20 : decode cX0_beginOf 20 = .ok (.iaload, 1) := by decide +kernel
theorem dX0_beginOf_21 : decode cX0_beginOf 21 = .ok (.ireturn, 1) := by decide +kernel
theorem dX3_setBits_0 : decode cX3_setBits 0 = .ok (.iconst 0, 1) := by decide +kernel
theorem dX3_setBits_1 : decode cX3_setBits 1 = .ok (.istore_n 1, 1) := by decide +kernel
theorem dX3_setBits_2 : decode cX3_setBits 2 = .ok (.iconst 0, 1) := by decide +kernel
theorem dX3_setBits_3 : decode cX3_setBits 3 = .ok (.istore_n 2, 1) := by decide +kernel
theorem dX3_setBits_4 : decode cX3_setBits 4 = .ok (.iload_n 2, 1) := by decide +kernel
theorem dX3_setBits_5 : decode cX3_setBits 5 = .ok (.aload_n 0, 1) := by decide +kernel
theorem dX3_setBits_6 : decode cX3_setBits 6 = .ok (.getfield 29, 3) := by decide +kernel
theorem dX3_setBits_9 : decode cX3_setBits 9 = .ok (.if_icmp .ge 26, 3) := by decide +kernel
theorem dX3_setBits_12 : decode cX3_setBits 12 = .ok (.aload_n 0, 1) := by decide +kernel
theorem dX3_setBits_13 : decode cX3_setBits 13 = .ok (.iload_n 2, 1) := by decide +kernel
theorem dX3_setBits_14 : decode cX3_setBits 14 = .ok (.invokevirtual 43, 3) := by decide +kernel
theorem dX3_setBits_17 : decode cX3_setBits 17 = .ok (.invokevirtual 61, 3) := by decide +kernel
theorem dX3_setBits_20 : decode cX3_setBits 20 = .ok (.ifCond .eq 9, 3) := by decide +kernel
theorem dX3_setBits_23 : decode cX3_setBits 23 = .ok (.iload_n 1, 1) := by decide +kernel
theorem dX3_setBits_24 : decode cX3_setBits 24 = .ok (.iconst 1, 1) := by decide +kernel
theorem dX3_setBits_25 : decode cX3_setBits 25 = .ok (.iload_n 2, 1) := by decide +kernel
theorem dX3_setBits_26 : decode cX3_setBits 26 = .ok (.ishl, 1) := by decide +kernel
theorem dX3_setBits_27 : decode cX3_setBits 27 = .ok (.ior, 1) := by decide +kernel
theorem dX3_setBits_28 : decode cX3_setBits 28 = .ok (.istore_n 1, 1) := by decide +kernel
theorem dX3_setBits_29 : decode cX3_setBits 29 = .ok (.iinc 2 1, 3) := by decide +kernel
theorem dX3_setBits_32 : decode cX3_setBits 32 = .ok (.goto (-28), 3) := by decide +kernel
theorem dX3_setBits_35 : decode cX3_setBits 35 = .ok (.iload_n 1, 1) := by decide +kernel
theorem dX3_setBits_36 : decode cX3_setBits 36 = .ok (.ireturn, 1) := by decide +kernel
theorem dX6_howGlad_0 : decode cX6_howGlad 0 = .ok (.aload_n 0, 1) := by decide +kernel
theorem dX6_howGlad_1 : decode cX6_howGlad 1 = .ok (.aload_n 0, 1) := by decide +kernel
theorem dX6_howGlad_2 : decode cX6_howGlad 2 = .ok (.invokevirtual 31, 3) := by decide +kernel
theorem dX6_howGlad_5 : decode cX6_howGlad 5 = .ok (.ifCond .eq 10, 3) := by decide +kernel
theorem dX6_howGlad_8 : decode cX6_howGlad 8 = .ok (.aload_n 0, 1) := by decide +kernel
theorem dX6_howGlad_9 : decode cX6_howGlad 9 = .ok (.getfield 9, 3) := by decide +kernel
theorem dX6_howGlad_12 : decode cX6_howGlad 12 = .ok (.goto 4, 3) := by decide +kernel
theorem dX6_howGlad_15 : decode cX6_howGlad 15 = .ok (.iload_n 1, 1) := by decide +kernel
theorem dX6_howGlad_16 : decode cX6_howGlad 16 = .ok (.invokevirtual 35, 3) := by decide +kernel
theorem dX6_howGlad_19 : decode cX6_howGlad 19 = .ok (.ireturn, 1) := by decide +kernel
theorem dX3_gladTogether_0 : decode cX3_gladTogether 0 = .ok (.iconst 0, 1) := by decide +kernel
theorem dX3_gladTogether_1 : decode cX3_gladTogether 1 = .ok (.istore_n 2, 1) := by decide +kernel
theorem dX3_gladTogether_2 : decode cX3_gladTogether 2 = .ok (.iconst 0, 1) := by decide +kernel
theorem dX3_gladTogether_3 : decode cX3_gladTogether 3 = .ok (.istore_n 3, 1) := by decide +kernel
theorem dX3_gladTogether_4 : decode cX3_gladTogether 4 = .ok (.iload_n 3, 1) := by decide +kernel
theorem dX3_gladTogether_5 : decode cX3_gladTogether 5 = .ok (.aload_n 0, 1) := by decide +kernel
theorem dX3_gladTogether_6 : decode cX3_gladTogether 6 = .ok (.getfield 29, 3) := by decide +kernel
theorem dX3_gladTogether_9 : decode cX3_gladTogether 9 = .ok (.if_icmp .ge 21, 3) := by decide +kernel
theorem dX3_gladTogether_12 : decode cX3_gladTogether 12 = .ok (.iload_n 2, 1) := by decide +kernel
theorem dX3_gladTogether_13 : decode cX3_gladTogether 13 = .ok (.aload_n 0, 1) := by decide +kernel
theorem dX3_gladTogether_14 : decode cX3_gladTogether 14 = .ok (.iload_n 3, 1) := by decide +kernel
theorem dX3_gladTogether_15 : decode cX3_gladTogether 15 = .ok (.invokevirtual 43, 3) := by decide +kernel
theorem dX3_gladTogether_18 : decode cX3_gladTogether 18 = .ok (.iload_n 1, 1) := by decide +kernel
theorem dX3_gladTogether_19 : decode cX3_gladTogether 19 = .ok (.invokevirtual 76, 3) := by decide +kernel
theorem dX3_gladTogether_22 : decode cX3_gladTogether 22 = .ok (.iadd, 1) := by decide +kernel
theorem dX3_gladTogether_23 : decode cX3_gladTogether 23 = .ok (.istore_n 2, 1) := by decide +kernel
theorem dX3_gladTogether_24 : decode cX3_gladTogether 24 = .ok (.iinc 3 1, 3) := by decide +kernel
theorem dX3_gladTogether_27 : decode cX3_gladTogether 27 = .ok (.goto (-23), 3) := by decide +kernel
theorem dX3_gladTogether_30 : decode cX3_gladTogether 30 = .ok (.iload_n 2, 1) := by decide +kernel
theorem dX3_gladTogether_31 : decode cX3_gladTogether 31 = .ok (.ireturn, 1) := by decide +kernel
theorem dX6_gladdestBy_0 : decode cX6_gladdestBy 0 = .ok (.iconst 0, 1) := by decide +kernel
theorem dX6_gladdestBy_1 : decode cX6_gladdestBy 1 = .ok (.istore_n 2, 1) := by decide +kernel
theorem dX6_gladdestBy_2 : decode cX6_gladdestBy 2 = .ok (.iconst 0, 1) := by decide +kernel
theorem dX6_gladdestBy_3 : decode cX6_gladdestBy 3 = .ok (.istore_n 3, 1) := by decide +kernel
theorem dX6_gladdestBy_4 : decode cX6_gladdestBy 4 = .ok (.iload_n 3, 1) := by decide +kernel
theorem dX6_gladdestBy_5 : decode cX6_gladdestBy 5 = .ok (.bipush 19, 2) := by decide +kernel
theorem dX6_gladdestBy_7 : decode cX6_gladdestBy 7 = .ok (.if_icmp .gt 27, 3) := by decide +kernel
theorem dX6_gladdestBy_10 : decode cX6_gladdestBy 10 = .ok (.iload_n 2, 1) := by decide +kernel
theorem dX6_gladdestBy_11 : decode cX6_gladdestBy 11 = .ok (.aload_n 0, 1) := by decide +kernel
theorem dX6_gladdestBy_12 : decode cX6_gladdestBy 12 = .ok (.aload_n 0, 1) := by decide +kernel
theorem dX6_gladdestBy_13 : decode cX6_gladdestBy 13 = .ok (.iload_n 3, 1) := by decide +kernel
theorem dX6_gladdestBy_14 : decode cX6_gladdestBy 14 = .ok (.iconst 5, 1) := by decide +kernel
theorem dX6_gladdestBy_15 : decode cX6_gladdestBy 15 = .ok (.imul, 1) := by decide +kernel
theorem dX6_gladdestBy_16 : decode cX6_gladdestBy 16 = .ok (.iconst 0, 1) := by decide +kernel
theorem dX6_gladdestBy_17 : decode cX6_gladdestBy 17 = .ok (.iload_n 1, 1) := by decide +kernel
theorem dX6_gladdestBy_18 : decode cX6_gladdestBy 18 = .ok (.invokevirtual 54, 3) := by decide +kernel
theorem dX6_gladdestBy_21 : decode cX6_gladdestBy 21 = .ok (.invokevirtual 35, 3) := by decide +kernel
theorem dX6_gladdestBy_24 : decode cX6_gladdestBy 24 = .ok (.invokestatic 42, 3) := by decide +kernel
theorem dX6_gladdestBy_27 : decode cX6_gladdestBy 27 = .ok (.istore_n 2, 1) := by decide +kernel
theorem dX6_gladdestBy_28 : decode cX6_gladdestBy 28 = .ok (.iinc 3 1, 3) := by decide +kernel
theorem dX6_gladdestBy_31 : decode cX6_gladdestBy 31 = .ok (.goto (-27), 3) := by decide +kernel
theorem dX6_gladdestBy_34 : decode cX6_gladdestBy 34 = .ok (.iload_n 2, 1) := by decide +kernel
theorem dX6_gladdestBy_35 : decode cX6_gladdestBy 35 = .ok (.ireturn, 1) := by decide +kernel
theorem dX6_cost_0 : decode cX6_cost 0 = .ok (.aload_n 0, 1) := by decide +kernel
theorem dX6_cost_1 : decode cX6_cost 1 = .ok (.getfield 19, 3) := by decide +kernel
theorem dX6_cost_4 : decode cX6_cost 4 = .ok (.iconst 4, 1) := by decide +kernel
theorem dX6_cost_5 : decode cX6_cost 5 = .ok (.if_icmp .ne 12, 3) := by decide +kernel
theorem dX6_cost_8 : decode cX6_cost 8 = .ok (.iconst 1, 1) := by decide +kernel
theorem dX6_cost_9 : decode cX6_cost 9 = .ok (.aload_n 0, 1) := by decide +kernel
theorem dX6_cost_10 : decode cX6_cost 10 = .ok (.getfield 22, 3) := by decide +kernel
theorem dX6_cost_13 : decode cX6_cost 13 = .ok (.iadd, 1) := by decide +kernel
theorem dX6_cost_14 : decode cX6_cost 14 = .ok (.goto 4, 3) := by decide +kernel
theorem dX6_cost_17 : decode cX6_cost 17 = .ok (.iconst 1, 1) := by decide +kernel
theorem dX6_cost_18 : decode cX6_cost 18 = .ok (.ireturn, 1) := by decide +kernel
theorem dX1_weigh_0 : decode cX1_weigh 0 = .ok (.aload_n 0, 1) := by decide +kernel
theorem dX1_weigh_1 : decode cX1_weigh 1 = .ok (.aload_n 1, 1) := by decide +kernel
theorem dX1_weigh_2 : decode cX1_weigh 2 = .ok (.invokevirtual 18, 3) := by decide +kernel
theorem dX1_weigh_5 : decode cX1_weigh 5 = .ok (.putfield 24, 3) := by decide +kernel
theorem dX1_weigh_8 : decode cX1_weigh 8 = .ok (.aload_n 0, 1) := by decide +kernel
theorem dX1_weigh_9 : decode cX1_weigh 9 = .ok (.iconst 1, 1) := by decide +kernel
theorem dX1_weigh_10 : decode cX1_weigh 10 = .ok (.aload_n 1, 1) := by decide +kernel
theorem dX1_weigh_11 : decode cX1_weigh 11 = .ok (.getfield 28, 3) := by decide +kernel
theorem dX1_weigh_14 : decode cX1_weigh 14 = .ok (.ishl, 1) := by decide +kernel
theorem dX1_weigh_15 : decode cX1_weigh 15 = .ok (.putfield 31, 3) := by decide +kernel
theorem dX1_weigh_18 : decode cX1_weigh 18 = .ok (.aload_n 0, 1) := by decide +kernel
theorem dX1_weigh_19 : decode cX1_weigh 19 = .ok (.aload_n 1, 1) := by decide +kernel
theorem dX1_weigh_20 : decode cX1_weigh 20 = .ok (.iload_n 2, 1) := by decide +kernel
theorem dX1_weigh_21 : decode cX1_weigh 21 = .ok (.invokevirtual 34, 3) := by decide +kernel
theorem dX1_weigh_24 : decode cX1_weigh 24 = .ok (.putfield 38, 3) := by decide +kernel
theorem dX1_weigh_27 : decode cX1_weigh 27 = .ok (.iconst 0, 1) := by decide +kernel
theorem dX1_weigh_28 : decode cX1_weigh 28 = .ok (.istore_n 3, 1) := by decide +kernel
theorem dX1_weigh_29 : decode cX1_weigh 29 = .ok (.iload_n 3, 1) := by decide +kernel
theorem dX1_weigh_30 : decode cX1_weigh 30 = .ok (.aload_n 1, 1) := by decide +kernel
theorem dX1_weigh_31 : decode cX1_weigh 31 = .ok (.getfield 28, 3) := by decide +kernel
theorem dX1_weigh_34 : decode cX1_weigh 34 = .ok (.if_icmp .ge 52, 3) := by decide +kernel
theorem dX1_weigh_37 : decode cX1_weigh 37 = .ok (.iload_n 3, 1) := by decide +kernel
theorem dX1_weigh_38 : decode cX1_weigh 38 = .ok (.bipush 8, 2) := by decide +kernel
theorem dX1_weigh_40 : decode cX1_weigh 40 = .ok (.if_icmp .ge 46, 3) := by decide +kernel
theorem dX1_weigh_43 : decode cX1_weigh 43 = .ok (.aload_n 1, 1) := by decide +kernel
theorem dX1_weigh_44 : decode cX1_weigh 44 = .ok (.iload_n 3, 1) := by decide +kernel
theorem dX1_weigh_45 : decode cX1_weigh 45 = .ok (.invokevirtual 41, 3) := by decide +kernel
theorem dX1_weigh_48 : decode cX1_weigh 48 = .ok (.astore 4, 2) := by decide +kernel
theorem dX1_weigh_50 : decode cX1_weigh 50 = .ok (.aload_n 0, 1) := by decide +kernel
theorem dX1_weigh_51 : decode cX1_weigh 51 = .ok (.getfield 9, 3) := by decide +kernel
theorem dX1_weigh_54 : decode cX1_weigh 54 = .ok (.iload_n 3, 1) := by decide +kernel
theorem dX1_weigh_55 : decode cX1_weigh 55 = .ok (.aload 4, 2) := by decide +kernel
theorem dX1_weigh_57 : decode cX1_weigh 57 = .ok (.iload_n 2, 1) := by decide +kernel
theorem dX1_weigh_58 : decode cX1_weigh 58 = .ok (.invokevirtual 45, 3) := by decide +kernel
theorem dX1_weigh_61 : decode cX1_weigh 61 = .ok (.aload 4, 2) := by decide +kernel
theorem dX1_weigh_63 : decode cX1_weigh 63 = .ok (.iload_n 2, 1) := by decide +kernel
theorem dX1_weigh_64 : decode cX1_weigh 64 = .ok (.invokevirtual 50, 3) := by decide +kernel
theorem dX1_weigh_67 : decode cX1_weigh 67 = .ok (.isub, 1) := by decide +kernel
theorem dX1_weigh_68 : decode cX1_weigh 68 = .ok (.iastore, 1) := by decide +kernel
theorem dX1_weigh_69 : decode cX1_weigh 69 = .ok (.aload_n 0, 1) := by decide +kernel
theorem dX1_weigh_70 : decode cX1_weigh 70 = .ok (.getfield 15, 3) := by decide +kernel
theorem dX1_weigh_73 : decode cX1_weigh 73 = .ok (.iload_n 3, 1) := by decide +kernel
theorem dX1_weigh_74 : decode cX1_weigh 74 = .ok (.aload 4, 2) := by decide +kernel
theorem dX1_weigh_76 : decode cX1_weigh 76 = .ok (.invokevirtual 53, 3) := by decide +kernel
theorem dX1_weigh_79 : decode cX1_weigh 79 = .ok (.iastore, 1) := by decide +kernel
theorem dX1_weigh_80 : decode cX1_weigh 80 = .ok (.iinc 3 1, 3) := by decide +kernel
theorem dX1_weigh_83 : decode cX1_weigh 83 = .ok (.goto (-54), 3) := by decide +kernel
theorem dX1_weigh_86 : decode cX1_weigh 86 = .ok (.return_, 1) := by decide +kernel
theorem dX1_sumOver_0 : decode cX1_sumOver 0 = .ok (.iconst 0, 1) := by decide +kernel
theorem dX1_sumOver_1 : decode cX1_sumOver 1 = .ok (.istore_n 2, 1) := by decide +kernel
theorem dX1_sumOver_2 : decode cX1_sumOver 2 = .ok (.iconst 0, 1) := by decide +kernel
theorem dX1_sumOver_3 : decode cX1_sumOver 3 = .ok (.istore_n 3, 1) := by decide +kernel
theorem dX1_sumOver_4 : decode cX1_sumOver 4 = .ok (.iload_n 3, 1) := by decide +kernel
theorem dX1_sumOver_5 : decode cX1_sumOver 5 = .ok (.aload_n 1, 1) := by decide +kernel
theorem dX1_sumOver_6 : decode cX1_sumOver 6 = .ok (.arraylength, 1) := by decide +kernel
theorem dX1_sumOver_7 : decode cX1_sumOver 7 = .ok (.if_icmp .ge 28, 3) := by decide +kernel
theorem dX1_sumOver_10 : decode cX1_sumOver 10 = .ok (.iload_n 2, 1) := by decide +kernel
theorem dX1_sumOver_11 : decode cX1_sumOver 11 = .ok (.iload_n 0, 1) := by decide +kernel
theorem dX1_sumOver_12 : decode cX1_sumOver 12 = .ok (.iload_n 3, 1) := by decide +kernel
theorem dX1_sumOver_13 : decode cX1_sumOver 13 = .ok (.ishr, 1) := by decide +kernel
theorem dX1_sumOver_14 : decode cX1_sumOver 14 = .ok (.iconst 1, 1) := by decide +kernel
theorem dX1_sumOver_15 : decode cX1_sumOver 15 = .ok (.iand, 1) := by decide +kernel
theorem dX1_sumOver_16 : decode cX1_sumOver 16 = .ok (.iconst 1, 1) := by decide +kernel
theorem dX1_sumOver_17 : decode cX1_sumOver 17 = .ok (.if_icmp .ne 9, 3) := by decide +kernel
theorem dX1_sumOver_20 : decode cX1_sumOver 20 = .ok (.aload_n 1, 1) := by decide +kernel
theorem dX1_sumOver_21 : decode cX1_sumOver 21 = .ok (.iload_n 3, 1) := by decide +kernel
theorem dX1_sumOver_22 : decode cX1_sumOver 22 = .ok (.iaload, 1) := by decide +kernel
theorem dX1_sumOver_23 : decode cX1_sumOver 23 = .ok (.goto 4, 3) := by decide +kernel
theorem dX1_sumOver_26 : decode cX1_sumOver 26 = .ok (.iconst 0, 1) := by decide +kernel
theorem dX1_sumOver_27 : decode cX1_sumOver 27 = .ok (.iadd, 1) := by decide +kernel
theorem dX1_sumOver_28 : decode cX1_sumOver 28 = .ok (.istore_n 2, 1) := by decide +kernel
theorem dX1_sumOver_29 : decode cX1_sumOver 29 = .ok (.iinc 3 1, 3) := by decide +kernel
theorem dX1_sumOver_32 : decode cX1_sumOver 32 = .ok (.goto (-28), 3) := by decide +kernel
theorem dX1_sumOver_35 : decode cX1_sumOver 35 = .ok (.iload_n 2, 1) := by decide +kernel
theorem dX1_sumOver_36 : decode cX1_sumOver 36 = .ok (.ireturn, 1) := by decide +kernel
theorem dX1_gainOf_0 : decode cX1_gainOf 0 = .ok (.iload_n 1, 1) := by decide +kernel
theorem dX1_gainOf_1 : decode cX1_gainOf 1 = .ok (.aload_n 0, 1) := by decide +kernel
theorem dX1_gainOf_2 : decode cX1_gainOf 2 = .ok (.getfield 9, 3) := by decide +kernel
theorem dX1_gainOf_5 : decode cX1_gainOf 5 = .ok (.invokestatic 56, 3) := by decide +kernel
theorem dX1_gainOf_8 : decode cX1_gainOf 8 = .ok (.ireturn, 1) := by decide +kernel
theorem dX1_bestBits_0 : decode cX1_bestBits 0 = .ok (.iconst 0, 1) := by decide +kernel
theorem dX1_bestBits_1 : decode cX1_bestBits 1 = .ok (.istore_n 2, 1) := by decide +kernel
theorem dX1_bestBits_2 : decode cX1_bestBits 2 = .ok (.iconst 0, 1) := by decide +kernel
theorem dX1_bestBits_3 : decode cX1_bestBits 3 = .ok (.istore_n 3, 1) := by decide +kernel
theorem dX1_bestBits_4 : decode cX1_bestBits 4 = .ok (.iconst 0, 1) := by decide +kernel
theorem dX1_bestBits_5 : decode cX1_bestBits 5 = .ok (.istore 4, 2) := by decide +kernel
theorem dX1_bestBits_7 : decode cX1_bestBits 7 = .ok (.iload 4, 2) := by decide +kernel
theorem dX1_bestBits_9 : decode cX1_bestBits 9 = .ok (.aload_n 0, 1) := by decide +kernel
theorem dX1_bestBits_10 : decode cX1_bestBits 10 = .ok (.getfield 31, 3) := by decide +kernel
theorem dX1_bestBits_13 : decode cX1_bestBits 13 = .ok (.if_icmp .ge 52, 3) := by decide +kernel
theorem dX1_bestBits_16 : decode cX1_bestBits 16 = .ok (.iload 4, 2) := by decide +kernel
theorem dX1_bestBits_18 : decode cX1_bestBits 18 = .ok (.aload_n 0, 1) := by decide +kernel
theorem dX1_bestBits_19 : decode cX1_bestBits 19 = .ok (.getfield 24, 3) := by decide +kernel
theorem dX1_bestBits_22 : decode cX1_bestBits 22 = .ok (.iand, 1) := by decide +kernel
theorem dX1_bestBits_23 : decode cX1_bestBits 23 = .ok (.ifCond .ne 36, 3) := by decide +kernel
theorem dX1_bestBits_26 : decode cX1_bestBits 26 = .ok (.aload_n 0, 1) := by decide +kernel
theorem dX1_bestBits_27 : decode cX1_bestBits 27 = .ok (.iload 4, 2) := by decide +kernel
theorem dX1_bestBits_29 : decode cX1_bestBits 29 = .ok (.invokevirtual 60, 3) := by decide +kernel
theorem dX1_bestBits_32 : decode cX1_bestBits 32 = .ok (.iload_n 3, 1) := by decide +kernel
theorem dX1_bestBits_33 : decode cX1_bestBits 33 = .ok (.if_icmp .le 26, 3) := by decide +kernel
theorem dX1_bestBits_36 : decode cX1_bestBits 36 = .ok (.iload 4, 2) := by decide +kernel
theorem dX1_bestBits_38 : decode cX1_bestBits 38 = .ok (.aload_n 0, 1) := by decide +kernel
theorem dX1_bestBits_39 : decode cX1_bestBits 39 = .ok (.getfield 15, 3) := by decide +kernel
theorem dX1_bestBits_42 : decode cX1_bestBits 42 = .ok (.invokestatic 56, 3) := by decide +kernel
theorem dX1_bestBits_45 : decode cX1_bestBits 45 = .ok (.iload_n 1, 1) := by decide +kernel
theorem dX1_bestBits_46 : decode cX1_bestBits 46 = .ok (.if_icmp .gt 13, 3) := by decide +kernel
theorem dX1_bestBits_49 : decode cX1_bestBits 49 = .ok (.iload 4, 2) := by decide +kernel
theorem dX1_bestBits_51 : decode cX1_bestBits 51 = .ok (.istore_n 2, 1) := by decide +kernel
theorem dX1_bestBits_52 : decode cX1_bestBits 52 = .ok (.aload_n 0, 1) := by decide +kernel
theorem dX1_bestBits_53 : decode cX1_bestBits 53 = .ok (.iload 4, 2) := by decide +kernel
theorem dX1_bestBits_55 : decode cX1_bestBits 55 = .ok (.invokevirtual 60, 3) := by decide +kernel
theorem dX1_bestBits_58 : decode cX1_bestBits 58 = .ok (.istore_n 3, 1) := by decide +kernel
theorem dX1_bestBits_59 : decode cX1_bestBits 59 = .ok (.iinc 4 1, 3) := by decide +kernel
theorem dX1_bestBits_62 : decode cX1_bestBits 62 = .ok (.goto (-55), 3) := by decide +kernel
theorem dX1_bestBits_65 : decode cX1_bestBits 65 = .ok (.iload_n 2, 1) := by decide +kernel
theorem dX1_bestBits_66 : decode cX1_bestBits 66 = .ok (.ireturn, 1) := by decide +kernel
theorem dX1_fewestFor_0 : decode cX1_fewestFor 0 = .ok (.bipush 99, 2) := by decide +kernel
theorem dX1_fewestFor_2 : decode cX1_fewestFor 2 = .ok (.istore_n 2, 1) := by decide +kernel
theorem dX1_fewestFor_3 : decode cX1_fewestFor 3 = .ok (.iconst 0, 1) := by decide +kernel
theorem dX1_fewestFor_4 : decode cX1_fewestFor 4 = .ok (.istore_n 3, 1) := by decide +kernel
theorem dX1_fewestFor_5 : decode cX1_fewestFor 5 = .ok (.iload_n 3, 1) := by decide +kernel
theorem dX1_fewestFor_6 : decode cX1_fewestFor 6 = .ok (.aload_n 0, 1) := by decide +kernel
theorem dX1_fewestFor_7 : decode cX1_fewestFor 7 = .ok (.getfield 31, 3) := by decide +kernel
theorem dX1_fewestFor_10 : decode cX1_fewestFor 10 = .ok (.if_icmp .ge 40, 3) := by decide +kernel
theorem dX1_fewestFor_13 : decode cX1_fewestFor 13 = .ok (.iload_n 3, 1) := by decide +kernel
theorem dX1_fewestFor_14 : decode cX1_fewestFor 14 = .ok (.aload_n 0, 1) := by decide +kernel
theorem dX1_fewestFor_15 : decode cX1_fewestFor 15 = .ok (.getfield 24, 3) := by decide +kernel
theorem dX1_fewestFor_18 : decode cX1_fewestFor 18 = .ok (.iand, 1) := by decide +kernel
theorem dX1_fewestFor_19 : decode cX1_fewestFor 19 = .ok (.ifCond .ne 25, 3) := by decide +kernel
theorem dX1_fewestFor_22 : decode cX1_fewestFor 22 = .ok (.aload_n 0, 1) := by decide +kernel
theorem dX1_fewestFor_23 : decode cX1_fewestFor 23 = .ok (.iload_n 3, 1) := by decide +kernel
theorem dX1_fewestFor_24 : decode cX1_fewestFor 24 = .ok (.invokevirtual 60, 3) := by decide +kernel
theorem dX1_fewestFor_27 : decode cX1_fewestFor 27 = .ok (.iload_n 1, 1) := by decide +kernel
theorem dX1_fewestFor_28 : decode cX1_fewestFor 28 = .ok (.if_icmp .ne 16, 3) := by decide +kernel
theorem dX1_fewestFor_31 : decode cX1_fewestFor 31 = .ok (.iload_n 2, 1) := by decide +kernel
theorem dX1_fewestFor_32 : decode cX1_fewestFor 32 = .ok (.iload_n 3, 1) := by decide +kernel
theorem dX1_fewestFor_33 : decode cX1_fewestFor 33 = .ok (.aload_n 0, 1) := by decide +kernel
theorem dX1_fewestFor_34 : decode cX1_fewestFor 34 = .ok (.getfield 15, 3) := by decide +kernel
theorem dX1_fewestFor_37 : decode cX1_fewestFor 37 = .ok (.invokestatic 56, 3) := by decide +kernel
theorem dX1_fewestFor_40 : decode cX1_fewestFor 40 = .ok (.invokestatic 63, 3) := by decide +kernel
theorem dX1_fewestFor_43 : decode cX1_fewestFor 43 = .ok (.istore_n 2, 1) := by decide +kernel
theorem dX1_fewestFor_44 : decode cX1_fewestFor 44 = .ok (.iinc 3 1, 3) := by decide +kernel
theorem dX1_fewestFor_47 : decode cX1_fewestFor 47 = .ok (.goto (-42), 3) := by decide +kernel
theorem dX1_fewestFor_50 : decode cX1_fewestFor 50 = .ok (.iload_n 2, 1) := by decide +kernel
theorem dX1_fewestFor_51 : decode cX1_fewestFor 51 = .ok (.ireturn, 1) := by decide +kernel
theorem dX2_isFull_0 : decode cX2_isFull 0 = .ok (.aload_n 0, 1) := by decide +kernel
theorem dX2_isFull_1 : decode cX2_isFull 1 = .ok (.getfield 15, 3) := by decide +kernel
theorem dX2_isFull_4 : decode cX2_isFull 4 = .ok (.bipush 16, 2) := by decide +kernel
theorem dX2_isFull_6 : decode cX2_isFull 6 = .ok (.if_icmp .lt 7, 3) := by decide +kernel
theorem dX2_isFull_9 : decode cX2_isFull 9 = .ok (.iconst 1, 1) := by decide +kernel
theorem dX2_isFull_10 : decode cX2_isFull 10 = .ok (.goto 4, 3) := by decide +kernel
theorem dX2_isFull_13 : decode cX2_isFull 13 = .ok (.iconst 0, 1) := by decide +kernel
theorem dX2_isFull_14 : decode cX2_isFull 14 = .ok (.ireturn, 1) := by decide +kernel
theorem dX2_put_0 : decode cX2_put 0 = .ok (.aload_n 0, 1) := by decide +kernel
theorem dX2_put_1 : decode cX2_put 1 = .ok (.invokevirtual 19, 3) := by decide +kernel
theorem dX2_put_4 : decode cX2_put 4 = .ok (.ifCond .ne 23, 3) := by decide +kernel
theorem dX2_put_7 : decode cX2_put 7 = .ok (.aload_n 0, 1) := by decide +kernel
theorem dX2_put_8 : decode cX2_put 8 = .ok (.getfield 9, 3) := by decide +kernel
theorem dX2_put_11 : decode cX2_put 11 = .ok (.aload_n 0, 1) := by decide +kernel
theorem dX2_put_12 : decode cX2_put 12 = .ok (.getfield 15, 3) := by decide +kernel
theorem dX2_put_15 : decode cX2_put 15 = .ok (.iload_n 1, 1) := by decide +kernel
theorem dX2_put_16 : decode cX2_put 16 = .ok (.iastore, 1) := by decide +kernel
theorem dX2_put_17 : decode cX2_put 17 = .ok (.aload_n 0, 1) := by decide +kernel
theorem dX2_put_18 : decode cX2_put 18 = .ok (.dup, 1) := by decide +kernel
theorem dX2_put_19 : decode cX2_put 19 = .ok (.getfield 15, 3) := by decide +kernel
theorem dX2_put_22 : decode cX2_put 22 = .ok (.iconst 1, 1) := by decide +kernel
theorem dX2_put_23 : decode cX2_put 23 = .ok (.iadd, 1) := by decide +kernel
theorem dX2_put_24 : decode cX2_put 24 = .ok (.putfield 15, 3) := by decide +kernel
theorem dX2_put_27 : decode cX2_put 27 = .ok (.return_, 1) := by decide +kernel
theorem dX2_tellsYearsOf_0 : decode cX2_tellsYearsOf 0 = .ok (.iconst 0, 1) := by decide +kernel
theorem dX2_tellsYearsOf_1 : decode cX2_tellsYearsOf 1 = .ok (.istore_n 3, 1) := by decide +kernel
theorem dX2_tellsYearsOf_2 : decode cX2_tellsYearsOf 2 = .ok (.iload_n 3, 1) := by decide +kernel
theorem dX2_tellsYearsOf_3 : decode cX2_tellsYearsOf 3 = .ok (.aload_n 0, 1) := by decide +kernel
theorem dX2_tellsYearsOf_4 : decode cX2_tellsYearsOf 4 = .ok (.getfield 15, 3) := by decide +kernel
theorem dX2_tellsYearsOf_7 : decode cX2_tellsYearsOf 7 = .ok (.if_icmp .ge 35, 3) := by decide +kernel
theorem dX2_tellsYearsOf_10 : decode cX2_tellsYearsOf 10 = .ok (.iload_n 3, 1) := by decide +kernel
theorem dX2_tellsYearsOf_11 : decode cX2_tellsYearsOf 11 = .ok (.bipush 16, 2) := by decide +kernel
theorem dX2_tellsYearsOf_13 : decode cX2_tellsYearsOf 13 = .ok (.if_icmp .ge 29, 3) := by decide +kernel
theorem dX2_tellsYearsOf_16 : decode cX2_tellsYearsOf 16 = .ok (.aload_n 0, 1) := by decide +kernel
theorem dX2_tellsYearsOf_17 : decode cX2_tellsYearsOf 17 = .ok (.getfield 9, 3) := by decide +kernel
theorem dX2_tellsYearsOf_20 : decode cX2_tellsYearsOf 20 = .ok (.iload_n 3, 1) := by decide +kernel
theorem dX2_tellsYearsOf_21 : decode cX2_tellsYearsOf 21 = .ok (.iaload, 1) := by decide +kernel
theorem dX2_tellsYearsOf_22 : decode cX2_tellsYearsOf 22 = .ok (.aload_n 1, 1) := by decide +kernel
theorem dX2_tellsYearsOf_23 : decode cX2_tellsYearsOf 23 = .ok (.iload_n 3, 1) := by decide +kernel
theorem dX2_tellsYearsOf_24 : decode cX2_tellsYearsOf 24 = .ok (.iconst 5, 1) := by decide +kernel
theorem dX2_tellsYearsOf_25 : decode cX2_tellsYearsOf 25 = .ok (.imul, 1) := by decide +kernel
theorem dX2_tellsYearsOf_26 : decode cX2_tellsYearsOf 26 = .ok (.iconst 0, 1) := by decide +kernel
theorem dX2_tellsYearsOf_27 : decode cX2_tellsYearsOf 27 = .ok (.iload_n 2, 1) := by decide +kernel
theorem dX2_tellsYearsOf_28 : decode cX2_tellsYearsOf 28 = .ok (.invokevirtual 23, 3) := by decide +kernel
theorem dX2_tellsYearsOf_31 : decode cX2_tellsYearsOf 31 = .ok (.if_icmp .eq 5, 3) := by decide +kernel
theorem dX2_tellsYearsOf_34 : decode cX2_tellsYearsOf 34 = .ok (.iconst 0, 1) := by decide +kernel
theorem dX2_tellsYearsOf_35 : decode cX2_tellsYearsOf 35 = .ok (.ireturn, 1) := by decide +kernel
theorem dX2_tellsYearsOf_36 : decode cX2_tellsYearsOf 36 = .ok (.iinc 3 1, 3) := by decide +kernel
theorem dX2_tellsYearsOf_39 : decode cX2_tellsYearsOf 39 = .ok (.goto (-37), 3) := by decide +kernel
theorem dX2_tellsYearsOf_42 : decode cX2_tellsYearsOf 42 = .ok (.iconst 1, 1) := by decide +kernel
theorem dX2_tellsYearsOf_43 : decode cX2_tellsYearsOf 43 = .ok (.ireturn, 1) := by decide +kernel
theorem dX7_noYear_0 : decode cX7_noYear 0 = .ok (.iload_n 0, 1) := by decide +kernel
theorem dX7_noYear_1 : decode cX7_noYear 1 = .ok (.ifCond .lt 9, 3) := by decide +kernel
theorem dX7_noYear_4 : decode cX7_noYear 4 = .ok (.iload_n 0, 1) := by decide +kernel
theorem dX7_noYear_5 : decode cX7_noYear 5 = .ok (.bipush 12, 2) := by decide +kernel
theorem dX7_noYear_7 : decode cX7_noYear 7 = .ok (.if_icmp .lt 7, 3) := by decide +kernel
theorem dX7_noYear_10 : decode cX7_noYear 10 = .ok (.iconst 1, 1) := by decide +kernel
theorem dX7_noYear_11 : decode cX7_noYear 11 = .ok (.goto 4, 3) := by decide +kernel
theorem dX7_noYear_14 : decode cX7_noYear 14 = .ok (.iconst 0, 1) := by decide +kernel
theorem dX7_noYear_15 : decode cX7_noYear 15 = .ok (.ireturn, 1) := by decide +kernel
theorem dX2_firstNotGladOf_0 : decode cX2_firstNotGladOf 0 = .ok (.iconst 0, 1) := by decide +kernel
theorem dX2_firstNotGladOf_1 : decode cX2_firstNotGladOf 1 = .ok (.istore_n 2, 1) := by decide +kernel
theorem dX2_firstNotGladOf_2 : decode cX2_firstNotGladOf 2 = .ok (.iload_n 2, 1) := by decide +kernel
theorem dX2_firstNotGladOf_3 : decode cX2_firstNotGladOf 3 = .ok (.aload_n 0, 1) := by decide +kernel
theorem dX2_firstNotGladOf_4 : decode cX2_firstNotGladOf 4 = .ok (.getfield 15, 3) := by decide +kernel
theorem dX2_firstNotGladOf_7 : decode cX2_firstNotGladOf 7 = .ok (.if_icmp .ge 38, 3) := by decide +kernel
theorem dX2_firstNotGladOf_10 : decode cX2_firstNotGladOf 10 = .ok (.iload_n 2, 1) := by decide +kernel
theorem dX2_firstNotGladOf_11 : decode cX2_firstNotGladOf 11 = .ok (.bipush 16, 2) := by decide +kernel
theorem dX2_firstNotGladOf_13 : decode cX2_firstNotGladOf 13 = .ok (.if_icmp .ge 32, 3) := by decide +kernel
theorem dX2_firstNotGladOf_16 : decode cX2_firstNotGladOf 16 = .ok (.iload_n 2, 1) := by decide +kernel
theorem dX2_firstNotGladOf_17 : decode cX2_firstNotGladOf 17 = .ok (.invokestatic 29, 3) := by decide +kernel
theorem dX2_firstNotGladOf_20 : decode cX2_firstNotGladOf 20 = .ok (.ifCond .ne 17, 3) := by decide +kernel
theorem dX2_firstNotGladOf_23 : decode cX2_firstNotGladOf 23 = .ok (.aload_n 0, 1) := by decide +kernel
theorem dX2_firstNotGladOf_24 : decode cX2_firstNotGladOf 24 = .ok (.getfield 9, 3) := by decide +kernel
theorem dX2_firstNotGladOf_27 : decode cX2_firstNotGladOf 27 = .ok (.iload_n 2, 1) := by decide +kernel
theorem dX2_firstNotGladOf_28 : decode cX2_firstNotGladOf 28 = .ok (.iaload, 1) := by decide +kernel
theorem dX2_firstNotGladOf_29 : decode cX2_firstNotGladOf 29 = .ok (.aload_n 1, 1) := by decide +kernel
theorem dX2_firstNotGladOf_30 : decode cX2_firstNotGladOf 30 = .ok (.iload_n 2, 1) := by decide +kernel
theorem dX2_firstNotGladOf_31 : decode cX2_firstNotGladOf 31 = .ok (.invokevirtual 33, 3) := by decide +kernel
theorem dX2_firstNotGladOf_34 : decode cX2_firstNotGladOf 34 = .ok (.if_icmp .eq 5, 3) := by decide +kernel
theorem dX2_firstNotGladOf_37 : decode cX2_firstNotGladOf 37 = .ok (.iload_n 2, 1) := by decide +kernel
theorem dX2_firstNotGladOf_38 : decode cX2_firstNotGladOf 38 = .ok (.ireturn, 1) := by decide +kernel
theorem dX2_firstNotGladOf_39 : decode cX2_firstNotGladOf 39 = .ok (.iinc 2 1, 3) := by decide +kernel
theorem dX2_firstNotGladOf_42 : decode cX2_firstNotGladOf 42 = .ok (.goto (-40), 3) := by decide +kernel
theorem dX2_firstNotGladOf_45 : decode cX2_firstNotGladOf 45 = .ok (.bipush (-9), 2) := by decide +kernel
theorem dX2_firstNotGladOf_47 : decode cX2_firstNotGladOf 47 = .ok (.ireturn, 1) := by decide +kernel
theorem dX6_copyFrom_0 : decode cX6_copyFrom 0 = .ok (.aload_n 0, 1) := by decide +kernel
theorem dX6_copyFrom_1 : decode cX6_copyFrom 1 = .ok (.aload_n 1, 1) := by decide +kernel
theorem dX6_copyFrom_2 : decode cX6_copyFrom 2 = .ok (.getfield 19, 3) := by decide +kernel
theorem dX6_copyFrom_5 : decode cX6_copyFrom 5 = .ok (.putfield 19, 3) := by decide +kernel
theorem dX6_copyFrom_8 : decode cX6_copyFrom 8 = .ok (.aload_n 0, 1) := by decide +kernel
theorem dX6_copyFrom_9 : decode cX6_copyFrom 9 = .ok (.aload_n 1, 1) := by decide +kernel
theorem dX6_copyFrom_10 : decode cX6_copyFrom 10 = .ok (.getfield 22, 3) := by decide +kernel
theorem dX6_copyFrom_13 : decode cX6_copyFrom 13 = .ok (.putfield 22, 3) := by decide +kernel
theorem dX6_copyFrom_16 : decode cX6_copyFrom 16 = .ok (.aload_n 0, 1) := by decide +kernel
theorem dX6_copyFrom_17 : decode cX6_copyFrom 17 = .ok (.aload_n 1, 1) := by decide +kernel
theorem dX6_copyFrom_18 : decode cX6_copyFrom 18 = .ok (.getfield 9, 3) := by decide +kernel
theorem dX6_copyFrom_21 : decode cX6_copyFrom 21 = .ok (.putfield 9, 3) := by decide +kernel
theorem dX6_copyFrom_24 : decode cX6_copyFrom 24 = .ok (.aload_n 1, 1) := by decide +kernel
theorem dX6_copyFrom_25 : decode cX6_copyFrom 25 = .ok (.getfield 15, 3) := by decide +kernel
theorem dX6_copyFrom_28 : decode cX6_copyFrom 28 = .ok (.iconst 0, 1) := by decide +kernel
theorem dX6_copyFrom_29 : decode cX6_copyFrom 29 = .ok (.aload_n 0, 1) := by decide +kernel
theorem dX6_copyFrom_30 : decode cX6_copyFrom 30 = .ok (.getfield 15, 3) := by decide +kernel
theorem dX6_copyFrom_33 : decode cX6_copyFrom 33 = .ok (.iconst 0, 1) := by decide +kernel
theorem dX6_copyFrom_34 : decode cX6_copyFrom 34 = .ok (.bipush 12, 2) := by decide +kernel
theorem dX6_copyFrom_36 : decode cX6_copyFrom 36 = .ok (.invokestatic 25, 3) := by decide +kernel
theorem dX6_copyFrom_39 : decode cX6_copyFrom 39 = .ok (.return_, 1) := by decide +kernel
theorem dX3_copyFrom_0 : decode cX3_copyFrom 0 = .ok (.aload_n 0, 1) := by decide +kernel
theorem dX3_copyFrom_1 : decode cX3_copyFrom 1 = .ok (.aload_n 1, 1) := by decide +kernel
theorem dX3_copyFrom_2 : decode cX3_copyFrom 2 = .ok (.getfield 29, 3) := by decide +kernel
theorem dX3_copyFrom_5 : decode cX3_copyFrom 5 = .ok (.putfield 29, 3) := by decide +kernel
theorem dX3_copyFrom_8 : decode cX3_copyFrom 8 = .ok (.aload_n 0, 1) := by decide +kernel
theorem dX3_copyFrom_9 : decode cX3_copyFrom 9 = .ok (.aload_n 1, 1) := by decide +kernel
theorem dX3_copyFrom_10 : decode cX3_copyFrom 10 = .ok (.getfield 32, 3) := by decide +kernel
theorem dX3_copyFrom_13 : decode cX3_copyFrom 13 = .ok (.putfield 32, 3) := by decide +kernel
theorem dX3_copyFrom_16 : decode cX3_copyFrom 16 = .ok (.aload_n 0, 1) := by decide +kernel
theorem dX3_copyFrom_17 : decode cX3_copyFrom 17 = .ok (.aload_n 1, 1) := by decide +kernel
theorem dX3_copyFrom_18 : decode cX3_copyFrom 18 = .ok (.getfield 9, 3) := by decide +kernel
theorem dX3_copyFrom_21 : decode cX3_copyFrom 21 = .ok (.putfield 9, 3) := by decide +kernel
theorem dX3_copyFrom_24 : decode cX3_copyFrom 24 = .ok (.aload_n 0, 1) := by decide +kernel
theorem dX3_copyFrom_25 : decode cX3_copyFrom 25 = .ok (.aload_n 1, 1) := by decide +kernel
theorem dX3_copyFrom_26 : decode cX3_copyFrom 26 = .ok (.getfield 15, 3) := by decide +kernel
theorem dX3_copyFrom_29 : decode cX3_copyFrom 29 = .ok (.putfield 15, 3) := by decide +kernel
theorem dX3_copyFrom_32 : decode cX3_copyFrom 32 = .ok (.iconst 0, 1) := by decide +kernel
theorem dX3_copyFrom_33 : decode cX3_copyFrom 33 = .ok (.istore_n 2, 1) := by decide +kernel
theorem dX3_copyFrom_34 : decode cX3_copyFrom 34 = .ok (.iload_n 2, 1) := by decide +kernel
theorem dX3_copyFrom_35 : decode cX3_copyFrom 35 = .ok (.bipush 8, 2) := by decide +kernel
theorem dX3_copyFrom_37 : decode cX3_copyFrom 37 = .ok (.if_icmp .ge 36, 3) := by decide +kernel
theorem dX3_copyFrom_40 : decode cX3_copyFrom 40 = .ok (.aload_n 0, 1) := by decide +kernel
theorem dX3_copyFrom_41 : decode cX3_copyFrom 41 = .ok (.getfield 20, 3) := by decide +kernel
theorem dX3_copyFrom_44 : decode cX3_copyFrom 44 = .ok (.iload_n 2, 1) := by decide +kernel
theorem dX3_copyFrom_45 : decode cX3_copyFrom 45 = .ok (.aaload, 1) := by decide +kernel
theorem dX3_copyFrom_46 : decode cX3_copyFrom 46 = .ok (.aload_n 1, 1) := by decide +kernel
theorem dX3_copyFrom_47 : decode cX3_copyFrom 47 = .ok (.getfield 20, 3) := by decide +kernel
theorem dX3_copyFrom_50 : decode cX3_copyFrom 50 = .ok (.iload_n 2, 1) := by decide +kernel
theorem dX3_copyFrom_51 : decode cX3_copyFrom 51 = .ok (.aaload, 1) := by decide +kernel
theorem dX3_copyFrom_52 : decode cX3_copyFrom 52 = .ok (.invokevirtual 35, 3) := by decide +kernel
theorem dX3_copyFrom_55 : decode cX3_copyFrom 55 = .ok (.aload_n 0, 1) := by decide +kernel
theorem dX3_copyFrom_56 : decode cX3_copyFrom 56 = .ok (.getfield 24, 3) := by decide +kernel
theorem dX3_copyFrom_59 : decode cX3_copyFrom 59 = .ok (.iload_n 2, 1) := by decide +kernel
theorem dX3_copyFrom_60 : decode cX3_copyFrom 60 = .ok (.aload_n 1, 1) := by decide +kernel
theorem dX3_copyFrom_61 : decode cX3_copyFrom 61 = .ok (.getfield 24, 3) := by decide +kernel
theorem dX3_copyFrom_64 : decode cX3_copyFrom 64 = .ok (.iload_n 2, 1) := by decide +kernel
theorem dX3_copyFrom_65 : decode cX3_copyFrom 65 = .ok (.iaload, 1) := by decide +kernel
theorem dX3_copyFrom_66 : decode cX3_copyFrom 66 = .ok (.iastore, 1) := by decide +kernel
theorem dX3_copyFrom_67 : decode cX3_copyFrom 67 = .ok (.iinc 2 1, 3) := by decide +kernel
theorem dX3_copyFrom_70 : decode cX3_copyFrom 70 = .ok (.goto (-36), 3) := by decide +kernel
theorem dX3_copyFrom_73 : decode cX3_copyFrom 73 = .ok (.return_, 1) := by decide +kernel
theorem dX3_lacks_0 : decode cX3_lacks 0 = .ok (.iload_n 1, 1) := by decide +kernel
theorem dX3_lacks_1 : decode cX3_lacks 1 = .ok (.ifCond .lt 17, 3) := by decide +kernel
theorem dX3_lacks_4 : decode cX3_lacks 4 = .ok (.iload_n 1, 1) := by decide +kernel
theorem dX3_lacks_5 : decode cX3_lacks 5 = .ok (.aload_n 0, 1) := by decide +kernel
theorem dX3_lacks_6 : decode cX3_lacks 6 = .ok (.getfield 29, 3) := by decide +kernel
theorem dX3_lacks_9 : decode cX3_lacks 9 = .ok (.if_icmp .ge 9, 3) := by decide +kernel
theorem dX3_lacks_12 : decode cX3_lacks 12 = .ok (.iload_n 1, 1) := by decide +kernel
theorem dX3_lacks_13 : decode cX3_lacks 13 = .ok (.bipush 8, 2) := by decide +kernel
theorem dX3_lacks_15 : decode cX3_lacks 15 = .ok (.if_icmp .lt 7, 3) := by decide +kernel
theorem dX3_lacks_18 : decode cX3_lacks 18 = .ok (.iconst 1, 1) := by decide +kernel
theorem dX3_lacks_19 : decode cX3_lacks 19 = .ok (.goto 4, 3) := by decide +kernel
theorem dX3_lacks_22 : decode cX3_lacks 22 = .ok (.iconst 0, 1) := by decide +kernel
theorem dX3_lacks_23 : decode cX3_lacks 23 = .ok (.ireturn, 1) := by decide +kernel
theorem dX3_lacksTwo_0 : decode cX3_lacksTwo 0 = .ok (.aload_n 0, 1) := by decide +kernel
theorem dX3_lacksTwo_1 : decode cX3_lacksTwo 1 = .ok (.iload_n 1, 1) := by decide +kernel
theorem dX3_lacksTwo_2 : decode cX3_lacksTwo 2 = .ok (.invokevirtual 39, 3) := by decide +kernel
theorem dX3_lacksTwo_5 : decode cX3_lacksTwo 5 = .ok (.ifCond .ne 16, 3) := by decide +kernel
theorem dX3_lacksTwo_8 : decode cX3_lacksTwo 8 = .ok (.aload_n 0, 1) := by decide +kernel
theorem dX3_lacksTwo_9 : decode cX3_lacksTwo 9 = .ok (.iload_n 2, 1) := by decide +kernel
theorem dX3_lacksTwo_10 : decode cX3_lacksTwo 10 = .ok (.invokevirtual 39, 3) := by decide +kernel
theorem dX3_lacksTwo_13 : decode cX3_lacksTwo 13 = .ok (.ifCond .ne 8, 3) := by decide +kernel
theorem dX3_lacksTwo_16 : decode cX3_lacksTwo 16 = .ok (.iload_n 1, 1) := by decide +kernel
theorem dX3_lacksTwo_17 : decode cX3_lacksTwo 17 = .ok (.iload_n 2, 1) := by decide +kernel
theorem dX3_lacksTwo_18 : decode cX3_lacksTwo 18 = .ok (.if_icmp .ne 7, 3) := by decide +kernel
theorem dX3_lacksTwo_21 : decode cX3_lacksTwo 21 = .ok (.iconst 1, 1) := by decide +kernel
theorem dX3_lacksTwo_22 : decode cX3_lacksTwo 22 = .ok (.goto 4, 3) := by decide +kernel
theorem dX3_lacksTwo_25 : decode cX3_lacksTwo 25 = .ok (.iconst 0, 1) := by decide +kernel
theorem dX3_lacksTwo_26 : decode cX3_lacksTwo 26 = .ok (.ireturn, 1) := by decide +kernel
theorem dX6_begin_0 : decode cX6_begin 0 = .ok (.aload_n 0, 1) := by decide +kernel
theorem dX6_begin_1 : decode cX6_begin 1 = .ok (.iload_n 1, 1) := by decide +kernel
theorem dX6_begin_2 : decode cX6_begin 2 = .ok (.putfield 19, 3) := by decide +kernel
theorem dX6_begin_5 : decode cX6_begin 5 = .ok (.aload_n 0, 1) := by decide +kernel
theorem dX6_begin_6 : decode cX6_begin 6 = .ok (.iload_n 2, 1) := by decide +kernel
theorem dX6_begin_7 : decode cX6_begin 7 = .ok (.putfield 22, 3) := by decide +kernel
theorem dX6_begin_10 : decode cX6_begin 10 = .ok (.aload_n 0, 1) := by decide +kernel
theorem dX6_begin_11 : decode cX6_begin 11 = .ok (.bipush (-9), 2) := by decide +kernel
theorem dX6_begin_13 : decode cX6_begin 13 = .ok (.putfield 9, 3) := by decide +kernel
theorem dX6_begin_16 : decode cX6_begin 16 = .ok (.iconst 0, 1) := by decide +kernel
theorem dX6_begin_17 : decode cX6_begin 17 = .ok (.istore_n 3, 1) := by decide +kernel
theorem dX6_begin_18 : decode cX6_begin 18 = .ok (.iload_n 3, 1) := by decide +kernel
theorem dX6_begin_19 : decode cX6_begin 19 = .ok (.bipush 12, 2) := by decide +kernel
theorem dX6_begin_21 : decode cX6_begin 21 = .ok (.if_icmp .ge 16, 3) := by decide +kernel
theorem dX6_begin_24 : decode cX6_begin 24 = .ok (.aload_n 0, 1) := by decide +kernel
theorem dX6_begin_25 : decode cX6_begin 25 = .ok (.getfield 15, 3) := by decide +kernel
theorem dX6_begin_28 : decode cX6_begin 28 = .ok (.iload_n 3, 1) := by decide +kernel
theorem dX6_begin_29 : decode cX6_begin 29 = .ok (.iconst 0, 1) := by decide +kernel
theorem dX6_begin_30 : decode cX6_begin 30 = .ok (.iastore, 1) := by decide +kernel
theorem dX6_begin_31 : decode cX6_begin 31 = .ok (.iinc 3 1, 3) := by decide +kernel
theorem dX6_begin_34 : decode cX6_begin 34 = .ok (.goto (-16), 3) := by decide +kernel
theorem dX6_begin_37 : decode cX6_begin 37 = .ok (.return_, 1) := by decide +kernel
theorem dX3_add_0 : decode cX3_add 0 = .ok (.aload_n 0, 1) := by decide +kernel
theorem dX3_add_1 : decode cX3_add 1 = .ok (.getfield 29, 3) := by decide +kernel
theorem dX3_add_4 : decode cX3_add 4 = .ok (.bipush 8, 2) := by decide +kernel
theorem dX3_add_6 : decode cX3_add 6 = .ok (.if_icmp .lt 5, 3) := by decide +kernel
theorem dX3_add_9 : decode cX3_add 9 = .ok (.iconst 0, 1) := by decide +kernel
theorem dX3_add_10 : decode cX3_add 10 = .ok (.ireturn, 1) := by decide +kernel
theorem dX3_add_11 : decode cX3_add 11 = .ok (.aload_n 0, 1) := by decide +kernel
theorem dX3_add_12 : decode cX3_add 12 = .ok (.aload_n 0, 1) := by decide +kernel
theorem dX3_add_13 : decode cX3_add 13 = .ok (.getfield 29, 3) := by decide +kernel
theorem dX3_add_16 : decode cX3_add 16 = .ok (.invokevirtual 43, 3) := by decide +kernel
theorem dX3_add_19 : decode cX3_add 19 = .ok (.iload_n 1, 1) := by decide +kernel
theorem dX3_add_20 : decode cX3_add 20 = .ok (.iload_n 2, 1) := by decide +kernel
theorem dX3_add_21 : decode cX3_add 21 = .ok (.invokevirtual 47, 3) := by decide +kernel
theorem dX3_add_24 : decode cX3_add 24 = .ok (.aload_n 0, 1) := by decide +kernel
theorem dX3_add_25 : decode cX3_add 25 = .ok (.dup, 1) := by decide +kernel
theorem dX3_add_26 : decode cX3_add 26 = .ok (.getfield 29, 3) := by decide +kernel
theorem dX3_add_29 : decode cX3_add 29 = .ok (.iconst 1, 1) := by decide +kernel
theorem dX3_add_30 : decode cX3_add 30 = .ok (.iadd, 1) := by decide +kernel
theorem dX3_add_31 : decode cX3_add 31 = .ok (.putfield 29, 3) := by decide +kernel
theorem dX3_add_34 : decode cX3_add 34 = .ok (.iconst 1, 1) := by decide +kernel
theorem dX3_add_35 : decode cX3_add 35 = .ok (.ireturn, 1) := by decide +kernel
theorem dX6_makeGlad_0 : decode cX6_makeGlad 0 = .ok (.iload_n 1, 1) := by decide +kernel
theorem dX6_makeGlad_1 : decode cX6_makeGlad 1 = .ok (.ifCond .lt 16, 3) := by decide +kernel
theorem dX6_makeGlad_4 : decode cX6_makeGlad 4 = .ok (.iload_n 1, 1) := by decide +kernel
theorem dX6_makeGlad_5 : decode cX6_makeGlad 5 = .ok (.bipush 12, 2) := by decide +kernel
theorem dX6_makeGlad_7 : decode cX6_makeGlad 7 = .ok (.if_icmp .ge 10, 3) := by decide +kernel
theorem dX6_makeGlad_10 : decode cX6_makeGlad 10 = .ok (.aload_n 0, 1) := by decide +kernel
theorem dX6_makeGlad_11 : decode cX6_makeGlad 11 = .ok (.getfield 15, 3) := by decide +kernel
theorem dX6_makeGlad_14 : decode cX6_makeGlad 14 = .ok (.iload_n 1, 1) := by decide +kernel
theorem dX6_makeGlad_15 : decode cX6_makeGlad 15 = .ok (.iload_n 2, 1) := by decide +kernel
theorem dX6_makeGlad_16 : decode cX6_makeGlad 16 = .ok (.iastore, 1) := by decide +kernel
theorem dX6_makeGlad_17 : decode cX6_makeGlad 17 = .ok (.return_, 1) := by decide +kernel
theorem dX3_makeGlad_0 : decode cX3_makeGlad 0 = .ok (.aload_n 0, 1) := by decide +kernel
theorem dX3_makeGlad_1 : decode cX3_makeGlad 1 = .ok (.iload_n 1, 1) := by decide +kernel
theorem dX3_makeGlad_2 : decode cX3_makeGlad 2 = .ok (.invokevirtual 39, 3) := by decide +kernel
theorem dX3_makeGlad_5 : decode cX3_makeGlad 5 = .ok (.ifCond .ne 22, 3) := by decide +kernel
theorem dX3_makeGlad_8 : decode cX3_makeGlad 8 = .ok (.iload_n 2, 1) := by decide +kernel
theorem dX3_makeGlad_9 : decode cX3_makeGlad 9 = .ok (.invokestatic 51, 3) := by decide +kernel
theorem dX3_makeGlad_12 : decode cX3_makeGlad 12 = .ok (.ifCond .ne 15, 3) := by decide +kernel
theorem dX3_makeGlad_15 : decode cX3_makeGlad 15 = .ok (.iload_n 3, 1) := by decide +kernel
theorem dX3_makeGlad_16 : decode cX3_makeGlad 16 = .ok (.invokestatic 51, 3) := by decide +kernel
theorem dX3_makeGlad_19 : decode cX3_makeGlad 19 = .ok (.ifCond .ne 8, 3) := by decide +kernel
theorem dX3_makeGlad_22 : decode cX3_makeGlad 22 = .ok (.iload_n 2, 1) := by decide +kernel
theorem dX3_makeGlad_23 : decode cX3_makeGlad 23 = .ok (.iload_n 3, 1) := by decide +kernel
theorem dX3_makeGlad_24 : decode cX3_makeGlad 24 = .ok (.if_icmp .le 5, 3) := by decide +kernel
theorem dX3_makeGlad_27 : decode cX3_makeGlad 27 = .ok (.iconst 0, 1) := by decide +kernel
theorem dX3_makeGlad_28 : decode cX3_makeGlad 28 = .ok (.ireturn, 1) := by decide +kernel
theorem dX3_makeGlad_29 : decode cX3_makeGlad 29 = .ok (.iload_n 2, 1) := by decide +kernel
theorem dX3_makeGlad_30 : decode cX3_makeGlad 30 = .ok (.istore 5, 2) := by decide +kernel
theorem dX3_makeGlad_32 : decode cX3_makeGlad 32 = .ok (.iload 5, 2) := by decide +kernel
theorem dX3_makeGlad_34 : decode cX3_makeGlad 34 = .ok (.iload_n 3, 1) := by decide +kernel
theorem dX3_makeGlad_35 : decode cX3_makeGlad 35 = .ok (.if_icmp .gt 21, 3) := by decide +kernel
theorem dX3_makeGlad_38 : decode cX3_makeGlad 38 = .ok (.aload_n 0, 1) := by decide +kernel
theorem dX3_makeGlad_39 : decode cX3_makeGlad 39 = .ok (.iload_n 1, 1) := by decide +kernel
theorem dX3_makeGlad_40 : decode cX3_makeGlad 40 = .ok (.invokevirtual 43, 3) := by decide +kernel
theorem dX3_makeGlad_43 : decode cX3_makeGlad 43 = .ok (.iload 5, 2) := by decide +kernel
theorem dX3_makeGlad_45 : decode cX3_makeGlad 45 = .ok (.iload 4, 2) := by decide +kernel
theorem dX3_makeGlad_47 : decode cX3_makeGlad 47 = .ok (.invokevirtual 54, 3) := by decide +kernel
theorem dX3_makeGlad_50 : decode cX3_makeGlad 50 = .ok (.iinc 5 1, 3) := by decide +kernel
theorem dX3_makeGlad_53 : decode cX3_makeGlad 53 = .ok (.goto (-21), 3) := by decide +kernel
theorem dX3_makeGlad_56 : decode cX3_makeGlad 56 = .ok (.iconst 1, 1) := by decide +kernel
theorem dX3_makeGlad_57 : decode cX3_makeGlad 57 = .ok (.ireturn, 1) := by decide +kernel
theorem dX3_moveTo_0 : decode cX3_moveTo 0 = .ok (.iload_n 1, 1) := by decide +kernel
theorem dX3_moveTo_1 : decode cX3_moveTo 1 = .ok (.invokestatic 51, 3) := by decide +kernel
theorem dX3_moveTo_4 : decode cX3_moveTo 4 = .ok (.ifCond .eq 5, 3) := by decide +kernel
theorem dX3_moveTo_7 : decode cX3_moveTo 7 = .ok (.iconst 0, 1) := by decide +kernel
theorem dX3_moveTo_8 : decode cX3_moveTo 8 = .ok (.ireturn, 1) := by decide +kernel
theorem dX3_moveTo_9 : decode cX3_moveTo 9 = .ok (.aload_n 0, 1) := by decide +kernel
theorem dX3_moveTo_10 : decode cX3_moveTo 10 = .ok (.iload_n 1, 1) := by decide +kernel
theorem dX3_moveTo_11 : decode cX3_moveTo 11 = .ok (.putfield 32, 3) := by decide +kernel
theorem dX3_moveTo_14 : decode cX3_moveTo 14 = .ok (.iconst 1, 1) := by decide +kernel
theorem dX3_moveTo_15 : decode cX3_moveTo 15 = .ok (.ireturn, 1) := by decide +kernel
theorem dX3_areHalves_0 : decode cX3_areHalves 0 = .ok (.aload_n 0, 1) := by decide +kernel
theorem dX3_areHalves_1 : decode cX3_areHalves 1 = .ok (.iload_n 1, 1) := by decide +kernel
theorem dX3_areHalves_2 : decode cX3_areHalves 2 = .ok (.iload_n 2, 1) := by decide +kernel
theorem dX3_areHalves_3 : decode cX3_areHalves 3 = .ok (.invokevirtual 57, 3) := by decide +kernel
theorem dX3_areHalves_6 : decode cX3_areHalves 6 = .ok (.ifCond .ne 21, 3) := by decide +kernel
theorem dX3_areHalves_9 : decode cX3_areHalves 9 = .ok (.aload_n 0, 1) := by decide +kernel
theorem dX3_areHalves_10 : decode cX3_areHalves 10 = .ok (.getfield 24, 3) := by decide +kernel
theorem dX3_areHalves_13 : decode cX3_areHalves 13 = .ok (.iload_n 1, 1) := by decide +kernel
theorem dX3_areHalves_14 : decode cX3_areHalves 14 = .ok (.iaload, 1) := by decide +kernel
theorem dX3_areHalves_15 : decode cX3_areHalves 15 = .ok (.iload_n 2, 1) := by decide +kernel
theorem dX3_areHalves_16 : decode cX3_areHalves 16 = .ok (.ishr, 1) := by decide +kernel
theorem dX3_areHalves_17 : decode cX3_areHalves 17 = .ok (.iconst 1, 1) := by decide +kernel
theorem dX3_areHalves_18 : decode cX3_areHalves 18 = .ok (.iand, 1) := by decide +kernel
theorem dX3_areHalves_19 : decode cX3_areHalves 19 = .ok (.iconst 1, 1) := by decide +kernel
theorem dX3_areHalves_20 : decode cX3_areHalves 20 = .ok (.if_icmp .ne 7, 3) := by decide +kernel
theorem dX3_areHalves_23 : decode cX3_areHalves 23 = .ok (.iconst 1, 1) := by decide +kernel
theorem dX3_areHalves_24 : decode cX3_areHalves 24 = .ok (.goto 4, 3) := by decide +kernel
theorem dX3_areHalves_27 : decode cX3_areHalves 27 = .ok (.iconst 0, 1) := by decide +kernel
theorem dX3_areHalves_28 : decode cX3_areHalves 28 = .ok (.ireturn, 1) := by decide +kernel
theorem dX3_turnHalves_0 : decode cX3_turnHalves 0 = .ok (.aload_n 0, 1) := by decide +kernel
theorem dX3_turnHalves_1 : decode cX3_turnHalves 1 = .ok (.iload_n 1, 1) := by decide +kernel
theorem dX3_turnHalves_2 : decode cX3_turnHalves 2 = .ok (.iload_n 2, 1) := by decide +kernel
theorem dX3_turnHalves_3 : decode cX3_turnHalves 3 = .ok (.invokevirtual 57, 3) := by decide +kernel
theorem dX3_turnHalves_6 : decode cX3_turnHalves 6 = .ok (.ifCond .eq 5, 3) := by decide +kernel
theorem dX3_turnHalves_9 : decode cX3_turnHalves 9 = .ok (.iconst 0, 1) := by decide +kernel
theorem dX3_turnHalves_10 : decode cX3_turnHalves 10 = .ok (.ireturn, 1) := by decide +kernel
theorem dX3_turnHalves_11 : decode cX3_turnHalves 11 = .ok (.aload_n 0, 1) := by decide +kernel
theorem dX3_turnHalves_12 : decode cX3_turnHalves 12 = .ok (.getfield 24, 3) := by decide +kernel
theorem dX3_turnHalves_15 : decode cX3_turnHalves 15 = .ok (.iload_n 1, 1) := by decide +kernel
theorem dX3_turnHalves_16 : decode cX3_turnHalves 16 = .ok (.dup2, 1) := by decide +kernel
theorem dX3_turnHalves_17 : decode cX3_turnHalves 17 = .ok (.iaload, 1) := by decide +kernel
theorem dX3_turnHalves_18 : decode cX3_turnHalves 18 = .ok (.iconst 1, 1) := by decide +kernel
theorem dX3_turnHalves_19 : decode cX3_turnHalves 19 = .ok (.iload_n 2, 1) := by decide +kernel
theorem dX3_turnHalves_20 : decode cX3_turnHalves 20 = .ok (.ishl, 1) := by decide +kernel
theorem dX3_turnHalves_21 : decode cX3_turnHalves 21 = .ok (.ixor, 1) := by decide +kernel
theorem dX3_turnHalves_22 : decode cX3_turnHalves 22 = .ok (.iastore, 1) := by decide +kernel
theorem dX3_turnHalves_23 : decode cX3_turnHalves 23 = .ok (.aload_n 0, 1) := by decide +kernel
theorem dX3_turnHalves_24 : decode cX3_turnHalves 24 = .ok (.getfield 24, 3) := by decide +kernel
theorem dX3_turnHalves_27 : decode cX3_turnHalves 27 = .ok (.iload_n 2, 1) := by decide +kernel
theorem dX3_turnHalves_28 : decode cX3_turnHalves 28 = .ok (.dup2, 1) := by decide +kernel
theorem dX3_turnHalves_29 : decode cX3_turnHalves 29 = .ok (.iaload, 1) := by decide +kernel
theorem dX3_turnHalves_30 : decode cX3_turnHalves 30 = .ok (.iconst 1, 1) := by decide +kernel
theorem dX3_turnHalves_31 : decode cX3_turnHalves 31 = .ok (.iload_n 1, 1) := by decide +kernel
theorem dX3_turnHalves_32 : decode cX3_turnHalves 32 = .ok (.ishl, 1) := by decide +kernel
theorem dX3_turnHalves_33 : decode cX3_turnHalves 33 = .ok (.ixor, 1) := by decide +kernel
theorem dX3_turnHalves_34 : decode cX3_turnHalves 34 = .ok (.iastore, 1) := by decide +kernel
theorem dX3_turnHalves_35 : decode cX3_turnHalves 35 = .ok (.iconst 1, 1) := by decide +kernel
theorem dX3_turnHalves_36 : decode cX3_turnHalves 36 = .ok (.ireturn, 1) := by decide +kernel
theorem dX3_glue_0 : decode cX3_glue 0 = .ok (.aload_n 0, 1) := by decide +kernel
theorem dX3_glue_1 : decode cX3_glue 1 = .ok (.iload_n 1, 1) := by decide +kernel
theorem dX3_glue_2 : decode cX3_glue 2 = .ok (.invokevirtual 39, 3) := by decide +kernel
theorem dX3_glue_5 : decode cX3_glue 5 = .ok (.ifCond .ne 29, 3) := by decide +kernel
theorem dX3_glue_8 : decode cX3_glue 8 = .ok (.aload_n 0, 1) := by decide +kernel
theorem dX3_glue_9 : decode cX3_glue 9 = .ok (.iload_n 1, 1) := by decide +kernel
theorem dX3_glue_10 : decode cX3_glue 10 = .ok (.invokevirtual 43, 3) := by decide +kernel
theorem dX3_glue_13 : decode cX3_glue 13 = .ok (.invokevirtual 61, 3) := by decide +kernel
theorem dX3_glue_16 : decode cX3_glue 16 = .ok (.ifCond .ne 18, 3) := by decide +kernel
theorem dX3_glue_19 : decode cX3_glue 19 = .ok (.aload_n 0, 1) := by decide +kernel
theorem dX3_glue_20 : decode cX3_glue 20 = .ok (.iload_n 1, 1) := by decide +kernel
theorem dX3_glue_21 : decode cX3_glue 21 = .ok (.invokevirtual 43, 3) := by decide +kernel
theorem dX3_glue_24 : decode cX3_glue 24 = .ok (.invokevirtual 65, 3) := by decide +kernel
theorem dX3_glue_27 : decode cX3_glue 27 = .ok (.aload_n 0, 1) := by decide +kernel
theorem dX3_glue_28 : decode cX3_glue 28 = .ok (.getfield 9, 3) := by decide +kernel
theorem dX3_glue_31 : decode cX3_glue 31 = .ok (.if_icmp .le 5, 3) := by decide +kernel
theorem dX3_glue_34 : decode cX3_glue 34 = .ok (.iconst 0, 1) := by decide +kernel
theorem dX3_glue_35 : decode cX3_glue 35 = .ok (.ireturn, 1) := by decide +kernel
theorem dX3_glue_36 : decode cX3_glue 36 = .ok (.aload_n 0, 1) := by decide +kernel
theorem dX3_glue_37 : decode cX3_glue 37 = .ok (.dup, 1) := by decide +kernel
theorem dX3_glue_38 : decode cX3_glue 38 = .ok (.getfield 9, 3) := by decide +kernel
theorem dX3_glue_41 : decode cX3_glue 41 = .ok (.aload_n 0, 1) := by decide +kernel
theorem dX3_glue_42 : decode cX3_glue 42 = .ok (.iload_n 1, 1) := by decide +kernel
theorem dX3_glue_43 : decode cX3_glue 43 = .ok (.invokevirtual 43, 3) := by decide +kernel
theorem dX3_glue_46 : decode cX3_glue 46 = .ok (.invokevirtual 65, 3) := by decide +kernel
theorem dX3_glue_49 : decode cX3_glue 49 = .ok (.isub, 1) := by decide +kernel
theorem dX3_glue_50 : decode cX3_glue 50 = .ok (.putfield 9, 3) := by decide +kernel
theorem dX3_glue_53 : decode cX3_glue 53 = .ok (.aload_n 0, 1) := by decide +kernel
theorem dX3_glue_54 : decode cX3_glue 54 = .ok (.iload_n 1, 1) := by decide +kernel
theorem dX3_glue_55 : decode cX3_glue 55 = .ok (.invokevirtual 43, 3) := by decide +kernel
theorem dX3_glue_58 : decode cX3_glue 58 = .ok (.aload_n 0, 1) := by decide +kernel
theorem dX3_glue_59 : decode cX3_glue 59 = .ok (.iload_n 1, 1) := by decide +kernel
theorem dX3_glue_60 : decode cX3_glue 60 = .ok (.invokevirtual 43, 3) := by decide +kernel
theorem dX3_glue_63 : decode cX3_glue 63 = .ok (.iload_n 2, 1) := by decide +kernel
theorem dX3_glue_64 : decode cX3_glue 64 = .ok (.iload_n 3, 1) := by decide +kernel
theorem dX3_glue_65 : decode cX3_glue 65 = .ok (.aload_n 0, 1) := by decide +kernel
theorem dX3_glue_66 : decode cX3_glue 66 = .ok (.getfield 32, 3) := by decide +kernel
theorem dX3_glue_69 : decode cX3_glue 69 = .ok (.invokevirtual 69, 3) := by decide +kernel
theorem dX3_glue_72 : decode cX3_glue 72 = .ok (.putfield 73, 3) := by decide +kernel
theorem dX3_glue_75 : decode cX3_glue 75 = .ok (.iconst 1, 1) := by decide +kernel
theorem dX3_glue_76 : decode cX3_glue 76 = .ok (.ireturn, 1) := by decide +kernel
theorem dX3_countHalves_0 : decode cX3_countHalves 0 = .ok (.iconst 0, 1) := by decide +kernel
theorem dX3_countHalves_1 : decode cX3_countHalves 1 = .ok (.istore_n 1, 1) := by decide +kernel
theorem dX3_countHalves_2 : decode cX3_countHalves 2 = .ok (.iconst 0, 1) := by decide +kernel
theorem dX3_countHalves_3 : decode cX3_countHalves 3 = .ok (.istore_n 2, 1) := by decide +kernel
theorem dX3_countHalves_4 : decode cX3_countHalves 4 = .ok (.iload_n 2, 1) := by decide +kernel
theorem dX3_countHalves_5 : decode cX3_countHalves 5 = .ok (.aload_n 0, 1) := by decide +kernel
theorem dX3_countHalves_6 : decode cX3_countHalves 6 = .ok (.getfield 29, 3) := by decide +kernel
theorem dX3_countHalves_9 : decode cX3_countHalves 9 = .ok (.if_icmp .ge 44, 3) := by decide +kernel
theorem dX3_countHalves_12 : decode cX3_countHalves 12 = .ok (.iload_n 2, 1) := by decide +kernel
theorem dX3_countHalves_13 : decode cX3_countHalves 13 = .ok (.iconst 1, 1) := by decide +kernel
theorem dX3_countHalves_14 : decode cX3_countHalves 14 = .ok (.iadd, 1) := by decide +kernel
theorem dX3_countHalves_15 : decode cX3_countHalves 15 = .ok (.istore_n 3, 1) := by decide +kernel
theorem dX3_countHalves_16 : decode cX3_countHalves 16 = .ok (.iload_n 3, 1) := by decide +kernel
theorem dX3_countHalves_17 : decode cX3_countHalves 17 = .ok (.aload_n 0, 1) := by decide +kernel
theorem dX3_countHalves_18 : decode cX3_countHalves 18 = .ok (.getfield 29, 3) := by decide +kernel
theorem dX3_countHalves_21 : decode cX3_countHalves 21 = .ok (.if_icmp .ge 26, 3) := by decide +kernel
theorem dX3_countHalves_24 : decode cX3_countHalves 24 = .ok (.iload_n 1, 1) := by decide +kernel
theorem dX3_countHalves_25 : decode cX3_countHalves 25 = .ok (.aload_n 0, 1) := by decide +kernel
theorem dX3_countHalves_26 : decode cX3_countHalves 26 = .ok (.iload_n 2, 1) := by decide +kernel
theorem dX3_countHalves_27 : decode cX3_countHalves 27 = .ok (.iload_n 3, 1) := by decide +kernel
theorem dX3_countHalves_28 : decode cX3_countHalves 28 = .ok (.invokevirtual 80, 3) := by decide +kernel
theorem dX3_countHalves_31 : decode cX3_countHalves 31 = .ok (.ifCond .eq 7, 3) := by decide +kernel
theorem dX3_countHalves_34 : decode cX3_countHalves 34 = .ok (.iconst 1, 1) := by decide +kernel
theorem dX3_countHalves_35 : decode cX3_countHalves 35 = .ok (.goto 4, 3) := by decide +kernel
theorem dX3_countHalves_38 : decode cX3_countHalves 38 = .ok (.iconst 0, 1) := by decide +kernel
theorem dX3_countHalves_39 : decode cX3_countHalves 39 = .ok (.iadd, 1) := by decide +kernel
theorem dX3_countHalves_40 : decode cX3_countHalves 40 = .ok (.istore_n 1, 1) := by decide +kernel
theorem dX3_countHalves_41 : decode cX3_countHalves 41 = .ok (.iinc 3 1, 3) := by decide +kernel
theorem dX3_countHalves_44 : decode cX3_countHalves 44 = .ok (.goto (-28), 3) := by decide +kernel
theorem dX3_countHalves_47 : decode cX3_countHalves 47 = .ok (.iinc 2 1, 3) := by decide +kernel
theorem dX3_countHalves_50 : decode cX3_countHalves 50 = .ok (.goto (-46), 3) := by decide +kernel
theorem dX3_countHalves_53 : decode cX3_countHalves 53 = .ok (.iload_n 1, 1) := by decide +kernel
theorem dX3_countHalves_54 : decode cX3_countHalves 54 = .ok (.ireturn, 1) := by decide +kernel
theorem dX3_setInOneYear_0 : decode cX3_setInOneYear 0 = .ok (.aload_n 0, 1) := by decide +kernel
theorem dX3_setInOneYear_1 : decode cX3_setInOneYear 1 = .ok (.iload_n 1, 1) := by decide +kernel
theorem dX3_setInOneYear_2 : decode cX3_setInOneYear 2 = .ok (.invokevirtual 43, 3) := by decide +kernel
theorem dX3_setInOneYear_5 : decode cX3_setInOneYear 5 = .ok (.invokevirtual 61, 3) := by decide +kernel
theorem dX3_setInOneYear_8 : decode cX3_setInOneYear 8 = .ok (.ifCond .eq 26, 3) := by decide +kernel
theorem dX3_setInOneYear_11 : decode cX3_setInOneYear 11 = .ok (.aload_n 0, 1) := by decide +kernel
theorem dX3_setInOneYear_12 : decode cX3_setInOneYear 12 = .ok (.iload_n 1, 1) := by decide +kernel
theorem dX3_setInOneYear_13 : decode cX3_setInOneYear 13 = .ok (.invokevirtual 43, 3) := by decide +kernel
theorem dX3_setInOneYear_16 : decode cX3_setInOneYear 16 = .ok (.getfield 73, 3) := by decide +kernel
theorem dX3_setInOneYear_19 : decode cX3_setInOneYear 19 = .ok (.aload_n 0, 1) := by decide +kernel
theorem dX3_setInOneYear_20 : decode cX3_setInOneYear 20 = .ok (.iload_n 2, 1) := by decide +kernel
theorem dX3_setInOneYear_21 : decode cX3_setInOneYear 21 = .ok (.invokevirtual 43, 3) := by decide +kernel
theorem dX3_setInOneYear_24 : decode cX3_setInOneYear 24 = .ok (.getfield 73, 3) := by decide +kernel
theorem dX3_setInOneYear_27 : decode cX3_setInOneYear 27 = .ok (.if_icmp .ne 7, 3) := by decide +kernel
theorem dX3_setInOneYear_30 : decode cX3_setInOneYear 30 = .ok (.iconst 1, 1) := by decide +kernel
theorem dX3_setInOneYear_31 : decode cX3_setInOneYear 31 = .ok (.goto 4, 3) := by decide +kernel
theorem dX3_setInOneYear_34 : decode cX3_setInOneYear 34 = .ok (.iconst 0, 1) := by decide +kernel
theorem dX3_setInOneYear_35 : decode cX3_setInOneYear 35 = .ok (.ireturn, 1) := by decide +kernel
theorem dX3_countAgreeing_0 : decode cX3_countAgreeing 0 = .ok (.iconst 0, 1) := by decide +kernel
theorem dX3_countAgreeing_1 : decode cX3_countAgreeing 1 = .ok (.istore_n 1, 1) := by decide +kernel
theorem dX3_countAgreeing_2 : decode cX3_countAgreeing 2 = .ok (.iconst 0, 1) := by decide +kernel
theorem dX3_countAgreeing_3 : decode cX3_countAgreeing 3 = .ok (.istore_n 2, 1) := by decide +kernel
theorem dX3_countAgreeing_4 : decode cX3_countAgreeing 4 = .ok (.iload_n 2, 1) := by decide +kernel
theorem dX3_countAgreeing_5 : decode cX3_countAgreeing 5 = .ok (.aload_n 0, 1) := by decide +kernel
theorem dX3_countAgreeing_6 : decode cX3_countAgreeing 6 = .ok (.getfield 29, 3) := by decide +kernel
theorem dX3_countAgreeing_9 : decode cX3_countAgreeing 9 = .ok (.if_icmp .ge 53, 3) := by decide +kernel
theorem dX3_countAgreeing_12 : decode cX3_countAgreeing 12 = .ok (.iload_n 2, 1) := by decide +kernel
theorem dX3_countAgreeing_13 : decode cX3_countAgreeing 13 = .ok (.iconst 1, 1) := by decide +kernel
theorem dX3_countAgreeing_14 : decode cX3_countAgreeing 14 = .ok (.iadd, 1) := by decide +kernel
theorem dX3_countAgreeing_15 : decode cX3_countAgreeing 15 = .ok (.istore_n 3, 1) := by decide +kernel
theorem dX3_countAgreeing_16 : decode cX3_countAgreeing 16 = .ok (.iload_n 3, 1) := by decide +kernel
theorem dX3_countAgreeing_17 : decode cX3_countAgreeing 17 = .ok (.aload_n 0, 1) := by decide +kernel
theorem dX3_countAgreeing_18 : decode cX3_countAgreeing 18 = .ok (.getfield 29, 3) := by decide +kernel
theorem dX3_countAgreeing_21 : decode cX3_countAgreeing 21 = .ok (.if_icmp .ge 35, 3) := by decide +kernel
theorem dX3_countAgreeing_24 : decode cX3_countAgreeing 24 = .ok (.iload_n 1, 1) := by decide +kernel
theorem dX3_countAgreeing_25 : decode cX3_countAgreeing 25 = .ok (.aload_n 0, 1) := by decide +kernel
theorem dX3_countAgreeing_26 : decode cX3_countAgreeing 26 = .ok (.iload_n 2, 1) := by decide +kernel
theorem dX3_countAgreeing_27 : decode cX3_countAgreeing 27 = .ok (.iload_n 3, 1) := by decide +kernel
theorem dX3_countAgreeing_28 : decode cX3_countAgreeing 28 = .ok (.invokevirtual 80, 3) := by decide +kernel
theorem dX3_countAgreeing_31 : decode cX3_countAgreeing 31 = .ok (.ifCond .eq 16, 3) := by decide +kernel
theorem dX3_countAgreeing_34 : decode cX3_countAgreeing 34 = .ok (.aload_n 0, 1) := by decide +kernel
theorem dX3_countAgreeing_35 : decode cX3_countAgreeing 35 = .ok (.iload_n 2, 1) := by decide +kernel
theorem dX3_countAgreeing_36 : decode cX3_countAgreeing 36 = .ok (.iload_n 3, 1) := by decide +kernel
theorem dX3_countAgreeing_37 : decode cX3_countAgreeing 37 = .ok (.invokevirtual 83, 3) := by decide +kernel
theorem dX3_countAgreeing_40 : decode cX3_countAgreeing 40 = .ok (.ifCond .eq 7, 3) := by decide +kernel
theorem dX3_countAgreeing_43 : decode cX3_countAgreeing 43 = .ok (.iconst 1, 1) := by decide +kernel
theorem dX3_countAgreeing_44 : decode cX3_countAgreeing 44 = .ok (.goto 4, 3) := by decide +kernel
theorem dX3_countAgreeing_47 : decode cX3_countAgreeing 47 = .ok (.iconst 0, 1) := by decide +kernel
theorem dX3_countAgreeing_48 : decode cX3_countAgreeing 48 = .ok (.iadd, 1) := by decide +kernel
theorem dX3_countAgreeing_49 : decode cX3_countAgreeing 49 = .ok (.istore_n 1, 1) := by decide +kernel
theorem dX3_countAgreeing_50 : decode cX3_countAgreeing 50 = .ok (.iinc 3 1, 3) := by decide +kernel
theorem dX3_countAgreeing_53 : decode cX3_countAgreeing 53 = .ok (.goto (-37), 3) := by decide +kernel
theorem dX3_countAgreeing_56 : decode cX3_countAgreeing 56 = .ok (.iinc 2 1, 3) := by decide +kernel
theorem dX3_countAgreeing_59 : decode cX3_countAgreeing 59 = .ok (.goto (-55), 3) := by decide +kernel
theorem dX3_countAgreeing_62 : decode cX3_countAgreeing 62 = .ok (.iload_n 1, 1) := by decide +kernel
theorem dX3_countAgreeing_63 : decode cX3_countAgreeing 63 = .ok (.ireturn, 1) := by decide +kernel
theorem dX3_firstApart_0 : decode cX3_firstApart 0 = .ok (.iconst 0, 1) := by decide +kernel
theorem dX3_firstApart_1 : decode cX3_firstApart 1 = .ok (.istore_n 1, 1) := by decide +kernel
theorem dX3_firstApart_2 : decode cX3_firstApart 2 = .ok (.iload_n 1, 1) := by decide +kernel
theorem dX3_firstApart_3 : decode cX3_firstApart 3 = .ok (.aload_n 0, 1) := by decide +kernel
theorem dX3_firstApart_4 : decode cX3_firstApart 4 = .ok (.getfield 29, 3) := by decide +kernel
theorem dX3_firstApart_7 : decode cX3_firstApart 7 = .ok (.if_icmp .ge 52, 3) := by decide +kernel
theorem dX3_firstApart_10 : decode cX3_firstApart 10 = .ok (.iload_n 1, 1) := by decide +kernel
theorem dX3_firstApart_11 : decode cX3_firstApart 11 = .ok (.iconst 1, 1) := by decide +kernel
theorem dX3_firstApart_12 : decode cX3_firstApart 12 = .ok (.iadd, 1) := by decide +kernel
theorem dX3_firstApart_13 : decode cX3_firstApart 13 = .ok (.istore_n 2, 1) := by decide +kernel
theorem dX3_firstApart_14 : decode cX3_firstApart 14 = .ok (.iload_n 2, 1) := by decide +kernel
theorem dX3_firstApart_15 : decode cX3_firstApart 15 = .ok (.aload_n 0, 1) := by decide +kernel
theorem dX3_firstApart_16 : decode cX3_firstApart 16 = .ok (.getfield 29, 3) := by decide +kernel
theorem dX3_firstApart_19 : decode cX3_firstApart 19 = .ok (.if_icmp .ge 34, 3) := by decide +kernel
theorem dX3_firstApart_22 : decode cX3_firstApart 22 = .ok (.aload_n 0, 1) := by decide +kernel
theorem dX3_firstApart_23 : decode cX3_firstApart 23 = .ok (.iload_n 1, 1) := by decide +kernel
theorem dX3_firstApart_24 : decode cX3_firstApart 24 = .ok (.iload_n 2, 1) := by decide +kernel
theorem dX3_firstApart_25 : decode cX3_firstApart 25 = .ok (.invokevirtual 80, 3) := by decide +kernel
theorem dX3_firstApart_28 : decode cX3_firstApart 28 = .ok (.ifCond .eq 19, 3) := by decide +kernel
theorem dX3_firstApart_31 : decode cX3_firstApart 31 = .ok (.aload_n 0, 1) := by decide +kernel
theorem dX3_firstApart_32 : decode cX3_firstApart 32 = .ok (.iload_n 1, 1) := by decide +kernel
theorem dX3_firstApart_33 : decode cX3_firstApart 33 = .ok (.iload_n 2, 1) := by decide +kernel
theorem dX3_firstApart_34 : decode cX3_firstApart 34 = .ok (.invokevirtual 83, 3) := by decide +kernel
theorem dX3_firstApart_37 : decode cX3_firstApart 37 = .ok (.ifCond .ne 10, 3) := by decide +kernel
theorem dX3_firstApart_40 : decode cX3_firstApart 40 = .ok (.bipush 10, 2) := by decide +kernel
theorem dX3_firstApart_42 : decode cX3_firstApart 42 = .ok (.iload_n 1, 1) := by decide +kernel
theorem dX3_firstApart_43 : decode cX3_firstApart 43 = .ok (.imul, 1) := by decide +kernel
theorem dX3_firstApart_44 : decode cX3_firstApart 44 = .ok (.iload_n 2, 1) := by decide +kernel
theorem dX3_firstApart_45 : decode cX3_firstApart 45 = .ok (.iadd, 1) := by decide +kernel
theorem dX3_firstApart_46 : decode cX3_firstApart 46 = .ok (.ireturn, 1) := by decide +kernel
theorem dX3_firstApart_47 : decode cX3_firstApart 47 = .ok (.iinc 2 1, 3) := by decide +kernel
theorem dX3_firstApart_50 : decode cX3_firstApart 50 = .ok (.goto (-36), 3) := by decide +kernel
theorem dX3_firstApart_53 : decode cX3_firstApart 53 = .ok (.iinc 1 1, 3) := by decide +kernel
theorem dX3_firstApart_56 : decode cX3_firstApart 56 = .ok (.goto (-54), 3) := by decide +kernel
theorem dX3_firstApart_59 : decode cX3_firstApart 59 = .ok (.bipush (-9), 2) := by decide +kernel
theorem dX3_firstApart_61 : decode cX3_firstApart 61 = .ok (.ireturn, 1) := by decide +kernel
theorem dX4_weigh_0 : decode cX4_weigh 0 = .ok (.iconst 1, 1) := by decide +kernel
theorem dX4_weigh_1 : decode cX4_weigh 1 = .ok (.istore_n 3, 1) := by decide +kernel
theorem dX4_weigh_2 : decode cX4_weigh 2 = .ok (.iload_n 3, 1) := by decide +kernel
theorem dX4_weigh_3 : decode cX4_weigh 3 = .ok (.bipush 8, 2) := by decide +kernel
theorem dX4_weigh_5 : decode cX4_weigh 5 = .ok (.if_icmp .gt 16, 3) := by decide +kernel
theorem dX4_weigh_8 : decode cX4_weigh 8 = .ok (.aload_n 0, 1) := by decide +kernel
theorem dX4_weigh_9 : decode cX4_weigh 9 = .ok (.getfield 9, 3) := by decide +kernel
theorem dX4_weigh_12 : decode cX4_weigh 12 = .ok (.iload_n 3, 1) := by decide +kernel
theorem dX4_weigh_13 : decode cX4_weigh 13 = .ok (.lconst 0, 1) := by decide +kernel
theorem dX4_weigh_14 : decode cX4_weigh 14 = .ok (.lastore, 1) := by decide +kernel
theorem dX4_weigh_15 : decode cX4_weigh 15 = .ok (.iinc 3 1, 3) := by decide +kernel
theorem dX4_weigh_18 : decode cX4_weigh 18 = .ok (.goto (-16), 3) := by decide +kernel
theorem dX4_weigh_21 : decode cX4_weigh 21 = .ok (.aload_n 0, 1) := by decide +kernel
theorem dX4_weigh_22 : decode cX4_weigh 22 = .ok (.getfield 9, 3) := by decide +kernel
theorem dX4_weigh_25 : decode cX4_weigh 25 = .ok (.iconst 0, 1) := by decide +kernel
theorem dX4_weigh_26 : decode cX4_weigh 26 = .ok (.lconst 1, 1) := by decide +kernel
theorem dX4_weigh_27 : decode cX4_weigh 27 = .ok (.lastore, 1) := by decide +kernel
theorem dX4_weigh_28 : decode cX4_weigh 28 = .ok (.iconst 0, 1) := by decide +kernel
theorem dX4_weigh_29 : decode cX4_weigh 29 = .ok (.istore_n 3, 1) := by decide +kernel
theorem dX4_weigh_30 : decode cX4_weigh 30 = .ok (.iload_n 3, 1) := by decide +kernel
theorem dX4_weigh_31 : decode cX4_weigh 31 = .ok (.iload_n 1, 1) := by decide +kernel
theorem dX4_weigh_32 : decode cX4_weigh 32 = .ok (.if_icmp .ge 48, 3) := by decide +kernel
theorem dX4_weigh_35 : decode cX4_weigh 35 = .ok (.bipush 8, 2) := by decide +kernel
theorem dX4_weigh_37 : decode cX4_weigh 37 = .ok (.istore 4, 2) := by decide +kernel
theorem dX4_weigh_39 : decode cX4_weigh 39 = .ok (.iload 4, 2) := by decide +kernel
theorem dX4_weigh_41 : decode cX4_weigh 41 = .ok (.ifCond .le 33, 3) := by decide +kernel
theorem dX4_weigh_44 : decode cX4_weigh 44 = .ok (.aload_n 0, 1) := by decide +kernel
theorem dX4_weigh_45 : decode cX4_weigh 45 = .ok (.getfield 9, 3) := by decide +kernel
theorem dX4_weigh_48 : decode cX4_weigh 48 = .ok (.iload 4, 2) := by decide +kernel
theorem dX4_weigh_50 : decode cX4_weigh 50 = .ok (.dup2, 1) := by decide +kernel
theorem dX4_weigh_51 : decode cX4_weigh 51 = .ok (.laload, 1) := by decide +kernel
theorem dX4_weigh_52 : decode cX4_weigh 52 = .ok (.aload_n 0, 1) := by decide +kernel
theorem dX4_weigh_53 : decode cX4_weigh 53 = .ok (.getfield 9, 3) := by decide +kernel
theorem dX4_weigh_56 : decode cX4_weigh 56 = .ok (.iload 4, 2) := by decide +kernel
theorem dX4_weigh_58 : decode cX4_weigh 58 = .ok (.iconst 1, 1) := by decide +kernel
theorem dX4_weigh_59 : decode cX4_weigh 59 = .ok (.isub, 1) := by decide +kernel
theorem dX4_weigh_60 : decode cX4_weigh 60 = .ok (.laload, 1) := by decide +kernel
theorem dX4_weigh_61 : decode cX4_weigh 61 = .ok (.iload_n 2, 1) := by decide +kernel
theorem dX4_weigh_62 : decode cX4_weigh 62 = .ok (.iconst 1, 1) := by decide +kernel
theorem dX4_weigh_63 : decode cX4_weigh 63 = .ok (.isub, 1) := by decide +kernel
theorem dX4_weigh_64 : decode cX4_weigh 64 = .ok (.i2l, 1) := by decide +kernel
theorem dX4_weigh_65 : decode cX4_weigh 65 = .ok (.lmul, 1) := by decide +kernel
theorem dX4_weigh_66 : decode cX4_weigh 66 = .ok (.ladd, 1) := by decide +kernel
theorem dX4_weigh_67 : decode cX4_weigh 67 = .ok (.lastore, 1) := by decide +kernel
theorem dX4_weigh_68 : decode cX4_weigh 68 = .ok (.iinc 4 (-1), 3) := by decide +kernel
theorem dX4_weigh_71 : decode cX4_weigh 71 = .ok (.goto (-32), 3) := by decide +kernel
theorem dX4_weigh_74 : decode cX4_weigh 74 = .ok (.iinc 3 1, 3) := by decide +kernel
theorem dX4_weigh_77 : decode cX4_weigh 77 = .ok (.goto (-47), 3) := by decide +kernel
theorem dX4_weigh_80 : decode cX4_weigh 80 = .ok (.return_, 1) := by decide +kernel
theorem dX4_allWays_0 : decode cX4_allWays 0 = .ok (.lconst 0, 1) := by decide +kernel
theorem dX4_allWays_1 : decode cX4_allWays 1 = .ok (.lstore_n 1, 1) := by decide +kernel
theorem dX4_allWays_2 : decode cX4_allWays 2 = .ok (.iconst 0, 1) := by decide +kernel
theorem dX4_allWays_3 : decode cX4_allWays 3 = .ok (.istore_n 3, 1) := by decide +kernel
theorem dX4_allWays_4 : decode cX4_allWays 4 = .ok (.iload_n 3, 1) := by decide +kernel
theorem dX4_allWays_5 : decode cX4_allWays 5 = .ok (.bipush 8, 2) := by decide +kernel
theorem dX4_allWays_7 : decode cX4_allWays 7 = .ok (.if_icmp .gt 18, 3) := by decide +kernel
theorem dX4_allWays_10 : decode cX4_allWays 10 = .ok (.lload_n 1, 1) := by decide +kernel
theorem dX4_allWays_11 : decode cX4_allWays 11 = .ok (.aload_n 0, 1) := by decide +kernel
theorem dX4_allWays_12 : decode cX4_allWays 12 = .ok (.getfield 9, 3) := by decide +kernel
theorem dX4_allWays_15 : decode cX4_allWays 15 = .ok (.iload_n 3, 1) := by decide +kernel
theorem dX4_allWays_16 : decode cX4_allWays 16 = .ok (.laload, 1) := by decide +kernel
theorem dX4_allWays_17 : decode cX4_allWays 17 = .ok (.ladd, 1) := by decide +kernel
theorem dX4_allWays_18 : decode cX4_allWays 18 = .ok (.lstore_n 1, 1) := by decide +kernel
theorem dX4_allWays_19 : decode cX4_allWays 19 = .ok (.iinc 3 1, 3) := by decide +kernel
theorem dX4_allWays_22 : decode cX4_allWays 22 = .ok (.goto (-18), 3) := by decide +kernel
theorem dX4_allWays_25 : decode cX4_allWays 25 = .ok (.lload_n 1, 1) := by decide +kernel
theorem dX4_allWays_26 : decode cX4_allWays 26 = .ok (.lreturn, 1) := by decide +kernel
theorem dX4_waysInto_0 : decode cX4_waysInto 0 = .ok (.lconst 0, 1) := by decide +kernel
theorem dX4_waysInto_1 : decode cX4_waysInto 1 = .ok (.lstore 4, 2) := by decide +kernel
theorem dX4_waysInto_3 : decode cX4_waysInto 3 = .ok (.iconst 0, 1) := by decide +kernel
theorem dX4_waysInto_4 : decode cX4_waysInto 4 = .ok (.istore 6, 2) := by decide +kernel
theorem dX4_waysInto_6 : decode cX4_waysInto 6 = .ok (.iload 6, 2) := by decide +kernel
theorem dX4_waysInto_8 : decode cX4_waysInto 8 = .ok (.bipush 8, 2) := by decide +kernel
theorem dX4_waysInto_10 : decode cX4_waysInto 10 = .ok (.if_icmp .gt 39, 3) := by decide +kernel
theorem dX4_waysInto_13 : decode cX4_waysInto 13 = .ok (.lload 4, 2) := by decide +kernel
theorem dX4_waysInto_15 : decode cX4_waysInto 15 = .ok (.aload_n 1, 1) := by decide +kernel
theorem dX4_waysInto_16 : decode cX4_waysInto 16 = .ok (.iload 6, 2) := by decide +kernel
theorem dX4_waysInto_18 : decode cX4_waysInto 18 = .ok (.iconst 5, 1) := by decide +kernel
theorem dX4_waysInto_19 : decode cX4_waysInto 19 = .ok (.imul, 1) := by decide +kernel
theorem dX4_waysInto_20 : decode cX4_waysInto 20 = .ok (.iconst 0, 1) := by decide +kernel
theorem dX4_waysInto_21 : decode cX4_waysInto 21 = .ok (.iload_n 3, 1) := by decide +kernel
theorem dX4_waysInto_22 : decode cX4_waysInto 22 = .ok (.invokevirtual 15, 3) := by decide +kernel
theorem dX4_waysInto_25 : decode cX4_waysInto 25 = .ok (.iload_n 2, 1) := by decide +kernel
theorem dX4_waysInto_26 : decode cX4_waysInto 26 = .ok (.if_icmp .ne 13, 3) := by decide +kernel
theorem dX4_waysInto_29 : decode cX4_waysInto 29 = .ok (.aload_n 0, 1) := by decide +kernel
theorem dX4_waysInto_30 : decode cX4_waysInto 30 = .ok (.getfield 9, 3) := by decide +kernel
theorem dX4_waysInto_33 : decode cX4_waysInto 33 = .ok (.iload 6, 2) := by decide +kernel
theorem dX4_waysInto_35 : decode cX4_waysInto 35 = .ok (.laload, 1) := by decide +kernel
theorem dX4_waysInto_36 : decode cX4_waysInto 36 = .ok (.goto 4, 3) := by decide +kernel
theorem dX4_waysInto_39 : decode cX4_waysInto 39 = .ok (.lconst 0, 1) := by decide +kernel
theorem dX4_waysInto_40 : decode cX4_waysInto 40 = .ok (.ladd, 1) := by decide +kernel
theorem dX4_waysInto_41 : decode cX4_waysInto 41 = .ok (.lstore 4, 2) := by decide +kernel
theorem dX4_waysInto_43 : decode cX4_waysInto 43 = .ok (.iinc 6 1, 3) := by decide +kernel
theorem dX4_waysInto_46 : decode cX4_waysInto 46 = .ok (.goto (-40), 3) := by decide +kernel
theorem dX4_waysInto_49 : decode cX4_waysInto 49 = .ok (.lload 4, 2) := by decide +kernel
theorem dX4_waysInto_51 : decode cX4_waysInto 51 = .ok (.lreturn, 1) := by decide +kernel
theorem dX4_gladOfAll_0 : decode cX4_gladOfAll 0 = .ok (.lconst 0, 1) := by decide +kernel
theorem dX4_gladOfAll_1 : decode cX4_gladOfAll 1 = .ok (.lstore_n 3, 1) := by decide +kernel
theorem dX4_gladOfAll_2 : decode cX4_gladOfAll 2 = .ok (.iconst 0, 1) := by decide +kernel
theorem dX4_gladOfAll_3 : decode cX4_gladOfAll 3 = .ok (.istore 5, 2) := by decide +kernel
theorem dX4_gladOfAll_5 : decode cX4_gladOfAll 5 = .ok (.iload 5, 2) := by decide +kernel
theorem dX4_gladOfAll_7 : decode cX4_gladOfAll 7 = .ok (.bipush 8, 2) := by decide +kernel
theorem dX4_gladOfAll_9 : decode cX4_gladOfAll 9 = .ok (.if_icmp .gt 35, 3) := by decide +kernel
theorem dX4_gladOfAll_12 : decode cX4_gladOfAll 12 = .ok (.lload_n 3, 1) := by decide +kernel
theorem dX4_gladOfAll_13 : decode cX4_gladOfAll 13 = .ok (.aload_n 0, 1) := by decide +kernel
theorem dX4_gladOfAll_14 : decode cX4_gladOfAll 14 = .ok (.getfield 9, 3) := by decide +kernel
theorem dX4_gladOfAll_17 : decode cX4_gladOfAll 17 = .ok (.iload 5, 2) := by decide +kernel
theorem dX4_gladOfAll_19 : decode cX4_gladOfAll 19 = .ok (.laload, 1) := by decide +kernel
theorem dX4_gladOfAll_20 : decode cX4_gladOfAll 20 = .ok (.aload_n 1, 1) := by decide +kernel
theorem dX4_gladOfAll_21 : decode cX4_gladOfAll 21 = .ok (.aload_n 1, 1) := by decide +kernel
theorem dX4_gladOfAll_22 : decode cX4_gladOfAll 22 = .ok (.iload 5, 2) := by decide +kernel
theorem dX4_gladOfAll_24 : decode cX4_gladOfAll 24 = .ok (.iconst 5, 1) := by decide +kernel
theorem dX4_gladOfAll_25 : decode cX4_gladOfAll 25 = .ok (.imul, 1) := by decide +kernel
theorem dX4_gladOfAll_26 : decode cX4_gladOfAll 26 = .ok (.iconst 0, 1) := by decide +kernel
theorem dX4_gladOfAll_27 : decode cX4_gladOfAll 27 = .ok (.iload_n 2, 1) := by decide +kernel
theorem dX4_gladOfAll_28 : decode cX4_gladOfAll 28 = .ok (.invokevirtual 15, 3) := by decide +kernel
theorem dX4_gladOfAll_31 : decode cX4_gladOfAll 31 = .ok (.invokevirtual 21, 3) := by decide +kernel
theorem dX4_gladOfAll_34 : decode cX4_gladOfAll 34 = .ok (.i2l, 1) := by decide +kernel
theorem dX4_gladOfAll_35 : decode cX4_gladOfAll 35 = .ok (.lmul, 1) := by decide +kernel
theorem dX4_gladOfAll_36 : decode cX4_gladOfAll 36 = .ok (.ladd, 1) := by decide +kernel
theorem dX4_gladOfAll_37 : decode cX4_gladOfAll 37 = .ok (.lstore_n 3, 1) := by decide +kernel
theorem dX4_gladOfAll_38 : decode cX4_gladOfAll 38 = .ok (.iinc 5 1, 3) := by decide +kernel
theorem dX4_gladOfAll_41 : decode cX4_gladOfAll 41 = .ok (.goto (-36), 3) := by decide +kernel
theorem dX4_gladOfAll_44 : decode cX4_gladOfAll 44 = .ok (.lload_n 3, 1) := by decide +kernel
theorem dX4_gladOfAll_45 : decode cX4_gladOfAll 45 = .ok (.lreturn, 1) := by decide +kernel
theorem dX5_isFull_0 : decode cX5_isFull 0 = .ok (.aload_n 0, 1) := by decide +kernel
theorem dX5_isFull_1 : decode cX5_isFull 1 = .ok (.getfield 15, 3) := by decide +kernel
theorem dX5_isFull_4 : decode cX5_isFull 4 = .ok (.bipush 96, 2) := by decide +kernel
theorem dX5_isFull_6 : decode cX5_isFull 6 = .ok (.if_icmp .lt 7, 3) := by decide +kernel
theorem dX5_isFull_9 : decode cX5_isFull 9 = .ok (.iconst 1, 1) := by decide +kernel
theorem dX5_isFull_10 : decode cX5_isFull 10 = .ok (.goto 4, 3) := by decide +kernel
theorem dX5_isFull_13 : decode cX5_isFull 13 = .ok (.iconst 0, 1) := by decide +kernel
theorem dX5_isFull_14 : decode cX5_isFull 14 = .ok (.ireturn, 1) := by decide +kernel
theorem dX5_put_0 : decode cX5_put 0 = .ok (.aload_n 0, 1) := by decide +kernel
theorem dX5_put_1 : decode cX5_put 1 = .ok (.invokevirtual 19, 3) := by decide +kernel
theorem dX5_put_4 : decode cX5_put 4 = .ok (.ifCond .ne 23, 3) := by decide +kernel
theorem dX5_put_7 : decode cX5_put 7 = .ok (.aload_n 0, 1) := by decide +kernel
theorem dX5_put_8 : decode cX5_put 8 = .ok (.getfield 9, 3) := by decide +kernel
theorem dX5_put_11 : decode cX5_put 11 = .ok (.aload_n 0, 1) := by decide +kernel
theorem dX5_put_12 : decode cX5_put 12 = .ok (.getfield 15, 3) := by decide +kernel
theorem dX5_put_15 : decode cX5_put 15 = .ok (.iload_n 1, 1) := by decide +kernel
theorem dX5_put_16 : decode cX5_put 16 = .ok (.iastore, 1) := by decide +kernel
theorem dX5_put_17 : decode cX5_put 17 = .ok (.aload_n 0, 1) := by decide +kernel
theorem dX5_put_18 : decode cX5_put 18 = .ok (.dup, 1) := by decide +kernel
theorem dX5_put_19 : decode cX5_put 19 = .ok (.getfield 15, 3) := by decide +kernel
theorem dX5_put_22 : decode cX5_put 22 = .ok (.iconst 1, 1) := by decide +kernel
theorem dX5_put_23 : decode cX5_put 23 = .ok (.iadd, 1) := by decide +kernel
theorem dX5_put_24 : decode cX5_put 24 = .ok (.putfield 15, 3) := by decide +kernel
theorem dX5_put_27 : decode cX5_put 27 = .ok (.return_, 1) := by decide +kernel
theorem dX5_letterAt_0 : decode cX5_letterAt 0 = .ok (.iload_n 1, 1) := by decide +kernel
theorem dX5_letterAt_1 : decode cX5_letterAt 1 = .ok (.ifCond .lt 17, 3) := by decide +kernel
theorem dX5_letterAt_4 : decode cX5_letterAt 4 = .ok (.iload_n 1, 1) := by decide +kernel
theorem dX5_letterAt_5 : decode cX5_letterAt 5 = .ok (.aload_n 0, 1) := by decide +kernel
theorem dX5_letterAt_6 : decode cX5_letterAt 6 = .ok (.getfield 15, 3) := by decide +kernel
theorem dX5_letterAt_9 : decode cX5_letterAt 9 = .ok (.if_icmp .ge 9, 3) := by decide +kernel
theorem dX5_letterAt_12 : decode cX5_letterAt 12 = .ok (.iload_n 1, 1) := by decide +kernel
theorem dX5_letterAt_13 : decode cX5_letterAt 13 = .ok (.bipush 96, 2) := by decide +kernel
theorem dX5_letterAt_15 : decode cX5_letterAt 15 = .ok (.if_icmp .lt 7, 3) := by decide +kernel
theorem dX5_letterAt_18 : decode cX5_letterAt 18 = .ok (.iconst (-1), 1) := by decide +kernel
theorem dX5_letterAt_19 : decode cX5_letterAt 19 = .ok (.goto 9, 3) := by decide +kernel
theorem dX5_letterAt_22 : decode cX5_letterAt 22 = .ok (.aload_n 0, 1) := by decide +kernel
theorem dX5_letterAt_23 : decode cX5_letterAt 23 = .ok (.getfield 9, 3) := by decide +kernel
theorem dX5_letterAt_26 : decode cX5_letterAt 26 = .ok (.iload_n 1, 1) := by decide +kernel
theorem dX5_letterAt_27 : decode cX5_letterAt 27 = .ok (.iaload, 1) := by decide +kernel
theorem dX5_letterAt_28 : decode cX5_letterAt 28 = .ok (.ireturn, 1) := by decide +kernel
theorem dX5_isDigit_0 : decode cX5_isDigit 0 = .ok (.aload_n 0, 1) := by decide +kernel
theorem dX5_isDigit_1 : decode cX5_isDigit 1 = .ok (.iload_n 1, 1) := by decide +kernel
theorem dX5_isDigit_2 : decode cX5_isDigit 2 = .ok (.invokevirtual 23, 3) := by decide +kernel
theorem dX5_isDigit_5 : decode cX5_isDigit 5 = .ok (.bipush 48, 2) := by decide +kernel
theorem dX5_isDigit_7 : decode cX5_isDigit 7 = .ok (.if_icmp .lt 17, 3) := by decide +kernel
theorem dX5_isDigit_10 : decode cX5_isDigit 10 = .ok (.aload_n 0, 1) := by decide +kernel
theorem dX5_isDigit_11 : decode cX5_isDigit 11 = .ok (.iload_n 1, 1) := by decide +kernel
theorem dX5_isDigit_12 : decode cX5_isDigit 12 = .ok (.invokevirtual 23, 3) := by decide +kernel
theorem dX5_isDigit_15 : decode cX5_isDigit 15 = .ok (.bipush 57, 2) := by decide +kernel
theorem dX5_isDigit_17 : decode cX5_isDigit 17 = .ok (.if_icmp .gt 7, 3) := by decide +kernel
theorem dX5_isDigit_20 : decode cX5_isDigit 20 = .ok (.iconst 1, 1) := by decide +kernel
theorem dX5_isDigit_21 : decode cX5_isDigit 21 = .ok (.goto 4, 3) := by decide +kernel
theorem dX5_isDigit_24 : decode cX5_isDigit 24 = .ok (.iconst 0, 1) := by decide +kernel
theorem dX5_isDigit_25 : decode cX5_isDigit 25 = .ok (.ireturn, 1) := by decide +kernel
theorem dX5_kindAt_0 : decode cX5_kindAt 0 = .ok (.aload_n 0, 1) := by decide +kernel
theorem dX5_kindAt_1 : decode cX5_kindAt 1 = .ok (.iload_n 1, 1) := by decide +kernel
theorem dX5_kindAt_2 : decode cX5_kindAt 2 = .ok (.invokevirtual 23, 3) := by decide +kernel
theorem dX5_kindAt_5 : decode cX5_kindAt 5 = .ok (.istore_n 2, 1) := by decide +kernel
theorem dX5_kindAt_6 : decode cX5_kindAt 6 = .ok (.iload_n 2, 1) := by decide +kernel
theorem dX5_kindAt_7 : decode cX5_kindAt 7 = .ok (.ifCond .ge 8, 3) := by decide +kernel
theorem dX5_kindAt_10 : decode cX5_kindAt 10 = .ok (.bipush (-9), 2) := by decide +kernel
theorem dX5_kindAt_12 : decode cX5_kindAt 12 = .ok (.goto 10, 3) := by decide +kernel
theorem dX5_kindAt_15 : decode cX5_kindAt 15 = .ok (.ldc 27, 2) := by decide +kernel
theorem dX5_kindAt_17 : decode cX5_kindAt 17 = .ok (.iload_n 2, 1) := by decide +kernel
theorem dX5_kindAt_18 : decode cX5_kindAt 18 = .ok (.i2c, 1) := by decide +kernel
theorem dX5_kindAt_19 : decode cX5_kindAt 19 = .ok (.invokevirtual 29, 3) := by decide +kernel
theorem dX5_kindAt_22 : decode cX5_kindAt 22 = .ok (.ireturn, 1) := by decide +kernel
theorem dX5_number_0 : decode cX5_number 0 = .ok (.iconst 0, 1) := by decide +kernel
theorem dX5_number_1 : decode cX5_number 1 = .ok (.istore_n 3, 1) := by decide +kernel
theorem dX5_number_2 : decode cX5_number 2 = .ok (.iconst 0, 1) := by decide +kernel
theorem dX5_number_3 : decode cX5_number 3 = .ok (.istore 4, 2) := by decide +kernel
theorem dX5_number_5 : decode cX5_number 5 = .ok (.iload 4, 2) := by decide +kernel
theorem dX5_number_7 : decode cX5_number 7 = .ok (.iload_n 2, 1) := by decide +kernel
theorem dX5_number_8 : decode cX5_number 8 = .ok (.if_icmp .ge 26, 3) := by decide +kernel
theorem dX5_number_11 : decode cX5_number 11 = .ok (.bipush 10, 2) := by decide +kernel
theorem dX5_number_13 : decode cX5_number 13 = .ok (.iload_n 3, 1) := by decide +kernel
theorem dX5_number_14 : decode cX5_number 14 = .ok (.imul, 1) := by decide +kernel
theorem dX5_number_15 : decode cX5_number 15 = .ok (.aload_n 0, 1) := by decide +kernel
theorem dX5_number_16 : decode cX5_number 16 = .ok (.iload_n 1, 1) := by decide +kernel
theorem dX5_number_17 : decode cX5_number 17 = .ok (.iload 4, 2) := by decide +kernel
theorem dX5_number_19 : decode cX5_number 19 = .ok (.iadd, 1) := by decide +kernel
theorem dX5_number_20 : decode cX5_number 20 = .ok (.invokevirtual 23, 3) := by decide +kernel
theorem dX5_number_23 : decode cX5_number 23 = .ok (.iadd, 1) := by decide +kernel
theorem dX5_number_24 : decode cX5_number 24 = .ok (.bipush 48, 2) := by decide +kernel
theorem dX5_number_26 : decode cX5_number 26 = .ok (.isub, 1) := by decide +kernel
theorem dX5_number_27 : decode cX5_number 27 = .ok (.istore_n 3, 1) := by decide +kernel
theorem dX5_number_28 : decode cX5_number 28 = .ok (.iinc 4 1, 3) := by decide +kernel
theorem dX5_number_31 : decode cX5_number 31 = .ok (.goto (-26), 3) := by decide +kernel
theorem dX5_number_34 : decode cX5_number 34 = .ok (.iload_n 3, 1) := by decide +kernel
theorem dX5_number_35 : decode cX5_number 35 = .ok (.ireturn, 1) := by decide +kernel
theorem dX5_partsOf_0 : decode cX5_partsOf 0 = .ok (.aload_n 0, 1) := by decide +kernel
theorem dX5_partsOf_1 : decode cX5_partsOf 1 = .ok (.iload_n 1, 1) := by decide +kernel
theorem dX5_partsOf_2 : decode cX5_partsOf 2 = .ok (.invokevirtual 23, 3) := by decide +kernel
theorem dX5_partsOf_5 : decode cX5_partsOf 5 = .ok (.tableswitch 112 100 121 #[103, 112, 112, 107, 103, 112, 112, 112, 112, 112, 112, 112, 112, 112, 112, 105, 103, 112, 109, 112, 112, 103], 103) := by decide +kernel
theorem dX5_partsOf_108 : decode cX5_partsOf 108 = .ok (.iconst 2, 1) := by decide +kernel
theorem dX5_partsOf_109 : decode cX5_partsOf 109 = .ok (.ireturn, 1) := by decide +kernel
theorem dX5_partsOf_110 : decode cX5_partsOf 110 = .ok (.iconst 4, 1) := by decide +kernel
theorem dX5_partsOf_111 : decode cX5_partsOf 111 = .ok (.ireturn, 1) := by decide +kernel
theorem dX5_partsOf_112 : decode cX5_partsOf 112 = .ok (.iconst 5, 1) := by decide +kernel
theorem dX5_partsOf_113 : decode cX5_partsOf 113 = .ok (.ireturn, 1) := by decide +kernel
theorem dX5_partsOf_114 : decode cX5_partsOf 114 = .ok (.bipush 7, 2) := by decide +kernel
theorem dX5_partsOf_116 : decode cX5_partsOf 116 = .ok (.ireturn, 1) := by decide +kernel
theorem dX5_partsOf_117 : decode cX5_partsOf 117 = .ok (.iconst 0, 1) := by decide +kernel
theorem dX5_partsOf_118 : decode cX5_partsOf 118 = .ok (.ireturn, 1) := by decide +kernel
theorem dX5_behindStatement_0 : decode cX5_behindStatement 0 = .ok (.iload_n 1, 1) := by decide +kernel
theorem dX5_behindStatement_1 : decode cX5_behindStatement 1 = .ok (.aload_n 0, 1) := by decide +kernel
theorem dX5_behindStatement_2 : decode cX5_behindStatement 2 = .ok (.iload_n 1, 1) := by decide +kernel
theorem dX5_behindStatement_3 : decode cX5_behindStatement 3 = .ok (.invokevirtual 34, 3) := by decide +kernel
theorem dX5_behindStatement_6 : decode cX5_behindStatement 6 = .ok (.iadd, 1) := by decide +kernel
theorem dX5_behindStatement_7 : decode cX5_behindStatement 7 = .ok (.iconst 2, 1) := by decide +kernel
theorem dX5_behindStatement_8 : decode cX5_behindStatement 8 = .ok (.iadd, 1) := by decide +kernel
theorem dX5_behindStatement_9 : decode cX5_behindStatement 9 = .ok (.ireturn, 1) := by decide +kernel
theorem dX5_misfitOfStatement_0 : decode cX5_misfitOfStatement 0 = .ok (.aload_n 0, 1) := by decide +kernel
theorem dX5_misfitOfStatement_1 : decode cX5_misfitOfStatement 1 = .ok (.iload_n 1, 1) := by decide +kernel
theorem dX5_misfitOfStatement_2 : decode cX5_misfitOfStatement 2 = .ok (.invokevirtual 34, 3) := by decide +kernel
theorem dX5_misfitOfStatement_5 : decode cX5_misfitOfStatement 5 = .ok (.istore_n 2, 1) := by decide +kernel
theorem dX5_misfitOfStatement_6 : decode cX5_misfitOfStatement 6 = .ok (.iload_n 2, 1) := by decide +kernel
theorem dX5_misfitOfStatement_7 : decode cX5_misfitOfStatement 7 = .ok (.ifCond .ne 5, 3) := by decide +kernel
theorem dX5_misfitOfStatement_10 : decode cX5_misfitOfStatement 10 = .ok (.iload_n 1, 1) := by decide +kernel
theorem dX5_misfitOfStatement_11 : decode cX5_misfitOfStatement 11 = .ok (.ireturn, 1) := by decide +kernel
theorem dX5_misfitOfStatement_12 : decode cX5_misfitOfStatement 12 = .ok (.iload_n 1, 1) := by decide +kernel
theorem dX5_misfitOfStatement_13 : decode cX5_misfitOfStatement 13 = .ok (.iconst 1, 1) := by decide +kernel
theorem dX5_misfitOfStatement_14 : decode cX5_misfitOfStatement 14 = .ok (.iadd, 1) := by decide +kernel
theorem dX5_misfitOfStatement_15 : decode cX5_misfitOfStatement 15 = .ok (.istore_n 3, 1) := by decide +kernel
theorem dX5_misfitOfStatement_16 : decode cX5_misfitOfStatement 16 = .ok (.aload_n 0, 1) := by decide +kernel
theorem dX5_misfitOfStatement_17 : decode cX5_misfitOfStatement 17 = .ok (.iload_n 1, 1) := by decide +kernel
theorem dX5_misfitOfStatement_18 : decode cX5_misfitOfStatement 18 = .ok (.invokevirtual 23, 3) := by decide +kernel
theorem dX5_misfitOfStatement_21 : decode cX5_misfitOfStatement 21 = .ok (.bipush 116, 2) := by decide +kernel
theorem dX5_misfitOfStatement_23 : decode cX5_misfitOfStatement 23 = .ok (.if_icmp .ne 16, 3) := by decide +kernel
theorem dX5_misfitOfStatement_26 : decode cX5_misfitOfStatement 26 = .ok (.aload_n 0, 1) := by decide +kernel
theorem dX5_misfitOfStatement_27 : decode cX5_misfitOfStatement 27 = .ok (.iload_n 3, 1) := by decide +kernel
theorem dX5_misfitOfStatement_28 : decode cX5_misfitOfStatement 28 = .ok (.invokevirtual 43, 3) := by decide +kernel
theorem dX5_misfitOfStatement_31 : decode cX5_misfitOfStatement 31 = .ok (.ifCond .ge 5, 3) := by decide +kernel
theorem dX5_misfitOfStatement_34 : decode cX5_misfitOfStatement 34 = .ok (.iload_n 3, 1) := by decide +kernel
theorem dX5_misfitOfStatement_35 : decode cX5_misfitOfStatement 35 = .ok (.ireturn, 1) := by decide +kernel
theorem dX5_misfitOfStatement_36 : decode cX5_misfitOfStatement 36 = .ok (.iinc 3 1, 3) := by decide +kernel
theorem dX5_misfitOfStatement_39 : decode cX5_misfitOfStatement 39 = .ok (.iload_n 3, 1) := by decide +kernel
theorem dX5_misfitOfStatement_40 : decode cX5_misfitOfStatement 40 = .ok (.iload_n 1, 1) := by decide +kernel
theorem dX5_misfitOfStatement_41 : decode cX5_misfitOfStatement 41 = .ok (.iload_n 2, 1) := by decide +kernel
theorem dX5_misfitOfStatement_42 : decode cX5_misfitOfStatement 42 = .ok (.iadd, 1) := by decide +kernel
theorem dX5_misfitOfStatement_43 : decode cX5_misfitOfStatement 43 = .ok (.if_icmp .gt 19, 3) := by decide +kernel
theorem dX5_misfitOfStatement_46 : decode cX5_misfitOfStatement 46 = .ok (.aload_n 0, 1) := by decide +kernel
theorem dX5_misfitOfStatement_47 : decode cX5_misfitOfStatement 47 = .ok (.iload_n 3, 1) := by decide +kernel
theorem dX5_misfitOfStatement_48 : decode cX5_misfitOfStatement 48 = .ok (.invokevirtual 46, 3) := by decide +kernel
theorem dX5_misfitOfStatement_51 : decode cX5_misfitOfStatement 51 = .ok (.ifCond .ne 5, 3) := by decide +kernel
theorem dX5_misfitOfStatement_54 : decode cX5_misfitOfStatement 54 = .ok (.iload_n 3, 1) := by decide +kernel
theorem dX5_misfitOfStatement_55 : decode cX5_misfitOfStatement 55 = .ok (.ireturn, 1) := by decide +kernel
theorem dX5_misfitOfStatement_56 : decode cX5_misfitOfStatement 56 = .ok (.iinc 3 1, 3) := by decide +kernel
theorem dX5_misfitOfStatement_59 : decode cX5_misfitOfStatement 59 = .ok (.goto (-20), 3) := by decide +kernel
theorem dX5_misfitOfStatement_62 : decode cX5_misfitOfStatement 62 = .ok (.aload_n 0, 1) := by decide +kernel
theorem dX5_misfitOfStatement_63 : decode cX5_misfitOfStatement 63 = .ok (.iload_n 3, 1) := by decide +kernel
theorem dX5_misfitOfStatement_64 : decode cX5_misfitOfStatement 64 = .ok (.invokevirtual 23, 3) := by decide +kernel
theorem dX5_misfitOfStatement_67 : decode cX5_misfitOfStatement 67 = .ok (.bipush 59, 2) := by decide +kernel
theorem dX5_misfitOfStatement_69 : decode cX5_misfitOfStatement 69 = .ok (.if_icmp .ne 8, 3) := by decide +kernel
theorem dX5_misfitOfStatement_72 : decode cX5_misfitOfStatement 72 = .ok (.bipush (-9), 2) := by decide +kernel
theorem dX5_misfitOfStatement_74 : decode cX5_misfitOfStatement 74 = .ok (.goto 4, 3) := by decide +kernel
theorem dX5_misfitOfStatement_77 : decode cX5_misfitOfStatement 77 = .ok (.iload_n 3, 1) := by decide +kernel
theorem dX5_misfitOfStatement_78 : decode cX5_misfitOfStatement 78 = .ok (.ireturn, 1) := by decide +kernel
theorem dX5_firstMisfit_0 : decode cX5_firstMisfit 0 = .ok (.aload_n 0, 1) := by decide +kernel
theorem dX5_firstMisfit_1 : decode cX5_firstMisfit 1 = .ok (.getfield 15, 3) := by decide +kernel
theorem dX5_firstMisfit_4 : decode cX5_firstMisfit 4 = .ok (.ifCond .ne 5, 3) := by decide +kernel
theorem dX5_firstMisfit_7 : decode cX5_firstMisfit 7 = .ok (.iconst 0, 1) := by decide +kernel
theorem dX5_firstMisfit_8 : decode cX5_firstMisfit 8 = .ok (.ireturn, 1) := by decide +kernel
theorem dX5_firstMisfit_9 : decode cX5_firstMisfit 9 = .ok (.iconst 0, 1) := by decide +kernel
theorem dX5_firstMisfit_10 : decode cX5_firstMisfit 10 = .ok (.istore_n 1, 1) := by decide +kernel
theorem dX5_firstMisfit_11 : decode cX5_firstMisfit 11 = .ok (.iconst 0, 1) := by decide +kernel
theorem dX5_firstMisfit_12 : decode cX5_firstMisfit 12 = .ok (.istore_n 2, 1) := by decide +kernel
theorem dX5_firstMisfit_13 : decode cX5_firstMisfit 13 = .ok (.iload_n 2, 1) := by decide +kernel
theorem dX5_firstMisfit_14 : decode cX5_firstMisfit 14 = .ok (.bipush 96, 2) := by decide +kernel
theorem dX5_firstMisfit_16 : decode cX5_firstMisfit 16 = .ok (.if_icmp .ge 37, 3) := by decide +kernel
theorem dX5_firstMisfit_19 : decode cX5_firstMisfit 19 = .ok (.iload_n 1, 1) := by decide +kernel
theorem dX5_firstMisfit_20 : decode cX5_firstMisfit 20 = .ok (.aload_n 0, 1) := by decide +kernel
theorem dX5_firstMisfit_21 : decode cX5_firstMisfit 21 = .ok (.getfield 15, 3) := by decide +kernel
theorem dX5_firstMisfit_24 : decode cX5_firstMisfit 24 = .ok (.if_icmp .ge 29, 3) := by decide +kernel
theorem dX5_firstMisfit_27 : decode cX5_firstMisfit 27 = .ok (.aload_n 0, 1) := by decide +kernel
theorem dX5_firstMisfit_28 : decode cX5_firstMisfit 28 = .ok (.iload_n 1, 1) := by decide +kernel
theorem dX5_firstMisfit_29 : decode cX5_firstMisfit 29 = .ok (.invokevirtual 37, 3) := by decide +kernel
theorem dX5_firstMisfit_32 : decode cX5_firstMisfit 32 = .ok (.istore_n 3, 1) := by decide +kernel
theorem dX5_firstMisfit_33 : decode cX5_firstMisfit 33 = .ok (.iload_n 3, 1) := by decide +kernel
theorem dX5_firstMisfit_34 : decode cX5_firstMisfit 34 = .ok (.bipush (-9), 2) := by decide +kernel
theorem dX5_firstMisfit_36 : decode cX5_firstMisfit 36 = .ok (.if_icmp .eq 5, 3) := by decide +kernel
theorem dX5_firstMisfit_39 : decode cX5_firstMisfit 39 = .ok (.iload_n 3, 1) := by decide +kernel
theorem dX5_firstMisfit_40 : decode cX5_firstMisfit 40 = .ok (.ireturn, 1) := by decide +kernel
theorem dX5_firstMisfit_41 : decode cX5_firstMisfit 41 = .ok (.aload_n 0, 1) := by decide +kernel
theorem dX5_firstMisfit_42 : decode cX5_firstMisfit 42 = .ok (.iload_n 1, 1) := by decide +kernel
theorem dX5_firstMisfit_43 : decode cX5_firstMisfit 43 = .ok (.invokevirtual 40, 3) := by decide +kernel
theorem dX5_firstMisfit_46 : decode cX5_firstMisfit 46 = .ok (.istore_n 1, 1) := by decide +kernel
theorem dX5_firstMisfit_47 : decode cX5_firstMisfit 47 = .ok (.iinc 2 1, 3) := by decide +kernel
theorem dX5_firstMisfit_50 : decode cX5_firstMisfit 50 = .ok (.goto (-37), 3) := by decide +kernel
theorem dX5_firstMisfit_53 : decode cX5_firstMisfit 53 = .ok (.bipush (-9), 2) := by decide +kernel
theorem dX5_firstMisfit_55 : decode cX5_firstMisfit 55 = .ok (.ireturn, 1) := by decide +kernel
theorem dX6_moreIfWashed_0 : decode cX6_moreIfWashed 0 = .ok (.aload_n 0, 1) := by decide +kernel
theorem dX6_moreIfWashed_1 : decode cX6_moreIfWashed 1 = .ok (.iload_n 1, 1) := by decide +kernel
theorem dX6_moreIfWashed_2 : decode cX6_moreIfWashed 2 = .ok (.invokevirtual 35, 3) := by decide +kernel
theorem dX6_moreIfWashed_5 : decode cX6_moreIfWashed 5 = .ok (.aload_n 0, 1) := by decide +kernel
theorem dX6_moreIfWashed_6 : decode cX6_moreIfWashed 6 = .ok (.iload_n 1, 1) := by decide +kernel
theorem dX6_moreIfWashed_7 : decode cX6_moreIfWashed 7 = .ok (.invokevirtual 39, 3) := by decide +kernel
theorem dX6_moreIfWashed_10 : decode cX6_moreIfWashed 10 = .ok (.isub, 1) := by decide +kernel
theorem dX6_moreIfWashed_11 : decode cX6_moreIfWashed 11 = .ok (.ireturn, 1) := by decide +kernel
theorem dX7_refuse_0 : decode cX7_refuse 0 = .ok (.iload_n 1, 1) := by decide +kernel
theorem dX7_refuse_1 : decode cX7_refuse 1 = .ok (.ifCond .ge 20, 3) := by decide +kernel
theorem dX7_refuse_4 : decode cX7_refuse 4 = .ok (.iload_n 1, 1) := by decide +kernel
theorem dX7_refuse_5 : decode cX7_refuse 5 = .ok (.bipush (-6), 2) := by decide +kernel
theorem dX7_refuse_7 : decode cX7_refuse 7 = .ok (.if_icmp .lt 14, 3) := by decide +kernel
theorem dX7_refuse_10 : decode cX7_refuse 10 = .ok (.aload_n 0, 1) := by decide +kernel
theorem dX7_refuse_11 : decode cX7_refuse 11 = .ok (.getfield 68, 3) := by decide +kernel
theorem dX7_refuse_14 : decode cX7_refuse 14 = .ok (.iload_n 1, 1) := by decide +kernel
theorem dX7_refuse_15 : decode cX7_refuse 15 = .ok (.ineg, 1) := by decide +kernel
theorem dX7_refuse_16 : decode cX7_refuse 16 = .ok (.dup2, 1) := by decide +kernel
theorem dX7_refuse_17 : decode cX7_refuse 17 = .ok (.iaload, 1) := by decide +kernel
theorem dX7_refuse_18 : decode cX7_refuse 18 = .ok (.iconst 1, 1) := by decide +kernel
theorem dX7_refuse_19 : decode cX7_refuse 19 = .ok (.iadd, 1) := by decide +kernel
theorem dX7_refuse_20 : decode cX7_refuse 20 = .ok (.iastore, 1) := by decide +kernel
theorem dX7_refuse_21 : decode cX7_refuse 21 = .ok (.iload_n 1, 1) := by decide +kernel
theorem dX7_refuse_22 : decode cX7_refuse 22 = .ok (.ireturn, 1) := by decide +kernel
theorem dX7_letter_0 : decode cX7_letter 0 = .ok (.iload_n 1, 1) := by decide +kernel
theorem dX7_letter_1 : decode cX7_letter 1 = .ok (.ifCond .ge 10, 3) := by decide +kernel
theorem dX7_letter_4 : decode cX7_letter 4 = .ok (.aload_n 0, 1) := by decide +kernel
theorem dX7_letter_5 : decode cX7_letter 5 = .ok (.bipush (-4), 2) := by decide +kernel
theorem dX7_letter_7 : decode cX7_letter 7 = .ok (.invokevirtual 71, 3) := by decide +kernel
theorem dX7_letter_10 : decode cX7_letter 10 = .ok (.ireturn, 1) := by decide +kernel
theorem dX7_letter_11 : decode cX7_letter 11 = .ok (.iload_n 1, 1) := by decide +kernel
theorem dX7_letter_12 : decode cX7_letter 12 = .ok (.sipush 255, 3) := by decide +kernel
theorem dX7_letter_15 : decode cX7_letter 15 = .ok (.if_icmp .gt 13, 3) := by decide +kernel
theorem dX7_letter_18 : decode cX7_letter 18 = .ok (.aload_n 0, 1) := by decide +kernel
theorem dX7_letter_19 : decode cX7_letter 19 = .ok (.getfield 32, 3) := by decide +kernel
theorem dX7_letter_22 : decode cX7_letter 22 = .ok (.invokevirtual 75, 3) := by decide +kernel
theorem dX7_letter_25 : decode cX7_letter 25 = .ok (.ifCond .eq 10, 3) := by decide +kernel
theorem dX7_letter_28 : decode cX7_letter 28 = .ok (.aload_n 0, 1) := by decide +kernel
theorem dX7_letter_29 : decode cX7_letter 29 = .ok (.bipush (-6), 2) := by decide +kernel
theorem dX7_letter_31 : decode cX7_letter 31 = .ok (.invokevirtual 71, 3) := by decide +kernel
theorem dX7_letter_34 : decode cX7_letter 34 = .ok (.ireturn, 1) := by decide +kernel
theorem dX7_letter_35 : decode cX7_letter 35 = .ok (.aload_n 0, 1) := by decide +kernel
theorem dX7_letter_36 : decode cX7_letter 36 = .ok (.getfield 32, 3) := by decide +kernel
theorem dX7_letter_39 : decode cX7_letter 39 = .ok (.iload_n 1, 1) := by decide +kernel
theorem dX7_letter_40 : decode cX7_letter 40 = .ok (.invokevirtual 79, 3) := by decide +kernel
theorem dX7_letter_43 : decode cX7_letter 43 = .ok (.aload_n 0, 1) := by decide +kernel
theorem dX7_letter_44 : decode cX7_letter 44 = .ok (.getfield 32, 3) := by decide +kernel
theorem dX7_letter_47 : decode cX7_letter 47 = .ok (.getfield 83, 3) := by decide +kernel
theorem dX7_letter_50 : decode cX7_letter 50 = .ok (.ireturn, 1) := by decide +kernel
theorem dX7_tellStatement_0 : decode cX7_tellStatement 0 = .ok (.aload_n 0, 1) := by decide +kernel
theorem dX7_tellStatement_1 : decode cX7_tellStatement 1 = .ok (.getfield 32, 3) := by decide +kernel
theorem dX7_tellStatement_4 : decode cX7_tellStatement 4 = .ok (.iload_n 1, 1) := by decide +kernel
theorem dX7_tellStatement_5 : decode cX7_tellStatement 5 = .ok (.iconst 1, 1) := by decide +kernel
theorem dX7_tellStatement_6 : decode cX7_tellStatement 6 = .ok (.iadd, 1) := by decide +kernel
theorem dX7_tellStatement_7 : decode cX7_tellStatement 7 = .ok (.iconst 1, 1) := by decide +kernel
theorem dX7_tellStatement_8 : decode cX7_tellStatement 8 = .ok (.invokevirtual 298, 3) := by decide +kernel
theorem dX7_tellStatement_11 : decode cX7_tellStatement 11 = .ok (.istore_n 2, 1) := by decide +kernel
theorem dX7_tellStatement_12 : decode cX7_tellStatement 12 = .ok (.aload_n 0, 1) := by decide +kernel
theorem dX7_tellStatement_13 : decode cX7_tellStatement 13 = .ok (.getfield 32, 3) := by decide +kernel
theorem dX7_tellStatement_16 : decode cX7_tellStatement 16 = .ok (.iload_n 1, 1) := by decide +kernel
theorem dX7_tellStatement_17 : decode cX7_tellStatement 17 = .ok (.invokevirtual 301, 3) := by decide +kernel
theorem dX7_tellStatement_20 : decode cX7_tellStatement 20 = .ok (.tableswitch 308 100 121 #[257, 308, 308, 133, 237, 308, 308, 308, 308, 308, 308, 308, 308, 308, 308, 277, 104, 308, 175, 308, 308, 218], 104) := by decide +kernel
theorem dX7_tellStatement_124 : decode cX7_tellStatement 124 = .ok (.aload_n 0, 1) := by decide +kernel
theorem dX7_tellStatement_125 : decode cX7_tellStatement 125 = .ok (.getfield 19, 3) := by decide +kernel
theorem dX7_tellStatement_128 : decode cX7_tellStatement 128 = .ok (.aload_n 0, 1) := by decide +kernel
theorem dX7_tellStatement_129 : decode cX7_tellStatement 129 = .ok (.getfield 32, 3) := by decide +kernel
theorem dX7_tellStatement_132 : decode cX7_tellStatement 132 = .ok (.iload_n 1, 1) := by decide +kernel
theorem dX7_tellStatement_133 : decode cX7_tellStatement 133 = .ok (.iconst 1, 1) := by decide +kernel
theorem dX7_tellStatement_134 : decode cX7_tellStatement 134 = .ok (.iadd, 1) := by decide +kernel
theorem dX7_tellStatement_135 : decode cX7_tellStatement 135 = .ok (.invokevirtual 304, 3) := by decide +kernel
theorem dX7_tellStatement_138 : decode cX7_tellStatement 138 = .ok (.aload_n 0, 1) := by decide +kernel
theorem dX7_tellStatement_139 : decode cX7_tellStatement 139 = .ok (.getfield 32, 3) := by decide +kernel
theorem dX7_tellStatement_142 : decode cX7_tellStatement 142 = .ok (.iload_n 1, 1) := by decide +kernel
theorem dX7_tellStatement_143 : decode cX7_tellStatement 143 = .ok (.iconst 2, 1) := by decide +kernel
theorem dX7_tellStatement_144 : decode cX7_tellStatement 144 = .ok (.iadd, 1) := by decide +kernel
theorem dX7_tellStatement_145 : decode cX7_tellStatement 145 = .ok (.iconst 1, 1) := by decide +kernel
theorem dX7_tellStatement_146 : decode cX7_tellStatement 146 = .ok (.invokevirtual 298, 3) := by decide +kernel
theorem dX7_tellStatement_149 : decode cX7_tellStatement 149 = .ok (.invokevirtual 307, 3) := by decide +kernel
theorem dX7_tellStatement_152 : decode cX7_tellStatement 152 = .ok (.ireturn, 1) := by decide +kernel
theorem dX7_tellStatement_153 : decode cX7_tellStatement 153 = .ok (.aload_n 0, 1) := by decide +kernel
theorem dX7_tellStatement_154 : decode cX7_tellStatement 154 = .ok (.getfield 19, 3) := by decide +kernel
theorem dX7_tellStatement_157 : decode cX7_tellStatement 157 = .ok (.iload_n 2, 1) := by decide +kernel
theorem dX7_tellStatement_158 : decode cX7_tellStatement 158 = .ok (.aload_n 0, 1) := by decide +kernel
theorem dX7_tellStatement_159 : decode cX7_tellStatement 159 = .ok (.getfield 32, 3) := by decide +kernel
theorem dX7_tellStatement_162 : decode cX7_tellStatement 162 = .ok (.iload_n 1, 1) := by decide +kernel
theorem dX7_tellStatement_163 : decode cX7_tellStatement 163 = .ok (.iconst 2, 1) := by decide +kernel
theorem dX7_tellStatement_164 : decode cX7_tellStatement 164 = .ok (.iadd, 1) := by decide +kernel
theorem dX7_tellStatement_165 : decode cX7_tellStatement 165 = .ok (.iconst 2, 1) := by decide +kernel
theorem dX7_tellStatement_166 : decode cX7_tellStatement 166 = .ok (.invokevirtual 298, 3) := by decide +kernel
theorem dX7_tellStatement_169 : decode cX7_tellStatement 169 = .ok (.aload_n 0, 1) := by decide +kernel
theorem dX7_tellStatement_170 : decode cX7_tellStatement 170 = .ok (.getfield 32, 3) := by decide +kernel
theorem dX7_tellStatement_173 : decode cX7_tellStatement 173 = .ok (.iload_n 1, 1) := by decide +kernel
theorem dX7_tellStatement_174 : decode cX7_tellStatement 174 = .ok (.iconst 2, 1) := by decide +kernel
theorem dX7_tellStatement_175 : decode cX7_tellStatement 175 = .ok (.iadd, 1) := by decide +kernel
theorem dX7_tellStatement_176 : decode cX7_tellStatement 176 = .ok (.iconst 2, 1) := by decide +kernel
theorem dX7_tellStatement_177 : decode cX7_tellStatement 177 = .ok (.invokevirtual 298, 3) := by decide +kernel
theorem dX7_tellStatement_180 : decode cX7_tellStatement 180 = .ok (.aload_n 0, 1) := by decide +kernel
theorem dX7_tellStatement_181 : decode cX7_tellStatement 181 = .ok (.getfield 32, 3) := by decide +kernel
theorem dX7_tellStatement_184 : decode cX7_tellStatement 184 = .ok (.iload_n 1, 1) := by decide +kernel
theorem dX7_tellStatement_185 : decode cX7_tellStatement 185 = .ok (.iconst 4, 1) := by decide +kernel
theorem dX7_tellStatement_186 : decode cX7_tellStatement 186 = .ok (.iadd, 1) := by decide +kernel
theorem dX7_tellStatement_187 : decode cX7_tellStatement 187 = .ok (.iconst 2, 1) := by decide +kernel
theorem dX7_tellStatement_188 : decode cX7_tellStatement 188 = .ok (.invokevirtual 298, 3) := by decide +kernel
theorem dX7_tellStatement_191 : decode cX7_tellStatement 191 = .ok (.invokevirtual 310, 3) := by decide +kernel
theorem dX7_tellStatement_194 : decode cX7_tellStatement 194 = .ok (.ireturn, 1) := by decide +kernel
theorem dX7_tellStatement_195 : decode cX7_tellStatement 195 = .ok (.aload_n 0, 1) := by decide +kernel
theorem dX7_tellStatement_196 : decode cX7_tellStatement 196 = .ok (.getfield 19, 3) := by decide +kernel
theorem dX7_tellStatement_199 : decode cX7_tellStatement 199 = .ok (.iload_n 2, 1) := by decide +kernel
theorem dX7_tellStatement_200 : decode cX7_tellStatement 200 = .ok (.aload_n 0, 1) := by decide +kernel
theorem dX7_tellStatement_201 : decode cX7_tellStatement 201 = .ok (.getfield 32, 3) := by decide +kernel
theorem dX7_tellStatement_204 : decode cX7_tellStatement 204 = .ok (.iload_n 1, 1) := by decide +kernel
theorem dX7_tellStatement_205 : decode cX7_tellStatement 205 = .ok (.iconst 2, 1) := by decide +kernel
theorem dX7_tellStatement_206 : decode cX7_tellStatement 206 = .ok (.iadd, 1) := by decide +kernel
theorem dX7_tellStatement_207 : decode cX7_tellStatement 207 = .ok (.iconst 2, 1) := by decide +kernel
theorem dX7_tellStatement_208 : decode cX7_tellStatement 208 = .ok (.invokevirtual 298, 3) := by decide +kernel
theorem dX7_tellStatement_211 : decode cX7_tellStatement 211 = .ok (.aload_n 0, 1) := by decide +kernel
theorem dX7_tellStatement_212 : decode cX7_tellStatement 212 = .ok (.getfield 32, 3) := by decide +kernel
theorem dX7_tellStatement_215 : decode cX7_tellStatement 215 = .ok (.iload_n 1, 1) := by decide +kernel
theorem dX7_tellStatement_216 : decode cX7_tellStatement 216 = .ok (.iconst 4, 1) := by decide +kernel
theorem dX7_tellStatement_217 : decode cX7_tellStatement 217 = .ok (.iadd, 1) := by decide +kernel
theorem dX7_tellStatement_218 : decode cX7_tellStatement 218 = .ok (.iconst 2, 1) := by decide +kernel
theorem dX7_tellStatement_219 : decode cX7_tellStatement 219 = .ok (.invokevirtual 298, 3) := by decide +kernel
theorem dX7_tellStatement_222 : decode cX7_tellStatement 222 = .ok (.aload_n 0, 1) := by decide +kernel
theorem dX7_tellStatement_223 : decode cX7_tellStatement 223 = .ok (.getfield 32, 3) := by decide +kernel
theorem dX7_tellStatement_226 : decode cX7_tellStatement 226 = .ok (.iload_n 1, 1) := by decide +kernel
theorem dX7_tellStatement_227 : decode cX7_tellStatement 227 = .ok (.bipush 6, 2) := by decide +kernel
theorem dX7_tellStatement_229 : decode cX7_tellStatement 229 = .ok (.iadd, 1) := by decide +kernel
theorem dX7_tellStatement_230 : decode cX7_tellStatement 230 = .ok (.iconst 2, 1) := by decide +kernel
theorem dX7_tellStatement_231 : decode cX7_tellStatement 231 = .ok (.invokevirtual 298, 3) := by decide +kernel
theorem dX7_tellStatement_234 : decode cX7_tellStatement 234 = .ok (.invokevirtual 310, 3) := by decide +kernel
theorem dX7_tellStatement_237 : decode cX7_tellStatement 237 = .ok (.ireturn, 1) := by decide +kernel
theorem dX7_tellStatement_238 : decode cX7_tellStatement 238 = .ok (.aload_n 0, 1) := by decide +kernel
theorem dX7_tellStatement_239 : decode cX7_tellStatement 239 = .ok (.getfield 19, 3) := by decide +kernel
theorem dX7_tellStatement_242 : decode cX7_tellStatement 242 = .ok (.aload_n 0, 1) := by decide +kernel
theorem dX7_tellStatement_243 : decode cX7_tellStatement 243 = .ok (.getfield 32, 3) := by decide +kernel
theorem dX7_tellStatement_246 : decode cX7_tellStatement 246 = .ok (.iload_n 1, 1) := by decide +kernel
theorem dX7_tellStatement_247 : decode cX7_tellStatement 247 = .ok (.iconst 1, 1) := by decide +kernel
theorem dX7_tellStatement_248 : decode cX7_tellStatement 248 = .ok (.iadd, 1) := by decide +kernel
theorem dX7_tellStatement_249 : decode cX7_tellStatement 249 = .ok (.iconst 2, 1) := by decide +kernel
theorem dX7_tellStatement_250 : decode cX7_tellStatement 250 = .ok (.invokevirtual 298, 3) := by decide +kernel
theorem dX7_tellStatement_253 : decode cX7_tellStatement 253 = .ok (.invokevirtual 313, 3) := by decide +kernel
theorem dX7_tellStatement_256 : decode cX7_tellStatement 256 = .ok (.ireturn, 1) := by decide +kernel
theorem dX7_tellStatement_257 : decode cX7_tellStatement 257 = .ok (.aload_n 0, 1) := by decide +kernel
theorem dX7_tellStatement_258 : decode cX7_tellStatement 258 = .ok (.getfield 19, 3) := by decide +kernel
theorem dX7_tellStatement_261 : decode cX7_tellStatement 261 = .ok (.iload_n 2, 1) := by decide +kernel
theorem dX7_tellStatement_262 : decode cX7_tellStatement 262 = .ok (.aload_n 0, 1) := by decide +kernel
theorem dX7_tellStatement_263 : decode cX7_tellStatement 263 = .ok (.getfield 32, 3) := by decide +kernel
theorem dX7_tellStatement_266 : decode cX7_tellStatement 266 = .ok (.iload_n 1, 1) := by decide +kernel
theorem dX7_tellStatement_267 : decode cX7_tellStatement 267 = .ok (.iconst 2, 1) := by decide +kernel
theorem dX7_tellStatement_268 : decode cX7_tellStatement 268 = .ok (.iadd, 1) := by decide +kernel
theorem dX7_tellStatement_269 : decode cX7_tellStatement 269 = .ok (.iconst 1, 1) := by decide +kernel
theorem dX7_tellStatement_270 : decode cX7_tellStatement 270 = .ok (.invokevirtual 298, 3) := by decide +kernel
theorem dX7_tellStatement_273 : decode cX7_tellStatement 273 = .ok (.invokevirtual 145, 3) := by decide +kernel
theorem dX7_tellStatement_276 : decode cX7_tellStatement 276 = .ok (.ireturn, 1) := by decide +kernel
theorem dX7_tellStatement_277 : decode cX7_tellStatement 277 = .ok (.aload_n 0, 1) := by decide +kernel
theorem dX7_tellStatement_278 : decode cX7_tellStatement 278 = .ok (.getfield 19, 3) := by decide +kernel
theorem dX7_tellStatement_281 : decode cX7_tellStatement 281 = .ok (.aload_n 0, 1) := by decide +kernel
theorem dX7_tellStatement_282 : decode cX7_tellStatement 282 = .ok (.getfield 32, 3) := by decide +kernel
theorem dX7_tellStatement_285 : decode cX7_tellStatement 285 = .ok (.iload_n 1, 1) := by decide +kernel
theorem dX7_tellStatement_286 : decode cX7_tellStatement 286 = .ok (.iconst 1, 1) := by decide +kernel
theorem dX7_tellStatement_287 : decode cX7_tellStatement 287 = .ok (.iadd, 1) := by decide +kernel
theorem dX7_tellStatement_288 : decode cX7_tellStatement 288 = .ok (.iconst 2, 1) := by decide +kernel
theorem dX7_tellStatement_289 : decode cX7_tellStatement 289 = .ok (.invokevirtual 298, 3) := by decide +kernel
theorem dX7_tellStatement_292 : decode cX7_tellStatement 292 = .ok (.putfield 151, 3) := by decide +kernel
theorem dX7_tellStatement_295 : decode cX7_tellStatement 295 = .ok (.iconst 1, 1) := by decide +kernel
theorem dX7_tellStatement_296 : decode cX7_tellStatement 296 = .ok (.ireturn, 1) := by decide +kernel
theorem dX7_tellStatement_297 : decode cX7_tellStatement 297 = .ok (.aload_n 0, 1) := by decide +kernel
theorem dX7_tellStatement_298 : decode cX7_tellStatement 298 = .ok (.getfield 19, 3) := by decide +kernel
theorem dX7_tellStatement_301 : decode cX7_tellStatement 301 = .ok (.iload_n 2, 1) := by decide +kernel
theorem dX7_tellStatement_302 : decode cX7_tellStatement 302 = .ok (.aload_n 0, 1) := by decide +kernel
theorem dX7_tellStatement_303 : decode cX7_tellStatement 303 = .ok (.getfield 32, 3) := by decide +kernel
theorem dX7_tellStatement_306 : decode cX7_tellStatement 306 = .ok (.iload_n 1, 1) := by decide +kernel
theorem dX7_tellStatement_307 : decode cX7_tellStatement 307 = .ok (.iconst 2, 1) := by decide +kernel
theorem dX7_tellStatement_308 : decode cX7_tellStatement 308 = .ok (.iadd, 1) := by decide +kernel
theorem dX7_tellStatement_309 : decode cX7_tellStatement 309 = .ok (.iconst 2, 1) := by decide +kernel
theorem dX7_tellStatement_310 : decode cX7_tellStatement 310 = .ok (.invokevirtual 298, 3) := by decide +kernel
theorem dX7_tellStatement_313 : decode cX7_tellStatement 313 = .ok (.aload_n 0, 1) := by decide +kernel
theorem dX7_tellStatement_314 : decode cX7_tellStatement 314 = .ok (.getfield 32, 3) := by decide +kernel
theorem dX7_tellStatement_317 : decode cX7_tellStatement 317 = .ok (.iload_n 1, 1) := by decide +kernel
theorem dX7_tellStatement_318 : decode cX7_tellStatement 318 = .ok (.iconst 4, 1) := by decide +kernel
theorem dX7_tellStatement_319 : decode cX7_tellStatement 319 = .ok (.iadd, 1) := by decide +kernel
theorem dX7_tellStatement_320 : decode cX7_tellStatement 320 = .ok (.iconst 1, 1) := by decide +kernel
theorem dX7_tellStatement_321 : decode cX7_tellStatement 321 = .ok (.invokevirtual 298, 3) := by decide +kernel
theorem dX7_tellStatement_324 : decode cX7_tellStatement 324 = .ok (.invokevirtual 157, 3) := by decide +kernel
theorem dX7_tellStatement_327 : decode cX7_tellStatement 327 = .ok (.ireturn, 1) := by decide +kernel
theorem dX7_tellStatement_328 : decode cX7_tellStatement 328 = .ok (.iconst 0, 1) := by decide +kernel
theorem dX7_tellStatement_329 : decode cX7_tellStatement 329 = .ok (.ireturn, 1) := by decide +kernel
theorem dX7_tellTrial_0 : decode cX7_tellTrial 0 = .ok (.aload_n 0, 1) := by decide +kernel
theorem dX7_tellTrial_1 : decode cX7_tellTrial 1 = .ok (.getfield 19, 3) := by decide +kernel
theorem dX7_tellTrial_4 : decode cX7_tellTrial 4 = .ok (.aload_n 0, 1) := by decide +kernel
theorem dX7_tellTrial_5 : decode cX7_tellTrial 5 = .ok (.getfield 12, 3) := by decide +kernel
theorem dX7_tellTrial_8 : decode cX7_tellTrial 8 = .ok (.invokevirtual 94, 3) := by decide +kernel
theorem dX7_tellTrial_11 : decode cX7_tellTrial 11 = .ok (.iconst 0, 1) := by decide +kernel
theorem dX7_tellTrial_12 : decode cX7_tellTrial 12 = .ok (.istore_n 1, 1) := by decide +kernel
theorem dX7_tellTrial_13 : decode cX7_tellTrial 13 = .ok (.iconst 0, 1) := by decide +kernel
theorem dX7_tellTrial_14 : decode cX7_tellTrial 14 = .ok (.istore_n 2, 1) := by decide +kernel
theorem dX7_tellTrial_15 : decode cX7_tellTrial 15 = .ok (.iload_n 1, 1) := by decide +kernel
theorem dX7_tellTrial_16 : decode cX7_tellTrial 16 = .ok (.bipush 96, 2) := by decide +kernel
theorem dX7_tellTrial_18 : decode cX7_tellTrial 18 = .ok (.if_icmp .ge 43, 3) := by decide +kernel
theorem dX7_tellTrial_21 : decode cX7_tellTrial 21 = .ok (.iload_n 2, 1) := by decide +kernel
theorem dX7_tellTrial_22 : decode cX7_tellTrial 22 = .ok (.aload_n 0, 1) := by decide +kernel
theorem dX7_tellTrial_23 : decode cX7_tellTrial 23 = .ok (.getfield 32, 3) := by decide +kernel
theorem dX7_tellTrial_26 : decode cX7_tellTrial 26 = .ok (.getfield 83, 3) := by decide +kernel
theorem dX7_tellTrial_29 : decode cX7_tellTrial 29 = .ok (.if_icmp .ge 32, 3) := by decide +kernel
theorem dX7_tellTrial_32 : decode cX7_tellTrial 32 = .ok (.aload_n 0, 1) := by decide +kernel
theorem dX7_tellTrial_33 : decode cX7_tellTrial 33 = .ok (.iload_n 2, 1) := by decide +kernel
theorem dX7_tellTrial_34 : decode cX7_tellTrial 34 = .ok (.invokevirtual 292, 3) := by decide +kernel
theorem dX7_tellTrial_37 : decode cX7_tellTrial 37 = .ok (.ifCond .ne 9, 3) := by decide +kernel
theorem dX7_tellTrial_40 : decode cX7_tellTrial 40 = .ok (.sipush (-2000), 3) := by decide +kernel
theorem dX7_tellTrial_43 : decode cX7_tellTrial 43 = .ok (.iload_n 2, 1) := by decide +kernel
theorem dX7_tellTrial_44 : decode cX7_tellTrial 44 = .ok (.isub, 1) := by decide +kernel
theorem dX7_tellTrial_45 : decode cX7_tellTrial 45 = .ok (.ireturn, 1) := by decide +kernel
theorem dX7_tellTrial_46 : decode cX7_tellTrial 46 = .ok (.aload_n 0, 1) := by decide +kernel
theorem dX7_tellTrial_47 : decode cX7_tellTrial 47 = .ok (.getfield 32, 3) := by decide +kernel
theorem dX7_tellTrial_50 : decode cX7_tellTrial 50 = .ok (.iload_n 2, 1) := by decide +kernel
theorem dX7_tellTrial_51 : decode cX7_tellTrial 51 = .ok (.invokevirtual 295, 3) := by decide +kernel
theorem dX7_tellTrial_54 : decode cX7_tellTrial 54 = .ok (.istore_n 2, 1) := by decide +kernel
theorem dX7_tellTrial_55 : decode cX7_tellTrial 55 = .ok (.iinc 1 1, 3) := by decide +kernel
theorem dX7_tellTrial_58 : decode cX7_tellTrial 58 = .ok (.goto (-43), 3) := by decide +kernel
theorem dX7_tellTrial_61 : decode cX7_tellTrial 61 = .ok (.iload_n 1, 1) := by decide +kernel
theorem dX7_tellTrial_62 : decode cX7_tellTrial 62 = .ok (.ireturn, 1) := by decide +kernel
theorem dX7_shop_0 : decode cX7_shop 0 = .ok (.aload_n 0, 1) := by decide +kernel
theorem dX7_shop_1 : decode cX7_shop 1 = .ok (.getfield 32, 3) := by decide +kernel
theorem dX7_shop_4 : decode cX7_shop 4 = .ok (.invokevirtual 87, 3) := by decide +kernel
theorem dX7_shop_7 : decode cX7_shop 7 = .ok (.istore_n 1, 1) := by decide +kernel
theorem dX7_shop_8 : decode cX7_shop 8 = .ok (.iload_n 1, 1) := by decide +kernel
theorem dX7_shop_9 : decode cX7_shop 9 = .ok (.bipush (-9), 2) := by decide +kernel
theorem dX7_shop_11 : decode cX7_shop 11 = .ok (.if_icmp .ne 10, 3) := by decide +kernel
theorem dX7_shop_14 : decode cX7_shop 14 = .ok (.aload_n 0, 1) := by decide +kernel
theorem dX7_shop_15 : decode cX7_shop 15 = .ok (.invokevirtual 91, 3) := by decide +kernel
theorem dX7_shop_18 : decode cX7_shop 18 = .ok (.goto 8, 3) := by decide +kernel
theorem dX7_shop_21 : decode cX7_shop 21 = .ok (.sipush (-1000), 3) := by decide +kernel
theorem dX7_shop_24 : decode cX7_shop 24 = .ok (.iload_n 1, 1) := by decide +kernel
theorem dX7_shop_25 : decode cX7_shop 25 = .ok (.isub, 1) := by decide +kernel
theorem dX7_shop_26 : decode cX7_shop 26 = .ok (.istore_n 2, 1) := by decide +kernel
theorem dX7_shop_27 : decode cX7_shop 27 = .ok (.iload_n 2, 1) := by decide +kernel
theorem dX7_shop_28 : decode cX7_shop 28 = .ok (.ifCond .le 14, 3) := by decide +kernel
theorem dX7_shop_31 : decode cX7_shop 31 = .ok (.aload_n 0, 1) := by decide +kernel
theorem dX7_shop_32 : decode cX7_shop 32 = .ok (.getfield 12, 3) := by decide +kernel
theorem dX7_shop_35 : decode cX7_shop 35 = .ok (.aload_n 0, 1) := by decide +kernel
theorem dX7_shop_36 : decode cX7_shop 36 = .ok (.getfield 19, 3) := by decide +kernel
theorem dX7_shop_39 : decode cX7_shop 39 = .ok (.invokevirtual 94, 3) := by decide +kernel
theorem dX7_shop_42 : decode cX7_shop 42 = .ok (.aload_n 0, 1) := by decide +kernel
theorem dX7_shop_43 : decode cX7_shop 43 = .ok (.getfield 32, 3) := by decide +kernel
theorem dX7_shop_46 : decode cX7_shop 46 = .ok (.iconst 0, 1) := by decide +kernel
theorem dX7_shop_47 : decode cX7_shop 47 = .ok (.putfield 83, 3) := by decide +kernel
theorem dX7_shop_50 : decode cX7_shop 50 = .ok (.iload_n 2, 1) := by decide +kernel
theorem dX7_shop_51 : decode cX7_shop 51 = .ok (.ireturn, 1) := by decide +kernel
theorem dX7_thing_0 : decode cX7_thing 0 = .ok (.aload_n 0, 1) := by decide +kernel
theorem dX7_thing_1 : decode cX7_thing 1 = .ok (.getfield 12, 3) := by decide +kernel
theorem dX7_thing_4 : decode cX7_thing 4 = .ok (.iload_n 1, 1) := by decide +kernel
theorem dX7_thing_5 : decode cX7_thing 5 = .ok (.invokevirtual 98, 3) := by decide +kernel
theorem dX7_thing_8 : decode cX7_thing 8 = .ok (.ifCond .eq 9, 3) := by decide +kernel
theorem dX7_thing_11 : decode cX7_thing 11 = .ok (.aload_n 0, 1) := by decide +kernel
theorem dX7_thing_12 : decode cX7_thing 12 = .ok (.iconst (-1), 1) := by decide +kernel
theorem dX7_thing_13 : decode cX7_thing 13 = .ok (.invokevirtual 71, 3) := by decide +kernel
theorem dX7_thing_16 : decode cX7_thing 16 = .ok (.ireturn, 1) := by decide +kernel
theorem dX7_thing_17 : decode cX7_thing 17 = .ok (.aload_n 0, 1) := by decide +kernel
theorem dX7_thing_18 : decode cX7_thing 18 = .ok (.getfield 12, 3) := by decide +kernel
theorem dX7_thing_21 : decode cX7_thing 21 = .ok (.iload_n 1, 1) := by decide +kernel
theorem dX7_thing_22 : decode cX7_thing 22 = .ok (.invokevirtual 102, 3) := by decide +kernel
theorem dX7_thing_25 : decode cX7_thing 25 = .ok (.astore_n 3, 1) := by decide +kernel
theorem dX7_thing_26 : decode cX7_thing 26 = .ok (.iload_n 2, 1) := by decide +kernel
theorem dX7_thing_27 : decode cX7_thing 27 = .ok (.tableswitch 65 0 4 #[33, 38, 43, 48, 60], 33) := by decide +kernel
theorem dX7_thing_60 : decode cX7_thing 60 = .ok (.aload_n 3, 1) := by decide +kernel
theorem dX7_thing_61 : decode cX7_thing 61 = .ok (.getfield 106, 3) := by decide +kernel
theorem dX7_thing_64 : decode cX7_thing 64 = .ok (.ireturn, 1) := by decide +kernel
theorem dX7_thing_65 : decode cX7_thing 65 = .ok (.aload_n 3, 1) := by decide +kernel
theorem dX7_thing_66 : decode cX7_thing 66 = .ok (.getfield 109, 3) := by decide +kernel
theorem dX7_thing_69 : decode cX7_thing 69 = .ok (.ireturn, 1) := by decide +kernel
theorem dX7_thing_70 : decode cX7_thing 70 = .ok (.aload_n 3, 1) := by decide +kernel
theorem dX7_thing_71 : decode cX7_thing 71 = .ok (.getfield 112, 3) := by decide +kernel
theorem dX7_thing_74 : decode cX7_thing 74 = .ok (.ireturn, 1) := by decide +kernel
theorem dX7_thing_75 : decode cX7_thing 75 = .ok (.aload_n 3, 1) := by decide +kernel
theorem dX7_thing_76 : decode cX7_thing 76 = .ok (.aload_n 0, 1) := by decide +kernel
theorem dX7_thing_77 : decode cX7_thing 77 = .ok (.getfield 12, 3) := by decide +kernel
theorem dX7_thing_80 : decode cX7_thing 80 = .ok (.getfield 115, 3) := by decide +kernel
theorem dX7_thing_83 : decode cX7_thing 83 = .ok (.invokevirtual 118, 3) := by decide +kernel
theorem dX7_thing_86 : decode cX7_thing 86 = .ok (.ireturn, 1) := by decide +kernel
theorem dX7_thing_87 : decode cX7_thing 87 = .ok (.aload_n 3, 1) := by decide +kernel
theorem dX7_thing_88 : decode cX7_thing 88 = .ok (.invokevirtual 121, 3) := by decide +kernel
theorem dX7_thing_91 : decode cX7_thing 91 = .ok (.ireturn, 1) := by decide +kernel
theorem dX7_thing_92 : decode cX7_thing 92 = .ok (.aload_n 0, 1) := by decide +kernel
theorem dX7_thing_93 : decode cX7_thing 93 = .ok (.bipush (-2), 2) := by decide +kernel
theorem dX7_thing_95 : decode cX7_thing 95 = .ok (.invokevirtual 71, 3) := by decide +kernel
theorem dX7_thing_98 : decode cX7_thing 98 = .ok (.ireturn, 1) := by decide +kernel
theorem dX7_glad_0 : decode cX7_glad 0 = .ok (.aload_n 0, 1) := by decide +kernel
theorem dX7_glad_1 : decode cX7_glad 1 = .ok (.getfield 12, 3) := by decide +kernel
theorem dX7_glad_4 : decode cX7_glad 4 = .ok (.iload_n 1, 1) := by decide +kernel
theorem dX7_glad_5 : decode cX7_glad 5 = .ok (.invokevirtual 98, 3) := by decide +kernel
theorem dX7_glad_8 : decode cX7_glad 8 = .ok (.ifCond .ne 10, 3) := by decide +kernel
theorem dX7_glad_11 : decode cX7_glad 11 = .ok (.iload_n 2, 1) := by decide +kernel
theorem dX7_glad_12 : decode cX7_glad 12 = .ok (.invokestatic 124, 3) := by decide +kernel
theorem dX7_glad_15 : decode cX7_glad 15 = .ok (.ifCond .eq 9, 3) := by decide +kernel
theorem dX7_glad_18 : decode cX7_glad 18 = .ok (.aload_n 0, 1) := by decide +kernel
theorem dX7_glad_19 : decode cX7_glad 19 = .ok (.iconst (-1), 1) := by decide +kernel
theorem dX7_glad_20 : decode cX7_glad 20 = .ok (.invokevirtual 71, 3) := by decide +kernel
theorem dX7_glad_23 : decode cX7_glad 23 = .ok (.ireturn, 1) := by decide +kernel
theorem dX7_glad_24 : decode cX7_glad 24 = .ok (.aload_n 0, 1) := by decide +kernel
theorem dX7_glad_25 : decode cX7_glad 25 = .ok (.getfield 12, 3) := by decide +kernel
theorem dX7_glad_28 : decode cX7_glad 28 = .ok (.iload_n 1, 1) := by decide +kernel
theorem dX7_glad_29 : decode cX7_glad 29 = .ok (.invokevirtual 102, 3) := by decide +kernel
theorem dX7_glad_32 : decode cX7_glad 32 = .ok (.iload_n 2, 1) := by decide +kernel
theorem dX7_glad_33 : decode cX7_glad 33 = .ok (.invokevirtual 127, 3) := by decide +kernel
theorem dX7_glad_36 : decode cX7_glad 36 = .ok (.ireturn, 1) := by decide +kernel
theorem dX7_halves_0 : decode cX7_halves 0 = .ok (.aload_n 0, 1) := by decide +kernel
theorem dX7_halves_1 : decode cX7_halves 1 = .ok (.getfield 12, 3) := by decide +kernel
theorem dX7_halves_4 : decode cX7_halves 4 = .ok (.iload_n 1, 1) := by decide +kernel
theorem dX7_halves_5 : decode cX7_halves 5 = .ok (.iload_n 2, 1) := by decide +kernel
theorem dX7_halves_6 : decode cX7_halves 6 = .ok (.invokevirtual 130, 3) := by decide +kernel
theorem dX7_halves_9 : decode cX7_halves 9 = .ok (.ifCond .eq 9, 3) := by decide +kernel
theorem dX7_halves_12 : decode cX7_halves 12 = .ok (.aload_n 0, 1) := by decide +kernel
theorem dX7_halves_13 : decode cX7_halves 13 = .ok (.iconst (-1), 1) := by decide +kernel
theorem dX7_halves_14 : decode cX7_halves 14 = .ok (.invokevirtual 71, 3) := by decide +kernel
theorem dX7_halves_17 : decode cX7_halves 17 = .ok (.ireturn, 1) := by decide +kernel
theorem dX7_halves_18 : decode cX7_halves 18 = .ok (.aload_n 0, 1) := by decide +kernel
theorem dX7_halves_19 : decode cX7_halves 19 = .ok (.getfield 12, 3) := by decide +kernel
theorem dX7_halves_22 : decode cX7_halves 22 = .ok (.iload_n 1, 1) := by decide +kernel
theorem dX7_halves_23 : decode cX7_halves 23 = .ok (.iload_n 2, 1) := by decide +kernel
theorem dX7_halves_24 : decode cX7_halves 24 = .ok (.invokevirtual 134, 3) := by decide +kernel
theorem dX7_halves_27 : decode cX7_halves 27 = .ok (.ifCond .eq 7, 3) := by decide +kernel
theorem dX7_halves_30 : decode cX7_halves 30 = .ok (.iconst 1, 1) := by decide +kernel
theorem dX7_halves_31 : decode cX7_halves 31 = .ok (.goto 4, 3) := by decide +kernel
theorem dX7_halves_34 : decode cX7_halves 34 = .ok (.iconst 0, 1) := by decide +kernel
theorem dX7_halves_35 : decode cX7_halves 35 = .ok (.ireturn, 1) := by decide +kernel
theorem dX7_outside_0 : decode cX7_outside 0 = .ok (.iload_n 0, 1) := by decide +kernel
theorem dX7_outside_1 : decode cX7_outside 1 = .ok (.iload_n 1, 1) := by decide +kernel
theorem dX7_outside_2 : decode cX7_outside 2 = .ok (.if_icmp .ge 6, 3) := by decide +kernel
theorem dX7_outside_5 : decode cX7_outside 5 = .ok (.bipush (-4), 2) := by decide +kernel
theorem dX7_outside_7 : decode cX7_outside 7 = .ok (.ireturn, 1) := by decide +kernel
theorem dX7_outside_8 : decode cX7_outside 8 = .ok (.iload_n 0, 1) := by decide +kernel
theorem dX7_outside_9 : decode cX7_outside 9 = .ok (.iload_n 2, 1) := by decide +kernel
theorem dX7_outside_10 : decode cX7_outside 10 = .ok (.if_icmp .le 8, 3) := by decide +kernel
theorem dX7_outside_13 : decode cX7_outside 13 = .ok (.bipush (-6), 2) := by decide +kernel
theorem dX7_outside_15 : decode cX7_outside 15 = .ok (.goto 4, 3) := by decide +kernel
theorem dX7_outside_18 : decode cX7_outside 18 = .ok (.iconst 0, 1) := by decide +kernel
theorem dX7_outside_19 : decode cX7_outside 19 = .ok (.ireturn, 1) := by decide +kernel
theorem dX7_turn_0 : decode cX7_turn 0 = .ok (.aload_n 0, 1) := by decide +kernel
theorem dX7_turn_1 : decode cX7_turn 1 = .ok (.getfield 12, 3) := by decide +kernel
theorem dX7_turn_4 : decode cX7_turn 4 = .ok (.iload_n 1, 1) := by decide +kernel
theorem dX7_turn_5 : decode cX7_turn 5 = .ok (.invokevirtual 98, 3) := by decide +kernel
theorem dX7_turn_8 : decode cX7_turn 8 = .ok (.ifCond .eq 9, 3) := by decide +kernel
theorem dX7_turn_11 : decode cX7_turn 11 = .ok (.aload_n 0, 1) := by decide +kernel
theorem dX7_turn_12 : decode cX7_turn 12 = .ok (.iconst (-1), 1) := by decide +kernel
theorem dX7_turn_13 : decode cX7_turn 13 = .ok (.invokevirtual 71, 3) := by decide +kernel
theorem dX7_turn_16 : decode cX7_turn 16 = .ok (.ireturn, 1) := by decide +kernel
theorem dX7_turn_17 : decode cX7_turn 17 = .ok (.iload_n 2, 1) := by decide +kernel
theorem dX7_turn_18 : decode cX7_turn 18 = .ok (.ifCond .lt 8, 3) := by decide +kernel
theorem dX7_turn_21 : decode cX7_turn 21 = .ok (.iload_n 2, 1) := by decide +kernel
theorem dX7_turn_22 : decode cX7_turn 22 = .ok (.iconst 5, 1) := by decide +kernel
theorem dX7_turn_23 : decode cX7_turn 23 = .ok (.if_icmp .le 10, 3) := by decide +kernel
theorem dX7_turn_26 : decode cX7_turn 26 = .ok (.aload_n 0, 1) := by decide +kernel
theorem dX7_turn_27 : decode cX7_turn 27 = .ok (.bipush (-2), 2) := by decide +kernel
theorem dX7_turn_29 : decode cX7_turn 29 = .ok (.invokevirtual 71, 3) := by decide +kernel
theorem dX7_turn_32 : decode cX7_turn 32 = .ok (.ireturn, 1) := by decide +kernel
theorem dX7_turn_33 : decode cX7_turn 33 = .ok (.iload_n 3, 1) := by decide +kernel
theorem dX7_turn_34 : decode cX7_turn 34 = .ok (.iconst 0, 1) := by decide +kernel
theorem dX7_turn_35 : decode cX7_turn 35 = .ok (.bipush 9, 2) := by decide +kernel
theorem dX7_turn_37 : decode cX7_turn 37 = .ok (.invokestatic 137, 3) := by decide +kernel
theorem dX7_turn_40 : decode cX7_turn 40 = .ok (.istore 4, 2) := by decide +kernel
theorem dX7_turn_42 : decode cX7_turn 42 = .ok (.iload 4, 2) := by decide +kernel
theorem dX7_turn_44 : decode cX7_turn 44 = .ok (.ifCond .eq 10, 3) := by decide +kernel
theorem dX7_turn_47 : decode cX7_turn 47 = .ok (.aload_n 0, 1) := by decide +kernel
theorem dX7_turn_48 : decode cX7_turn 48 = .ok (.iload 4, 2) := by decide +kernel
theorem dX7_turn_50 : decode cX7_turn 50 = .ok (.invokevirtual 71, 3) := by decide +kernel
theorem dX7_turn_53 : decode cX7_turn 53 = .ok (.ireturn, 1) := by decide +kernel
theorem dX7_turn_54 : decode cX7_turn 54 = .ok (.aload_n 0, 1) := by decide +kernel
theorem dX7_turn_55 : decode cX7_turn 55 = .ok (.getfield 12, 3) := by decide +kernel
theorem dX7_turn_58 : decode cX7_turn 58 = .ok (.iload_n 1, 1) := by decide +kernel
theorem dX7_turn_59 : decode cX7_turn 59 = .ok (.invokevirtual 102, 3) := by decide +kernel
theorem dX7_turn_62 : decode cX7_turn 62 = .ok (.astore 5, 2) := by decide +kernel
theorem dX7_turn_64 : decode cX7_turn 64 = .ok (.bipush 10, 2) := by decide +kernel
theorem dX7_turn_66 : decode cX7_turn 66 = .ok (.aload 5, 2) := by decide +kernel
theorem dX7_turn_68 : decode cX7_turn 68 = .ok (.getfield 106, 3) := by decide +kernel
theorem dX7_turn_71 : decode cX7_turn 71 = .ok (.imul, 1) := by decide +kernel
theorem dX7_turn_72 : decode cX7_turn 72 = .ok (.aload 5, 2) := by decide +kernel
theorem dX7_turn_74 : decode cX7_turn 74 = .ok (.getfield 109, 3) := by decide +kernel
theorem dX7_turn_77 : decode cX7_turn 77 = .ok (.iadd, 1) := by decide +kernel
theorem dX7_turn_78 : decode cX7_turn 78 = .ok (.istore 6, 2) := by decide +kernel
theorem dX7_turn_80 : decode cX7_turn 80 = .ok (.aload 5, 2) := by decide +kernel
theorem dX7_turn_82 : decode cX7_turn 82 = .ok (.iload_n 2, 1) := by decide +kernel
theorem dX7_turn_83 : decode cX7_turn 83 = .ok (.putfield 106, 3) := by decide +kernel
theorem dX7_turn_86 : decode cX7_turn 86 = .ok (.aload 5, 2) := by decide +kernel
theorem dX7_turn_88 : decode cX7_turn 88 = .ok (.iload_n 3, 1) := by decide +kernel
theorem dX7_turn_89 : decode cX7_turn 89 = .ok (.putfield 109, 3) := by decide +kernel
theorem dX7_turn_92 : decode cX7_turn 92 = .ok (.iload 6, 2) := by decide +kernel
theorem dX7_turn_94 : decode cX7_turn 94 = .ok (.ireturn, 1) := by decide +kernel
theorem dX7_makes_0 : decode cX7_makes 0 = .ok (.aload_n 0, 1) := by decide +kernel
theorem dX7_makes_1 : decode cX7_makes 1 = .ok (.getfield 12, 3) := by decide +kernel
theorem dX7_makes_4 : decode cX7_makes 4 = .ok (.iload_n 1, 1) := by decide +kernel
theorem dX7_makes_5 : decode cX7_makes 5 = .ok (.invokevirtual 98, 3) := by decide +kernel
theorem dX7_makes_8 : decode cX7_makes 8 = .ok (.ifCond .ne 10, 3) := by decide +kernel
theorem dX7_makes_11 : decode cX7_makes 11 = .ok (.iload_n 2, 1) := by decide +kernel
theorem dX7_makes_12 : decode cX7_makes 12 = .ok (.invokestatic 124, 3) := by decide +kernel
theorem dX7_makes_15 : decode cX7_makes 15 = .ok (.ifCond .eq 9, 3) := by decide +kernel
theorem dX7_makes_18 : decode cX7_makes 18 = .ok (.aload_n 0, 1) := by decide +kernel
theorem dX7_makes_19 : decode cX7_makes 19 = .ok (.iconst (-1), 1) := by decide +kernel
theorem dX7_makes_20 : decode cX7_makes 20 = .ok (.invokevirtual 71, 3) := by decide +kernel
theorem dX7_makes_23 : decode cX7_makes 23 = .ok (.ireturn, 1) := by decide +kernel
theorem dX7_makes_24 : decode cX7_makes 24 = .ok (.iload_n 3, 1) := by decide +kernel
theorem dX7_makes_25 : decode cX7_makes 25 = .ok (.iconst 0, 1) := by decide +kernel
theorem dX7_makes_26 : decode cX7_makes 26 = .ok (.bipush 99, 2) := by decide +kernel
theorem dX7_makes_28 : decode cX7_makes 28 = .ok (.invokestatic 137, 3) := by decide +kernel
theorem dX7_makes_31 : decode cX7_makes 31 = .ok (.istore 4, 2) := by decide +kernel
theorem dX7_makes_33 : decode cX7_makes 33 = .ok (.iload 4, 2) := by decide +kernel
theorem dX7_makes_35 : decode cX7_makes 35 = .ok (.ifCond .eq 10, 3) := by decide +kernel
theorem dX7_makes_38 : decode cX7_makes 38 = .ok (.aload_n 0, 1) := by decide +kernel
theorem dX7_makes_39 : decode cX7_makes 39 = .ok (.iload 4, 2) := by decide +kernel
theorem dX7_makes_41 : decode cX7_makes 41 = .ok (.invokevirtual 71, 3) := by decide +kernel
theorem dX7_makes_44 : decode cX7_makes 44 = .ok (.ireturn, 1) := by decide +kernel
theorem dX7_makes_45 : decode cX7_makes 45 = .ok (.aload_n 0, 1) := by decide +kernel
theorem dX7_makes_46 : decode cX7_makes 46 = .ok (.getfield 12, 3) := by decide +kernel
theorem dX7_makes_49 : decode cX7_makes 49 = .ok (.iload_n 1, 1) := by decide +kernel
theorem dX7_makes_50 : decode cX7_makes 50 = .ok (.invokevirtual 102, 3) := by decide +kernel
theorem dX7_makes_53 : decode cX7_makes 53 = .ok (.astore 5, 2) := by decide +kernel
theorem dX7_makes_55 : decode cX7_makes 55 = .ok (.aload 5, 2) := by decide +kernel
theorem dX7_makes_57 : decode cX7_makes 57 = .ok (.iload_n 2, 1) := by decide +kernel
theorem dX7_makes_58 : decode cX7_makes 58 = .ok (.invokevirtual 127, 3) := by decide +kernel
theorem dX7_makes_61 : decode cX7_makes 61 = .ok (.istore 6, 2) := by decide +kernel
theorem dX7_makes_63 : decode cX7_makes 63 = .ok (.aload 5, 2) := by decide +kernel
theorem dX7_makes_65 : decode cX7_makes 65 = .ok (.iload_n 2, 1) := by decide +kernel
theorem dX7_makes_66 : decode cX7_makes 66 = .ok (.iload_n 3, 1) := by decide +kernel
theorem dX7_makes_67 : decode cX7_makes 67 = .ok (.invokevirtual 141, 3) := by decide +kernel
theorem dX7_makes_70 : decode cX7_makes 70 = .ok (.iload 6, 2) := by decide +kernel
theorem dX7_makes_72 : decode cX7_makes 72 = .ok (.ireturn, 1) := by decide +kernel
theorem dX7_pairs_0 : decode cX7_pairs 0 = .ok (.aload_n 0, 1) := by decide +kernel
theorem dX7_pairs_1 : decode cX7_pairs 1 = .ok (.getfield 12, 3) := by decide +kernel
theorem dX7_pairs_4 : decode cX7_pairs 4 = .ok (.iload_n 1, 1) := by decide +kernel
theorem dX7_pairs_5 : decode cX7_pairs 5 = .ok (.iload_n 2, 1) := by decide +kernel
theorem dX7_pairs_6 : decode cX7_pairs 6 = .ok (.invokevirtual 130, 3) := by decide +kernel
theorem dX7_pairs_9 : decode cX7_pairs 9 = .ok (.ifCond .eq 9, 3) := by decide +kernel
theorem dX7_pairs_12 : decode cX7_pairs 12 = .ok (.aload_n 0, 1) := by decide +kernel
theorem dX7_pairs_13 : decode cX7_pairs 13 = .ok (.iconst (-1), 1) := by decide +kernel
theorem dX7_pairs_14 : decode cX7_pairs 14 = .ok (.invokevirtual 71, 3) := by decide +kernel
theorem dX7_pairs_17 : decode cX7_pairs 17 = .ok (.ireturn, 1) := by decide +kernel
theorem dX7_pairs_18 : decode cX7_pairs 18 = .ok (.aload_n 0, 1) := by decide +kernel
theorem dX7_pairs_19 : decode cX7_pairs 19 = .ok (.getfield 12, 3) := by decide +kernel
theorem dX7_pairs_22 : decode cX7_pairs 22 = .ok (.iload_n 1, 1) := by decide +kernel
theorem dX7_pairs_23 : decode cX7_pairs 23 = .ok (.iload_n 2, 1) := by decide +kernel
theorem dX7_pairs_24 : decode cX7_pairs 24 = .ok (.invokevirtual 145, 3) := by decide +kernel
theorem dX7_pairs_27 : decode cX7_pairs 27 = .ok (.pop, 1) := by decide +kernel
theorem dX7_pairs_28 : decode cX7_pairs 28 = .ok (.aload_n 0, 1) := by decide +kernel
theorem dX7_pairs_29 : decode cX7_pairs 29 = .ok (.getfield 12, 3) := by decide +kernel
theorem dX7_pairs_32 : decode cX7_pairs 32 = .ok (.iload_n 1, 1) := by decide +kernel
theorem dX7_pairs_33 : decode cX7_pairs 33 = .ok (.iload_n 2, 1) := by decide +kernel
theorem dX7_pairs_34 : decode cX7_pairs 34 = .ok (.invokevirtual 134, 3) := by decide +kernel
theorem dX7_pairs_37 : decode cX7_pairs 37 = .ok (.ifCond .eq 7, 3) := by decide +kernel
theorem dX7_pairs_40 : decode cX7_pairs 40 = .ok (.iconst 1, 1) := by decide +kernel
theorem dX7_pairs_41 : decode cX7_pairs 41 = .ok (.goto 4, 3) := by decide +kernel
theorem dX7_pairs_44 : decode cX7_pairs 44 = .ok (.iconst 0, 1) := by decide +kernel
theorem dX7_pairs_45 : decode cX7_pairs 45 = .ok (.ireturn, 1) := by decide +kernel
theorem dX7_now_0 : decode cX7_now 0 = .ok (.iload_n 1, 1) := by decide +kernel
theorem dX7_now_1 : decode cX7_now 1 = .ok (.invokestatic 124, 3) := by decide +kernel
theorem dX7_now_4 : decode cX7_now 4 = .ok (.ifCond .eq 9, 3) := by decide +kernel
theorem dX7_now_7 : decode cX7_now 7 = .ok (.aload_n 0, 1) := by decide +kernel
theorem dX7_now_8 : decode cX7_now 8 = .ok (.iconst (-1), 1) := by decide +kernel
theorem dX7_now_9 : decode cX7_now 9 = .ok (.invokevirtual 71, 3) := by decide +kernel
theorem dX7_now_12 : decode cX7_now 12 = .ok (.ireturn, 1) := by decide +kernel
theorem dX7_now_13 : decode cX7_now 13 = .ok (.aload_n 0, 1) := by decide +kernel
theorem dX7_now_14 : decode cX7_now 14 = .ok (.getfield 12, 3) := by decide +kernel
theorem dX7_now_17 : decode cX7_now 17 = .ok (.getfield 115, 3) := by decide +kernel
theorem dX7_now_20 : decode cX7_now 20 = .ok (.istore_n 2, 1) := by decide +kernel
theorem dX7_now_21 : decode cX7_now 21 = .ok (.aload_n 0, 1) := by decide +kernel
theorem dX7_now_22 : decode cX7_now 22 = .ok (.getfield 12, 3) := by decide +kernel
theorem dX7_now_25 : decode cX7_now 25 = .ok (.iload_n 1, 1) := by decide +kernel
theorem dX7_now_26 : decode cX7_now 26 = .ok (.putfield 115, 3) := by decide +kernel
theorem dX7_now_29 : decode cX7_now 29 = .ok (.iload_n 2, 1) := by decide +kernel
theorem dX7_now_30 : decode cX7_now 30 = .ok (.ireturn, 1) := by decide +kernel
theorem dX7_hands_0 : decode cX7_hands 0 = .ok (.iload_n 1, 1) := by decide +kernel
theorem dX7_hands_1 : decode cX7_hands 1 = .ok (.iconst 1, 1) := by decide +kernel
theorem dX7_hands_2 : decode cX7_hands 2 = .ok (.iconst 4, 1) := by decide +kernel
theorem dX7_hands_3 : decode cX7_hands 3 = .ok (.invokestatic 137, 3) := by decide +kernel
theorem dX7_hands_6 : decode cX7_hands 6 = .ok (.istore_n 2, 1) := by decide +kernel
theorem dX7_hands_7 : decode cX7_hands 7 = .ok (.iload_n 2, 1) := by decide +kernel
theorem dX7_hands_8 : decode cX7_hands 8 = .ok (.ifCond .eq 9, 3) := by decide +kernel
theorem dX7_hands_11 : decode cX7_hands 11 = .ok (.aload_n 0, 1) := by decide +kernel
theorem dX7_hands_12 : decode cX7_hands 12 = .ok (.iload_n 2, 1) := by decide +kernel
theorem dX7_hands_13 : decode cX7_hands 13 = .ok (.invokevirtual 71, 3) := by decide +kernel
theorem dX7_hands_16 : decode cX7_hands 16 = .ok (.ireturn, 1) := by decide +kernel
theorem dX7_hands_17 : decode cX7_hands 17 = .ok (.aload_n 0, 1) := by decide +kernel
theorem dX7_hands_18 : decode cX7_hands 18 = .ok (.getfield 12, 3) := by decide +kernel
theorem dX7_hands_21 : decode cX7_hands 21 = .ok (.getfield 148, 3) := by decide +kernel
theorem dX7_hands_24 : decode cX7_hands 24 = .ok (.istore_n 3, 1) := by decide +kernel
theorem dX7_hands_25 : decode cX7_hands 25 = .ok (.aload_n 0, 1) := by decide +kernel
theorem dX7_hands_26 : decode cX7_hands 26 = .ok (.getfield 12, 3) := by decide +kernel
theorem dX7_hands_29 : decode cX7_hands 29 = .ok (.iload_n 1, 1) := by decide +kernel
theorem dX7_hands_30 : decode cX7_hands 30 = .ok (.putfield 148, 3) := by decide +kernel
theorem dX7_hands_33 : decode cX7_hands 33 = .ok (.iload_n 3, 1) := by decide +kernel
theorem dX7_hands_34 : decode cX7_hands 34 = .ok (.ireturn, 1) := by decide +kernel
theorem dX7_pours_0 : decode cX7_pours 0 = .ok (.iload_n 1, 1) := by decide +kernel
theorem dX7_pours_1 : decode cX7_pours 1 = .ok (.iconst 0, 1) := by decide +kernel
theorem dX7_pours_2 : decode cX7_pours 2 = .ok (.bipush 99, 2) := by decide +kernel
theorem dX7_pours_4 : decode cX7_pours 4 = .ok (.invokestatic 137, 3) := by decide +kernel
theorem dX7_pours_7 : decode cX7_pours 7 = .ok (.istore_n 2, 1) := by decide +kernel
theorem dX7_pours_8 : decode cX7_pours 8 = .ok (.iload_n 2, 1) := by decide +kernel
theorem dX7_pours_9 : decode cX7_pours 9 = .ok (.ifCond .eq 9, 3) := by decide +kernel
theorem dX7_pours_12 : decode cX7_pours 12 = .ok (.aload_n 0, 1) := by decide +kernel
theorem dX7_pours_13 : decode cX7_pours 13 = .ok (.iload_n 2, 1) := by decide +kernel
theorem dX7_pours_14 : decode cX7_pours 14 = .ok (.invokevirtual 71, 3) := by decide +kernel
theorem dX7_pours_17 : decode cX7_pours 17 = .ok (.ireturn, 1) := by decide +kernel
theorem dX7_pours_18 : decode cX7_pours 18 = .ok (.aload_n 0, 1) := by decide +kernel
theorem dX7_pours_19 : decode cX7_pours 19 = .ok (.getfield 12, 3) := by decide +kernel
theorem dX7_pours_22 : decode cX7_pours 22 = .ok (.getfield 151, 3) := by decide +kernel
theorem dX7_pours_25 : decode cX7_pours 25 = .ok (.istore_n 3, 1) := by decide +kernel
theorem dX7_pours_26 : decode cX7_pours 26 = .ok (.aload_n 0, 1) := by decide +kernel
theorem dX7_pours_27 : decode cX7_pours 27 = .ok (.getfield 12, 3) := by decide +kernel
theorem dX7_pours_30 : decode cX7_pours 30 = .ok (.iload_n 1, 1) := by decide +kernel
theorem dX7_pours_31 : decode cX7_pours 31 = .ok (.putfield 151, 3) := by decide +kernel
theorem dX7_pours_34 : decode cX7_pours 34 = .ok (.iload_n 3, 1) := by decide +kernel
theorem dX7_pours_35 : decode cX7_pours 35 = .ok (.ireturn, 1) := by decide +kernel
theorem dX7_heldRefusal_0 : decode cX7_heldRefusal 0 = .ok (.aload_n 0, 1) := by decide +kernel
theorem dX7_heldRefusal_1 : decode cX7_heldRefusal 1 = .ok (.getfield 12, 3) := by decide +kernel
theorem dX7_heldRefusal_4 : decode cX7_heldRefusal 4 = .ok (.iload_n 1, 1) := by decide +kernel
theorem dX7_heldRefusal_5 : decode cX7_heldRefusal 5 = .ok (.invokevirtual 98, 3) := by decide +kernel
theorem dX7_heldRefusal_8 : decode cX7_heldRefusal 8 = .ok (.ifCond .eq 5, 3) := by decide +kernel
theorem dX7_heldRefusal_11 : decode cX7_heldRefusal 11 = .ok (.iconst (-1), 1) := by decide +kernel
theorem dX7_heldRefusal_12 : decode cX7_heldRefusal 12 = .ok (.ireturn, 1) := by decide +kernel
theorem dX7_heldRefusal_13 : decode cX7_heldRefusal 13 = .ok (.iload_n 2, 1) := by decide +kernel
theorem dX7_heldRefusal_14 : decode cX7_heldRefusal 14 = .ok (.ifCond .lt 7, 3) := by decide +kernel
theorem dX7_heldRefusal_17 : decode cX7_heldRefusal 17 = .ok (.iload_n 3, 1) := by decide +kernel
theorem dX7_heldRefusal_18 : decode cX7_heldRefusal 18 = .ok (.ifCond .ge 6, 3) := by decide +kernel
theorem dX7_heldRefusal_21 : decode cX7_heldRefusal 21 = .ok (.bipush (-4), 2) := by decide +kernel
theorem dX7_heldRefusal_23 : decode cX7_heldRefusal 23 = .ok (.ireturn, 1) := by decide +kernel
theorem dX7_heldRefusal_24 : decode cX7_heldRefusal 24 = .ok (.iload_n 2, 1) := by decide +kernel
theorem dX7_heldRefusal_25 : decode cX7_heldRefusal 25 = .ok (.bipush 99, 2) := by decide +kernel
theorem dX7_heldRefusal_27 : decode cX7_heldRefusal 27 = .ok (.if_icmp .gt 9, 3) := by decide +kernel
theorem dX7_heldRefusal_30 : decode cX7_heldRefusal 30 = .ok (.iload_n 3, 1) := by decide +kernel
theorem dX7_heldRefusal_31 : decode cX7_heldRefusal 31 = .ok (.bipush 9, 2) := by decide +kernel
theorem dX7_heldRefusal_33 : decode cX7_heldRefusal 33 = .ok (.if_icmp .le 8, 3) := by decide +kernel
theorem dX7_heldRefusal_36 : decode cX7_heldRefusal 36 = .ok (.bipush (-6), 2) := by decide +kernel
theorem dX7_heldRefusal_38 : decode cX7_heldRefusal 38 = .ok (.goto 4, 3) := by decide +kernel
theorem dX7_heldRefusal_41 : decode cX7_heldRefusal 41 = .ok (.iconst 0, 1) := by decide +kernel
theorem dX7_heldRefusal_42 : decode cX7_heldRefusal 42 = .ok (.ireturn, 1) := by decide +kernel
theorem dX7_glues_0 : decode cX7_glues 0 = .ok (.aload_n 0, 1) := by decide +kernel
theorem dX7_glues_1 : decode cX7_glues 1 = .ok (.iload_n 1, 1) := by decide +kernel
theorem dX7_glues_2 : decode cX7_glues 2 = .ok (.iload_n 2, 1) := by decide +kernel
theorem dX7_glues_3 : decode cX7_glues 3 = .ok (.iload_n 3, 1) := by decide +kernel
theorem dX7_glues_4 : decode cX7_glues 4 = .ok (.invokevirtual 154, 3) := by decide +kernel
theorem dX7_glues_7 : decode cX7_glues 7 = .ok (.istore 4, 2) := by decide +kernel
theorem dX7_glues_9 : decode cX7_glues 9 = .ok (.iload 4, 2) := by decide +kernel
theorem dX7_glues_11 : decode cX7_glues 11 = .ok (.ifCond .eq 10, 3) := by decide +kernel
theorem dX7_glues_14 : decode cX7_glues 14 = .ok (.aload_n 0, 1) := by decide +kernel
theorem dX7_glues_15 : decode cX7_glues 15 = .ok (.iload 4, 2) := by decide +kernel
theorem dX7_glues_17 : decode cX7_glues 17 = .ok (.invokevirtual 71, 3) := by decide +kernel
theorem dX7_glues_20 : decode cX7_glues 20 = .ok (.ireturn, 1) := by decide +kernel
theorem dX7_glues_21 : decode cX7_glues 21 = .ok (.aload_n 0, 1) := by decide +kernel
theorem dX7_glues_22 : decode cX7_glues 22 = .ok (.getfield 12, 3) := by decide +kernel
theorem dX7_glues_25 : decode cX7_glues 25 = .ok (.iload_n 1, 1) := by decide +kernel
theorem dX7_glues_26 : decode cX7_glues 26 = .ok (.iload_n 2, 1) := by decide +kernel
theorem dX7_glues_27 : decode cX7_glues 27 = .ok (.iload_n 3, 1) := by decide +kernel
theorem dX7_glues_28 : decode cX7_glues 28 = .ok (.invokevirtual 157, 3) := by decide +kernel
theorem dX7_glues_31 : decode cX7_glues 31 = .ok (.ifCond .ne 10, 3) := by decide +kernel
theorem dX7_glues_34 : decode cX7_glues 34 = .ok (.aload_n 0, 1) := by decide +kernel
theorem dX7_glues_35 : decode cX7_glues 35 = .ok (.bipush (-3), 2) := by decide +kernel
theorem dX7_glues_37 : decode cX7_glues 37 = .ok (.invokevirtual 71, 3) := by decide +kernel
theorem dX7_glues_40 : decode cX7_glues 40 = .ok (.ireturn, 1) := by decide +kernel
theorem dX7_glues_41 : decode cX7_glues 41 = .ok (.aload_n 0, 1) := by decide +kernel
theorem dX7_glues_42 : decode cX7_glues 42 = .ok (.getfield 12, 3) := by decide +kernel
theorem dX7_glues_45 : decode cX7_glues 45 = .ok (.iload_n 1, 1) := by decide +kernel
theorem dX7_glues_46 : decode cX7_glues 46 = .ok (.invokevirtual 102, 3) := by decide +kernel
theorem dX7_glues_49 : decode cX7_glues 49 = .ok (.getfield 112, 3) := by decide +kernel
theorem dX7_glues_52 : decode cX7_glues 52 = .ok (.ireturn, 1) := by decide +kernel
theorem dX7_washes_0 : decode cX7_washes 0 = .ok (.aload_n 0, 1) := by decide +kernel
theorem dX7_washes_1 : decode cX7_washes 1 = .ok (.getfield 12, 3) := by decide +kernel
theorem dX7_washes_4 : decode cX7_washes 4 = .ok (.iload_n 1, 1) := by decide +kernel
theorem dX7_washes_5 : decode cX7_washes 5 = .ok (.invokevirtual 98, 3) := by decide +kernel
theorem dX7_washes_8 : decode cX7_washes 8 = .ok (.ifCond .eq 9, 3) := by decide +kernel
theorem dX7_washes_11 : decode cX7_washes 11 = .ok (.aload_n 0, 1) := by decide +kernel
theorem dX7_washes_12 : decode cX7_washes 12 = .ok (.iconst (-1), 1) := by decide +kernel
theorem dX7_washes_13 : decode cX7_washes 13 = .ok (.invokevirtual 71, 3) := by decide +kernel
theorem dX7_washes_16 : decode cX7_washes 16 = .ok (.ireturn, 1) := by decide +kernel
theorem dX7_washes_17 : decode cX7_washes 17 = .ok (.aload_n 0, 1) := by decide +kernel
theorem dX7_washes_18 : decode cX7_washes 18 = .ok (.getfield 12, 3) := by decide +kernel
theorem dX7_washes_21 : decode cX7_washes 21 = .ok (.iload_n 1, 1) := by decide +kernel
theorem dX7_washes_22 : decode cX7_washes 22 = .ok (.invokevirtual 102, 3) := by decide +kernel
theorem dX7_washes_25 : decode cX7_washes 25 = .ok (.astore_n 2, 1) := by decide +kernel
theorem dX7_washes_26 : decode cX7_washes 26 = .ok (.aload_n 2, 1) := by decide +kernel
theorem dX7_washes_27 : decode cX7_washes 27 = .ok (.invokevirtual 161, 3) := by decide +kernel
theorem dX7_washes_30 : decode cX7_washes 30 = .ok (.ifCond .ne 10, 3) := by decide +kernel
theorem dX7_washes_33 : decode cX7_washes 33 = .ok (.aload_n 0, 1) := by decide +kernel
theorem dX7_washes_34 : decode cX7_washes 34 = .ok (.bipush (-3), 2) := by decide +kernel
theorem dX7_washes_36 : decode cX7_washes 36 = .ok (.invokevirtual 71, 3) := by decide +kernel
theorem dX7_washes_39 : decode cX7_washes 39 = .ok (.ireturn, 1) := by decide +kernel
theorem dX7_washes_40 : decode cX7_washes 40 = .ok (.aload_n 2, 1) := by decide +kernel
theorem dX7_washes_41 : decode cX7_washes 41 = .ok (.getfield 112, 3) := by decide +kernel
theorem dX7_washes_44 : decode cX7_washes 44 = .ok (.istore_n 3, 1) := by decide +kernel
theorem dX7_washes_45 : decode cX7_washes 45 = .ok (.aload_n 2, 1) := by decide +kernel
theorem dX7_washes_46 : decode cX7_washes 46 = .ok (.bipush (-9), 2) := by decide +kernel
theorem dX7_washes_48 : decode cX7_washes 48 = .ok (.putfield 112, 3) := by decide +kernel
theorem dX7_washes_51 : decode cX7_washes 51 = .ok (.iload_n 3, 1) := by decide +kernel
theorem dX7_washes_52 : decode cX7_washes 52 = .ok (.ireturn, 1) := by decide +kernel
theorem dX7_would_0 : decode cX7_would 0 = .ok (.aload_n 0, 1) := by decide +kernel
theorem dX7_would_1 : decode cX7_would 1 = .ok (.iload_n 1, 1) := by decide +kernel
theorem dX7_would_2 : decode cX7_would 2 = .ok (.iload_n 2, 1) := by decide +kernel
theorem dX7_would_3 : decode cX7_would 3 = .ok (.iload_n 3, 1) := by decide +kernel
theorem dX7_would_4 : decode cX7_would 4 = .ok (.invokevirtual 154, 3) := by decide +kernel
theorem dX7_would_7 : decode cX7_would 7 = .ok (.istore 5, 2) := by decide +kernel
theorem dX7_would_9 : decode cX7_would 9 = .ok (.iload 5, 2) := by decide +kernel
theorem dX7_would_11 : decode cX7_would 11 = .ok (.ifCond .eq 10, 3) := by decide +kernel
theorem dX7_would_14 : decode cX7_would 14 = .ok (.aload_n 0, 1) := by decide +kernel
theorem dX7_would_15 : decode cX7_would 15 = .ok (.iload 5, 2) := by decide +kernel
theorem dX7_would_17 : decode cX7_would 17 = .ok (.invokevirtual 71, 3) := by decide +kernel
theorem dX7_would_20 : decode cX7_would 20 = .ok (.ireturn, 1) := by decide +kernel
theorem dX7_would_21 : decode cX7_would 21 = .ok (.iload 4, 2) := by decide +kernel
theorem dX7_would_23 : decode cX7_would 23 = .ok (.ifCond .lt 9, 3) := by decide +kernel
theorem dX7_would_26 : decode cX7_would 26 = .ok (.iload 4, 2) := by decide +kernel
theorem dX7_would_28 : decode cX7_would 28 = .ok (.iconst 2, 1) := by decide +kernel
theorem dX7_would_29 : decode cX7_would 29 = .ok (.if_icmp .le 10, 3) := by decide +kernel
theorem dX7_would_32 : decode cX7_would 32 = .ok (.aload_n 0, 1) := by decide +kernel
theorem dX7_would_33 : decode cX7_would 33 = .ok (.bipush (-2), 2) := by decide +kernel
theorem dX7_would_35 : decode cX7_would 35 = .ok (.invokevirtual 71, 3) := by decide +kernel
theorem dX7_would_38 : decode cX7_would 38 = .ok (.ireturn, 1) := by decide +kernel
theorem dX7_would_39 : decode cX7_would 39 = .ok (.aload_n 0, 1) := by decide +kernel
theorem dX7_would_40 : decode cX7_would 40 = .ok (.getfield 12, 3) := by decide +kernel
theorem dX7_would_43 : decode cX7_would 43 = .ok (.iload_n 1, 1) := by decide +kernel
theorem dX7_would_44 : decode cX7_would 44 = .ok (.invokevirtual 102, 3) := by decide +kernel
theorem dX7_would_47 : decode cX7_would 47 = .ok (.astore 6, 2) := by decide +kernel
theorem dX7_would_49 : decode cX7_would 49 = .ok (.iload 4, 2) := by decide +kernel
theorem dX7_would_51 : decode cX7_would 51 = .ok (.iconst 1, 1) := by decide +kernel
theorem dX7_would_52 : decode cX7_would 52 = .ok (.if_icmp .ne 11, 3) := by decide +kernel
theorem dX7_would_55 : decode cX7_would 55 = .ok (.aload 6, 2) := by decide +kernel
theorem dX7_would_57 : decode cX7_would 57 = .ok (.iload_n 2, 1) := by decide +kernel
theorem dX7_would_58 : decode cX7_would 58 = .ok (.iload_n 3, 1) := by decide +kernel
theorem dX7_would_59 : decode cX7_would 59 = .ok (.invokevirtual 164, 3) := by decide +kernel
theorem dX7_would_62 : decode cX7_would 62 = .ok (.ireturn, 1) := by decide +kernel
theorem dX7_would_63 : decode cX7_would 63 = .ok (.aload 6, 2) := by decide +kernel
theorem dX7_would_65 : decode cX7_would 65 = .ok (.iload_n 2, 1) := by decide +kernel
theorem dX7_would_66 : decode cX7_would 66 = .ok (.iload_n 3, 1) := by decide +kernel
theorem dX7_would_67 : decode cX7_would 67 = .ok (.aload_n 0, 1) := by decide +kernel
theorem dX7_would_68 : decode cX7_would 68 = .ok (.getfield 12, 3) := by decide +kernel
theorem dX7_would_71 : decode cX7_would 71 = .ok (.getfield 115, 3) := by decide +kernel
theorem dX7_would_74 : decode cX7_would 74 = .ok (.invokevirtual 168, 3) := by decide +kernel
theorem dX7_would_77 : decode cX7_would 77 = .ok (.istore 7, 2) := by decide +kernel
theorem dX7_would_79 : decode cX7_would 79 = .ok (.iload 4, 2) := by decide +kernel
theorem dX7_would_81 : decode cX7_would 81 = .ok (.ifCond .ne 8, 3) := by decide +kernel
theorem dX7_would_84 : decode cX7_would 84 = .ok (.iload 7, 2) := by decide +kernel
theorem dX7_would_86 : decode cX7_would 86 = .ok (.goto 10, 3) := by decide +kernel
theorem dX7_would_89 : decode cX7_would 89 = .ok (.aload 6, 2) := by decide +kernel
theorem dX7_would_91 : decode cX7_would 91 = .ok (.iload 7, 2) := by decide +kernel
theorem dX7_would_93 : decode cX7_would 93 = .ok (.invokevirtual 127, 3) := by decide +kernel
theorem dX7_would_96 : decode cX7_would 96 = .ok (.ireturn, 1) := by decide +kernel
theorem dX7_can_0 : decode cX7_can 0 = .ok (.aload_n 0, 1) := by decide +kernel
theorem dX7_can_1 : decode cX7_can 1 = .ok (.getfield 12, 3) := by decide +kernel
theorem dX7_can_4 : decode cX7_can 4 = .ok (.iload_n 1, 1) := by decide +kernel
theorem dX7_can_5 : decode cX7_can 5 = .ok (.invokevirtual 98, 3) := by decide +kernel
theorem dX7_can_8 : decode cX7_can 8 = .ok (.ifCond .eq 9, 3) := by decide +kernel
theorem dX7_can_11 : decode cX7_can 11 = .ok (.aload_n 0, 1) := by decide +kernel
theorem dX7_can_12 : decode cX7_can 12 = .ok (.iconst (-1), 1) := by decide +kernel
theorem dX7_can_13 : decode cX7_can 13 = .ok (.invokevirtual 71, 3) := by decide +kernel
theorem dX7_can_16 : decode cX7_can 16 = .ok (.ireturn, 1) := by decide +kernel
theorem dX7_can_17 : decode cX7_can 17 = .ok (.iconst 0, 1) := by decide +kernel
theorem dX7_can_18 : decode cX7_can 18 = .ok (.istore_n 2, 1) := by decide +kernel
theorem dX7_can_19 : decode cX7_can 19 = .ok (.iconst 0, 1) := by decide +kernel
theorem dX7_can_20 : decode cX7_can 20 = .ok (.istore_n 3, 1) := by decide +kernel
theorem dX7_can_21 : decode cX7_can 21 = .ok (.iload_n 3, 1) := by decide +kernel
theorem dX7_can_22 : decode cX7_can 22 = .ok (.bipush 19, 2) := by decide +kernel
theorem dX7_can_24 : decode cX7_can 24 = .ok (.if_icmp .gt 36, 3) := by decide +kernel
theorem dX7_can_27 : decode cX7_can 27 = .ok (.iload_n 2, 1) := by decide +kernel
theorem dX7_can_28 : decode cX7_can 28 = .ok (.iconst 1, 1) := by decide +kernel
theorem dX7_can_29 : decode cX7_can 29 = .ok (.aload_n 0, 1) := by decide +kernel
theorem dX7_can_30 : decode cX7_can 30 = .ok (.getfield 12, 3) := by decide +kernel
theorem dX7_can_33 : decode cX7_can 33 = .ok (.iload_n 1, 1) := by decide +kernel
theorem dX7_can_34 : decode cX7_can 34 = .ok (.invokevirtual 102, 3) := by decide +kernel
theorem dX7_can_37 : decode cX7_can 37 = .ok (.iload_n 3, 1) := by decide +kernel
theorem dX7_can_38 : decode cX7_can 38 = .ok (.iconst 5, 1) := by decide +kernel
theorem dX7_can_39 : decode cX7_can 39 = .ok (.imul, 1) := by decide +kernel
theorem dX7_can_40 : decode cX7_can 40 = .ok (.iconst 0, 1) := by decide +kernel
theorem dX7_can_41 : decode cX7_can 41 = .ok (.aload_n 0, 1) := by decide +kernel
theorem dX7_can_42 : decode cX7_can 42 = .ok (.getfield 12, 3) := by decide +kernel
theorem dX7_can_45 : decode cX7_can 45 = .ok (.getfield 115, 3) := by decide +kernel
theorem dX7_can_48 : decode cX7_can 48 = .ok (.invokevirtual 168, 3) := by decide +kernel
theorem dX7_can_51 : decode cX7_can 51 = .ok (.ishl, 1) := by decide +kernel
theorem dX7_can_52 : decode cX7_can 52 = .ok (.ior, 1) := by decide +kernel
theorem dX7_can_53 : decode cX7_can 53 = .ok (.istore_n 2, 1) := by decide +kernel
theorem dX7_can_54 : decode cX7_can 54 = .ok (.iinc 3 1, 3) := by decide +kernel
theorem dX7_can_57 : decode cX7_can 57 = .ok (.goto (-36), 3) := by decide +kernel
theorem dX7_can_60 : decode cX7_can 60 = .ok (.iload_n 2, 1) := by decide +kernel
theorem dX7_can_61 : decode cX7_can 61 = .ok (.ireturn, 1) := by decide +kernel
theorem dX7_fewest_0 : decode cX7_fewest 0 = .ok (.aload_n 0, 1) := by decide +kernel
theorem dX7_fewest_1 : decode cX7_fewest 1 = .ok (.getfield 12, 3) := by decide +kernel
theorem dX7_fewest_4 : decode cX7_fewest 4 = .ok (.iload_n 1, 1) := by decide +kernel
theorem dX7_fewest_5 : decode cX7_fewest 5 = .ok (.invokevirtual 98, 3) := by decide +kernel
theorem dX7_fewest_8 : decode cX7_fewest 8 = .ok (.ifCond .ne 10, 3) := by decide +kernel
theorem dX7_fewest_11 : decode cX7_fewest 11 = .ok (.iload_n 2, 1) := by decide +kernel
theorem dX7_fewest_12 : decode cX7_fewest 12 = .ok (.invokestatic 124, 3) := by decide +kernel
theorem dX7_fewest_15 : decode cX7_fewest 15 = .ok (.ifCond .eq 9, 3) := by decide +kernel
theorem dX7_fewest_18 : decode cX7_fewest 18 = .ok (.aload_n 0, 1) := by decide +kernel
theorem dX7_fewest_19 : decode cX7_fewest 19 = .ok (.iconst (-1), 1) := by decide +kernel
theorem dX7_fewest_20 : decode cX7_fewest 20 = .ok (.invokevirtual 71, 3) := by decide +kernel
theorem dX7_fewest_23 : decode cX7_fewest 23 = .ok (.ireturn, 1) := by decide +kernel
theorem dX7_fewest_24 : decode cX7_fewest 24 = .ok (.aload_n 0, 1) := by decide +kernel
theorem dX7_fewest_25 : decode cX7_fewest 25 = .ok (.getfield 12, 3) := by decide +kernel
theorem dX7_fewest_28 : decode cX7_fewest 28 = .ok (.iload_n 1, 1) := by decide +kernel
theorem dX7_fewest_29 : decode cX7_fewest 29 = .ok (.invokevirtual 102, 3) := by decide +kernel
theorem dX7_fewest_32 : decode cX7_fewest 32 = .ok (.iload_n 2, 1) := by decide +kernel
theorem dX7_fewest_33 : decode cX7_fewest 33 = .ok (.aload_n 0, 1) := by decide +kernel
theorem dX7_fewest_34 : decode cX7_fewest 34 = .ok (.getfield 12, 3) := by decide +kernel
theorem dX7_fewest_37 : decode cX7_fewest 37 = .ok (.getfield 115, 3) := by decide +kernel
theorem dX7_fewest_40 : decode cX7_fewest 40 = .ok (.invokevirtual 171, 3) := by decide +kernel
theorem dX7_fewest_43 : decode cX7_fewest 43 = .ok (.ireturn, 1) := by decide +kernel
theorem dX7_gladness_0 : decode cX7_gladness 0 = .ok (.aload_n 0, 1) := by decide +kernel
theorem dX7_gladness_1 : decode cX7_gladness 1 = .ok (.getfield 12, 3) := by decide +kernel
theorem dX7_gladness_4 : decode cX7_gladness 4 = .ok (.aload_n 0, 1) := by decide +kernel
theorem dX7_gladness_5 : decode cX7_gladness 5 = .ok (.getfield 12, 3) := by decide +kernel
theorem dX7_gladness_8 : decode cX7_gladness 8 = .ok (.getfield 115, 3) := by decide +kernel
theorem dX7_gladness_11 : decode cX7_gladness 11 = .ok (.invokevirtual 174, 3) := by decide +kernel
theorem dX7_gladness_14 : decode cX7_gladness 14 = .ok (.ireturn, 1) := by decide +kernel
theorem dX7_notOneOfTwo_0 : decode cX7_notOneOfTwo 0 = .ok (.iload_n 0, 1) := by decide +kernel
theorem dX7_notOneOfTwo_1 : decode cX7_notOneOfTwo 1 = .ok (.ifCond .lt 8, 3) := by decide +kernel
theorem dX7_notOneOfTwo_4 : decode cX7_notOneOfTwo 4 = .ok (.iload_n 0, 1) := by decide +kernel
theorem dX7_notOneOfTwo_5 : decode cX7_notOneOfTwo 5 = .ok (.iconst 1, 1) := by decide +kernel
theorem dX7_notOneOfTwo_6 : decode cX7_notOneOfTwo 6 = .ok (.if_icmp .le 7, 3) := by decide +kernel
theorem dX7_notOneOfTwo_9 : decode cX7_notOneOfTwo 9 = .ok (.iconst 1, 1) := by decide +kernel
theorem dX7_notOneOfTwo_10 : decode cX7_notOneOfTwo 10 = .ok (.goto 4, 3) := by decide +kernel
theorem dX7_notOneOfTwo_13 : decode cX7_notOneOfTwo 13 = .ok (.iconst 0, 1) := by decide +kernel
theorem dX7_notOneOfTwo_14 : decode cX7_notOneOfTwo 14 = .ok (.ireturn, 1) := by decide +kernel
theorem dX7_agree_0 : decode cX7_agree 0 = .ok (.iload_n 1, 1) := by decide +kernel
theorem dX7_agree_1 : decode cX7_agree 1 = .ok (.invokestatic 177, 3) := by decide +kernel
theorem dX7_agree_4 : decode cX7_agree 4 = .ok (.ifCond .eq 10, 3) := by decide +kernel
theorem dX7_agree_7 : decode cX7_agree 7 = .ok (.aload_n 0, 1) := by decide +kernel
theorem dX7_agree_8 : decode cX7_agree 8 = .ok (.bipush (-2), 2) := by decide +kernel
theorem dX7_agree_10 : decode cX7_agree 10 = .ok (.invokevirtual 71, 3) := by decide +kernel
theorem dX7_agree_13 : decode cX7_agree 13 = .ok (.ireturn, 1) := by decide +kernel
theorem dX7_agree_14 : decode cX7_agree 14 = .ok (.iload_n 1, 1) := by decide +kernel
theorem dX7_agree_15 : decode cX7_agree 15 = .ok (.ifCond .ne 13, 3) := by decide +kernel
theorem dX7_agree_18 : decode cX7_agree 18 = .ok (.aload_n 0, 1) := by decide +kernel
theorem dX7_agree_19 : decode cX7_agree 19 = .ok (.getfield 12, 3) := by decide +kernel
theorem dX7_agree_22 : decode cX7_agree 22 = .ok (.invokevirtual 180, 3) := by decide +kernel
theorem dX7_agree_25 : decode cX7_agree 25 = .ok (.goto 10, 3) := by decide +kernel
theorem dX7_agree_28 : decode cX7_agree 28 = .ok (.aload_n 0, 1) := by decide +kernel
theorem dX7_agree_29 : decode cX7_agree 29 = .ok (.getfield 12, 3) := by decide +kernel
theorem dX7_agree_32 : decode cX7_agree 32 = .ok (.invokevirtual 183, 3) := by decide +kernel
theorem dX7_agree_35 : decode cX7_agree 35 = .ok (.ireturn, 1) := by decide +kernel
theorem dX7_most_0 : decode cX7_most 0 = .ok (.iload_n 1, 1) := by decide +kernel
theorem dX7_most_1 : decode cX7_most 1 = .ok (.invokestatic 177, 3) := by decide +kernel
theorem dX7_most_4 : decode cX7_most 4 = .ok (.ifCond .eq 10, 3) := by decide +kernel
theorem dX7_most_7 : decode cX7_most 7 = .ok (.aload_n 0, 1) := by decide +kernel
theorem dX7_most_8 : decode cX7_most 8 = .ok (.bipush (-2), 2) := by decide +kernel
theorem dX7_most_10 : decode cX7_most 10 = .ok (.invokevirtual 71, 3) := by decide +kernel
theorem dX7_most_13 : decode cX7_most 13 = .ok (.ireturn, 1) := by decide +kernel
theorem dX7_most_14 : decode cX7_most 14 = .ok (.aload_n 0, 1) := by decide +kernel
theorem dX7_most_15 : decode cX7_most 15 = .ok (.getfield 46, 3) := by decide +kernel
theorem dX7_most_18 : decode cX7_most 18 = .ok (.aload_n 0, 1) := by decide +kernel
theorem dX7_most_19 : decode cX7_most 19 = .ok (.getfield 12, 3) := by decide +kernel
theorem dX7_most_22 : decode cX7_most 22 = .ok (.aload_n 0, 1) := by decide +kernel
theorem dX7_most_23 : decode cX7_most 23 = .ok (.getfield 12, 3) := by decide +kernel
theorem dX7_most_26 : decode cX7_most 26 = .ok (.getfield 115, 3) := by decide +kernel
theorem dX7_most_29 : decode cX7_most 29 = .ok (.invokevirtual 186, 3) := by decide +kernel
theorem dX7_most_32 : decode cX7_most 32 = .ok (.aload_n 0, 1) := by decide +kernel
theorem dX7_most_33 : decode cX7_most 33 = .ok (.getfield 46, 3) := by decide +kernel
theorem dX7_most_36 : decode cX7_most 36 = .ok (.aload_n 0, 1) := by decide +kernel
theorem dX7_most_37 : decode cX7_most 37 = .ok (.getfield 12, 3) := by decide +kernel
theorem dX7_most_40 : decode cX7_most 40 = .ok (.getfield 151, 3) := by decide +kernel
theorem dX7_most_43 : decode cX7_most 43 = .ok (.invokevirtual 190, 3) := by decide +kernel
theorem dX7_most_46 : decode cX7_most 46 = .ok (.istore_n 2, 1) := by decide +kernel
theorem dX7_most_47 : decode cX7_most 47 = .ok (.iload_n 1, 1) := by decide +kernel
theorem dX7_most_48 : decode cX7_most 48 = .ok (.ifCond .ne 22, 3) := by decide +kernel
theorem dX7_most_51 : decode cX7_most 51 = .ok (.aload_n 0, 1) := by decide +kernel
theorem dX7_most_52 : decode cX7_most 52 = .ok (.getfield 46, 3) := by decide +kernel
theorem dX7_most_55 : decode cX7_most 55 = .ok (.getfield 193, 3) := by decide +kernel
theorem dX7_most_58 : decode cX7_most 58 = .ok (.aload_n 0, 1) := by decide +kernel
theorem dX7_most_59 : decode cX7_most 59 = .ok (.getfield 46, 3) := by decide +kernel
theorem dX7_most_62 : decode cX7_most 62 = .ok (.iload_n 2, 1) := by decide +kernel
theorem dX7_most_63 : decode cX7_most 63 = .ok (.invokevirtual 196, 3) := by decide +kernel
theorem dX7_most_66 : decode cX7_most 66 = .ok (.iadd, 1) := by decide +kernel
theorem dX7_most_67 : decode cX7_most 67 = .ok (.goto 4, 3) := by decide +kernel
theorem dX7_most_70 : decode cX7_most 70 = .ok (.iload_n 2, 1) := by decide +kernel
theorem dX7_most_71 : decode cX7_most 71 = .ok (.ireturn, 1) := by decide +kernel
theorem dX7_spendSteps_0 : decode cX7_spendSteps 0 = .ok (.bipush 19, 2) := by decide +kernel
theorem dX7_spendSteps_2 : decode cX7_spendSteps 2 = .ok (.istore_n 2, 1) := by decide +kernel
theorem dX7_spendSteps_3 : decode cX7_spendSteps 3 = .ok (.iload_n 2, 1) := by decide +kernel
theorem dX7_spendSteps_4 : decode cX7_spendSteps 4 = .ok (.ifCond .lt 96, 3) := by decide +kernel
theorem dX7_spendSteps_7 : decode cX7_spendSteps 7 = .ok (.aload_n 0, 1) := by decide +kernel
theorem dX7_spendSteps_8 : decode cX7_spendSteps 8 = .ok (.getfield 64, 3) := by decide +kernel
theorem dX7_spendSteps_11 : decode cX7_spendSteps 11 = .ok (.iload_n 2, 1) := by decide +kernel
theorem dX7_spendSteps_12 : decode cX7_spendSteps 12 = .ok (.iaload, 1) := by decide +kernel
theorem dX7_spendSteps_13 : decode cX7_spendSteps 13 = .ok (.aload_n 1, 1) := by decide +kernel
theorem dX7_spendSteps_14 : decode cX7_spendSteps 14 = .ok (.aload_n 0, 1) := by decide +kernel
theorem dX7_spendSteps_15 : decode cX7_spendSteps 15 = .ok (.getfield 12, 3) := by decide +kernel
theorem dX7_spendSteps_18 : decode cX7_spendSteps 18 = .ok (.getfield 115, 3) := by decide +kernel
theorem dX7_spendSteps_21 : decode cX7_spendSteps 21 = .ok (.invokevirtual 118, 3) := by decide +kernel
theorem dX7_spendSteps_24 : decode cX7_spendSteps 24 = .ok (.iadd, 1) := by decide +kernel
theorem dX7_spendSteps_25 : decode cX7_spendSteps 25 = .ok (.istore_n 3, 1) := by decide +kernel
theorem dX7_spendSteps_26 : decode cX7_spendSteps 26 = .ok (.iconst 0, 1) := by decide +kernel
theorem dX7_spendSteps_27 : decode cX7_spendSteps 27 = .ok (.istore 4, 2) := by decide +kernel
theorem dX7_spendSteps_29 : decode cX7_spendSteps 29 = .ok (.iload 4, 2) := by decide +kernel
theorem dX7_spendSteps_31 : decode cX7_spendSteps 31 = .ok (.iload_n 2, 1) := by decide +kernel
theorem dX7_spendSteps_32 : decode cX7_spendSteps 32 = .ok (.if_icmp .gt 55, 3) := by decide +kernel
theorem dX7_spendSteps_35 : decode cX7_spendSteps 35 = .ok (.aload_n 1, 1) := by decide +kernel
theorem dX7_spendSteps_36 : decode cX7_spendSteps 36 = .ok (.invokevirtual 161, 3) := by decide +kernel
theorem dX7_spendSteps_39 : decode cX7_spendSteps 39 = .ok (.ifCond .ne 48, 3) := by decide +kernel
theorem dX7_spendSteps_42 : decode cX7_spendSteps 42 = .ok (.aload_n 1, 1) := by decide +kernel
theorem dX7_spendSteps_43 : decode cX7_spendSteps 43 = .ok (.iload 4, 2) := by decide +kernel
theorem dX7_spendSteps_45 : decode cX7_spendSteps 45 = .ok (.iconst 5, 1) := by decide +kernel
theorem dX7_spendSteps_46 : decode cX7_spendSteps 46 = .ok (.imul, 1) := by decide +kernel
theorem dX7_spendSteps_47 : decode cX7_spendSteps 47 = .ok (.iconst 0, 1) := by decide +kernel
theorem dX7_spendSteps_48 : decode cX7_spendSteps 48 = .ok (.aload_n 0, 1) := by decide +kernel
theorem dX7_spendSteps_49 : decode cX7_spendSteps 49 = .ok (.getfield 12, 3) := by decide +kernel
theorem dX7_spendSteps_52 : decode cX7_spendSteps 52 = .ok (.getfield 115, 3) := by decide +kernel
theorem dX7_spendSteps_55 : decode cX7_spendSteps 55 = .ok (.invokevirtual 168, 3) := by decide +kernel
theorem dX7_spendSteps_58 : decode cX7_spendSteps 58 = .ok (.istore 5, 2) := by decide +kernel
theorem dX7_spendSteps_60 : decode cX7_spendSteps 60 = .ok (.iload_n 3, 1) := by decide +kernel
theorem dX7_spendSteps_61 : decode cX7_spendSteps 61 = .ok (.aload_n 0, 1) := by decide +kernel
theorem dX7_spendSteps_62 : decode cX7_spendSteps 62 = .ok (.getfield 64, 3) := by decide +kernel
theorem dX7_spendSteps_65 : decode cX7_spendSteps 65 = .ok (.iload_n 2, 1) := by decide +kernel
theorem dX7_spendSteps_66 : decode cX7_spendSteps 66 = .ok (.iload 4, 2) := by decide +kernel
theorem dX7_spendSteps_68 : decode cX7_spendSteps 68 = .ok (.isub, 1) := by decide +kernel
theorem dX7_spendSteps_69 : decode cX7_spendSteps 69 = .ok (.iaload, 1) := by decide +kernel
theorem dX7_spendSteps_70 : decode cX7_spendSteps 70 = .ok (.aload_n 1, 1) := by decide +kernel
theorem dX7_spendSteps_71 : decode cX7_spendSteps 71 = .ok (.iload 5, 2) := by decide +kernel
theorem dX7_spendSteps_73 : decode cX7_spendSteps 73 = .ok (.invokevirtual 127, 3) := by decide +kernel
theorem dX7_spendSteps_76 : decode cX7_spendSteps 76 = .ok (.iadd, 1) := by decide +kernel
theorem dX7_spendSteps_77 : decode cX7_spendSteps 77 = .ok (.invokestatic 233, 3) := by decide +kernel
theorem dX7_spendSteps_80 : decode cX7_spendSteps 80 = .ok (.istore_n 3, 1) := by decide +kernel
theorem dX7_spendSteps_81 : decode cX7_spendSteps 81 = .ok (.iinc 4 1, 3) := by decide +kernel
theorem dX7_spendSteps_84 : decode cX7_spendSteps 84 = .ok (.goto (-55), 3) := by decide +kernel
theorem dX7_spendSteps_87 : decode cX7_spendSteps 87 = .ok (.aload_n 0, 1) := by decide +kernel
theorem dX7_spendSteps_88 : decode cX7_spendSteps 88 = .ok (.getfield 64, 3) := by decide +kernel
theorem dX7_spendSteps_91 : decode cX7_spendSteps 91 = .ok (.iload_n 2, 1) := by decide +kernel
theorem dX7_spendSteps_92 : decode cX7_spendSteps 92 = .ok (.iload_n 3, 1) := by decide +kernel
theorem dX7_spendSteps_93 : decode cX7_spendSteps 93 = .ok (.iastore, 1) := by decide +kernel
theorem dX7_spendSteps_94 : decode cX7_spendSteps 94 = .ok (.iinc 2 (-1), 3) := by decide +kernel
theorem dX7_spendSteps_97 : decode cX7_spendSteps 97 = .ok (.goto (-94), 3) := by decide +kernel
theorem dX7_spendSteps_100 : decode cX7_spendSteps 100 = .ok (.return_, 1) := by decide +kernel
theorem dX7_byMinutes_0 : decode cX7_byMinutes 0 = .ok (.iload_n 1, 1) := by decide +kernel
theorem dX7_byMinutes_1 : decode cX7_byMinutes 1 = .ok (.iconst 0, 1) := by decide +kernel
theorem dX7_byMinutes_2 : decode cX7_byMinutes 2 = .ok (.bipush 99, 2) := by decide +kernel
theorem dX7_byMinutes_4 : decode cX7_byMinutes 4 = .ok (.invokestatic 137, 3) := by decide +kernel
theorem dX7_byMinutes_7 : decode cX7_byMinutes 7 = .ok (.istore_n 2, 1) := by decide +kernel
theorem dX7_byMinutes_8 : decode cX7_byMinutes 8 = .ok (.iload_n 2, 1) := by decide +kernel
theorem dX7_byMinutes_9 : decode cX7_byMinutes 9 = .ok (.ifCond .eq 9, 3) := by decide +kernel
theorem dX7_byMinutes_12 : decode cX7_byMinutes 12 = .ok (.aload_n 0, 1) := by decide +kernel
theorem dX7_byMinutes_13 : decode cX7_byMinutes 13 = .ok (.iload_n 2, 1) := by decide +kernel
theorem dX7_byMinutes_14 : decode cX7_byMinutes 14 = .ok (.invokevirtual 71, 3) := by decide +kernel
theorem dX7_byMinutes_17 : decode cX7_byMinutes 17 = .ok (.ireturn, 1) := by decide +kernel
theorem dX7_byMinutes_18 : decode cX7_byMinutes 18 = .ok (.iconst 0, 1) := by decide +kernel
theorem dX7_byMinutes_19 : decode cX7_byMinutes 19 = .ok (.istore_n 3, 1) := by decide +kernel
theorem dX7_byMinutes_20 : decode cX7_byMinutes 20 = .ok (.iload_n 3, 1) := by decide +kernel
theorem dX7_byMinutes_21 : decode cX7_byMinutes 21 = .ok (.bipush 19, 2) := by decide +kernel
theorem dX7_byMinutes_23 : decode cX7_byMinutes 23 = .ok (.if_icmp .gt 16, 3) := by decide +kernel
theorem dX7_byMinutes_26 : decode cX7_byMinutes 26 = .ok (.aload_n 0, 1) := by decide +kernel
theorem dX7_byMinutes_27 : decode cX7_byMinutes 27 = .ok (.getfield 64, 3) := by decide +kernel
theorem dX7_byMinutes_30 : decode cX7_byMinutes 30 = .ok (.iload_n 3, 1) := by decide +kernel
theorem dX7_byMinutes_31 : decode cX7_byMinutes 31 = .ok (.iconst 0, 1) := by decide +kernel
theorem dX7_byMinutes_32 : decode cX7_byMinutes 32 = .ok (.iastore, 1) := by decide +kernel
theorem dX7_byMinutes_33 : decode cX7_byMinutes 33 = .ok (.iinc 3 1, 3) := by decide +kernel
theorem dX7_byMinutes_36 : decode cX7_byMinutes 36 = .ok (.goto (-16), 3) := by decide +kernel
theorem dX7_byMinutes_39 : decode cX7_byMinutes 39 = .ok (.iconst 0, 1) := by decide +kernel
theorem dX7_byMinutes_40 : decode cX7_byMinutes 40 = .ok (.istore_n 3, 1) := by decide +kernel
theorem dX7_byMinutes_41 : decode cX7_byMinutes 41 = .ok (.iload_n 3, 1) := by decide +kernel
theorem dX7_byMinutes_42 : decode cX7_byMinutes 42 = .ok (.aload_n 0, 1) := by decide +kernel
theorem dX7_byMinutes_43 : decode cX7_byMinutes 43 = .ok (.getfield 12, 3) := by decide +kernel
theorem dX7_byMinutes_46 : decode cX7_byMinutes 46 = .ok (.getfield 199, 3) := by decide +kernel
theorem dX7_byMinutes_49 : decode cX7_byMinutes 49 = .ok (.if_icmp .ge 21, 3) := by decide +kernel
theorem dX7_byMinutes_52 : decode cX7_byMinutes 52 = .ok (.aload_n 0, 1) := by decide +kernel
theorem dX7_byMinutes_53 : decode cX7_byMinutes 53 = .ok (.aload_n 0, 1) := by decide +kernel
theorem dX7_byMinutes_54 : decode cX7_byMinutes 54 = .ok (.getfield 12, 3) := by decide +kernel
theorem dX7_byMinutes_57 : decode cX7_byMinutes 57 = .ok (.iload_n 3, 1) := by decide +kernel
theorem dX7_byMinutes_58 : decode cX7_byMinutes 58 = .ok (.invokevirtual 102, 3) := by decide +kernel
theorem dX7_byMinutes_61 : decode cX7_byMinutes 61 = .ok (.invokevirtual 202, 3) := by decide +kernel
theorem dX7_byMinutes_64 : decode cX7_byMinutes 64 = .ok (.iinc 3 1, 3) := by decide +kernel
theorem dX7_byMinutes_67 : decode cX7_byMinutes 67 = .ok (.goto (-26), 3) := by decide +kernel
theorem dX7_byMinutes_70 : decode cX7_byMinutes 70 = .ok (.aload_n 0, 1) := by decide +kernel
theorem dX7_byMinutes_71 : decode cX7_byMinutes 71 = .ok (.getfield 64, 3) := by decide +kernel
theorem dX7_byMinutes_74 : decode cX7_byMinutes 74 = .ok (.iload_n 1, 1) := by decide +kernel
theorem dX7_byMinutes_75 : decode cX7_byMinutes 75 = .ok (.iconst 5, 1) := by decide +kernel
theorem dX7_byMinutes_76 : decode cX7_byMinutes 76 = .ok (.idiv, 1) := by decide +kernel
theorem dX7_byMinutes_77 : decode cX7_byMinutes 77 = .ok (.iaload, 1) := by decide +kernel
theorem dX7_byMinutes_78 : decode cX7_byMinutes 78 = .ok (.ireturn, 1) := by decide +kernel
theorem dX7_fewDrops_0 : decode cX7_fewDrops 0 = .ok (.aload_n 0, 1) := by decide +kernel
theorem dX7_fewDrops_1 : decode cX7_fewDrops 1 = .ok (.getfield 46, 3) := by decide +kernel
theorem dX7_fewDrops_4 : decode cX7_fewDrops 4 = .ok (.aload_n 0, 1) := by decide +kernel
theorem dX7_fewDrops_5 : decode cX7_fewDrops 5 = .ok (.getfield 12, 3) := by decide +kernel
theorem dX7_fewDrops_8 : decode cX7_fewDrops 8 = .ok (.aload_n 0, 1) := by decide +kernel
theorem dX7_fewDrops_9 : decode cX7_fewDrops 9 = .ok (.getfield 12, 3) := by decide +kernel
theorem dX7_fewDrops_12 : decode cX7_fewDrops 12 = .ok (.getfield 115, 3) := by decide +kernel
theorem dX7_fewDrops_15 : decode cX7_fewDrops 15 = .ok (.invokevirtual 186, 3) := by decide +kernel
theorem dX7_fewDrops_18 : decode cX7_fewDrops 18 = .ok (.aload_n 0, 1) := by decide +kernel
theorem dX7_fewDrops_19 : decode cX7_fewDrops 19 = .ok (.getfield 46, 3) := by decide +kernel
theorem dX7_fewDrops_22 : decode cX7_fewDrops 22 = .ok (.aload_n 0, 1) := by decide +kernel
theorem dX7_fewDrops_23 : decode cX7_fewDrops 23 = .ok (.getfield 46, 3) := by decide +kernel
theorem dX7_fewDrops_26 : decode cX7_fewDrops 26 = .ok (.aload_n 0, 1) := by decide +kernel
theorem dX7_fewDrops_27 : decode cX7_fewDrops 27 = .ok (.getfield 46, 3) := by decide +kernel
theorem dX7_fewDrops_30 : decode cX7_fewDrops 30 = .ok (.bipush 99, 2) := by decide +kernel
theorem dX7_fewDrops_32 : decode cX7_fewDrops 32 = .ok (.invokevirtual 190, 3) := by decide +kernel
theorem dX7_fewDrops_35 : decode cX7_fewDrops 35 = .ok (.invokevirtual 196, 3) := by decide +kernel
theorem dX7_fewDrops_38 : decode cX7_fewDrops 38 = .ok (.invokevirtual 206, 3) := by decide +kernel
theorem dX7_fewDrops_41 : decode cX7_fewDrops 41 = .ok (.ireturn, 1) := by decide +kernel
theorem dX7_minutesOfBoth_0 : decode cX7_minutesOfBoth 0 = .ok (.aload_n 1, 1) := by decide +kernel
theorem dX7_minutesOfBoth_1 : decode cX7_minutesOfBoth 1 = .ok (.iload_n 3, 1) := by decide +kernel
theorem dX7_minutesOfBoth_2 : decode cX7_minutesOfBoth 2 = .ok (.aload_n 0, 1) := by decide +kernel
theorem dX7_minutesOfBoth_3 : decode cX7_minutesOfBoth 3 = .ok (.getfield 12, 3) := by decide +kernel
theorem dX7_minutesOfBoth_6 : decode cX7_minutesOfBoth 6 = .ok (.getfield 115, 3) := by decide +kernel
theorem dX7_minutesOfBoth_9 : decode cX7_minutesOfBoth 9 = .ok (.invokevirtual 171, 3) := by decide +kernel
theorem dX7_minutesOfBoth_12 : decode cX7_minutesOfBoth 12 = .ok (.istore 4, 2) := by decide +kernel
theorem dX7_minutesOfBoth_14 : decode cX7_minutesOfBoth 14 = .ok (.aload_n 2, 1) := by decide +kernel
theorem dX7_minutesOfBoth_15 : decode cX7_minutesOfBoth 15 = .ok (.iload_n 3, 1) := by decide +kernel
theorem dX7_minutesOfBoth_16 : decode cX7_minutesOfBoth 16 = .ok (.aload_n 0, 1) := by decide +kernel
theorem dX7_minutesOfBoth_17 : decode cX7_minutesOfBoth 17 = .ok (.getfield 12, 3) := by decide +kernel
theorem dX7_minutesOfBoth_20 : decode cX7_minutesOfBoth 20 = .ok (.getfield 115, 3) := by decide +kernel
theorem dX7_minutesOfBoth_23 : decode cX7_minutesOfBoth 23 = .ok (.invokevirtual 171, 3) := by decide +kernel
theorem dX7_minutesOfBoth_26 : decode cX7_minutesOfBoth 26 = .ok (.istore 5, 2) := by decide +kernel
theorem dX7_minutesOfBoth_28 : decode cX7_minutesOfBoth 28 = .ok (.iload 4, 2) := by decide +kernel
theorem dX7_minutesOfBoth_30 : decode cX7_minutesOfBoth 30 = .ok (.bipush (-9), 2) := by decide +kernel
theorem dX7_minutesOfBoth_32 : decode cX7_minutesOfBoth 32 = .ok (.if_icmp .eq 10, 3) := by decide +kernel
theorem dX7_minutesOfBoth_35 : decode cX7_minutesOfBoth 35 = .ok (.iload 5, 2) := by decide +kernel
theorem dX7_minutesOfBoth_37 : decode cX7_minutesOfBoth 37 = .ok (.bipush (-9), 2) := by decide +kernel
theorem dX7_minutesOfBoth_39 : decode cX7_minutesOfBoth 39 = .ok (.if_icmp .ne 8, 3) := by decide +kernel
theorem dX7_minutesOfBoth_42 : decode cX7_minutesOfBoth 42 = .ok (.bipush (-9), 2) := by decide +kernel
theorem dX7_minutesOfBoth_44 : decode cX7_minutesOfBoth 44 = .ok (.goto 8, 3) := by decide +kernel
theorem dX7_minutesOfBoth_47 : decode cX7_minutesOfBoth 47 = .ok (.iload 4, 2) := by decide +kernel
theorem dX7_minutesOfBoth_49 : decode cX7_minutesOfBoth 49 = .ok (.iload 5, 2) := by decide +kernel
theorem dX7_minutesOfBoth_51 : decode cX7_minutesOfBoth 51 = .ok (.iadd, 1) := by decide +kernel
theorem dX7_minutesOfBoth_52 : decode cX7_minutesOfBoth 52 = .ok (.ireturn, 1) := by decide +kernel
theorem dX7_together_0 : decode cX7_together 0 = .ok (.aload_n 0, 1) := by decide +kernel
theorem dX7_together_1 : decode cX7_together 1 = .ok (.getfield 12, 3) := by decide +kernel
theorem dX7_together_4 : decode cX7_together 4 = .ok (.iload_n 1, 1) := by decide +kernel
theorem dX7_together_5 : decode cX7_together 5 = .ok (.iload_n 2, 1) := by decide +kernel
theorem dX7_together_6 : decode cX7_together 6 = .ok (.invokevirtual 130, 3) := by decide +kernel
theorem dX7_together_9 : decode cX7_together 9 = .ok (.ifCond .eq 9, 3) := by decide +kernel
theorem dX7_together_12 : decode cX7_together 12 = .ok (.aload_n 0, 1) := by decide +kernel
theorem dX7_together_13 : decode cX7_together 13 = .ok (.iconst (-1), 1) := by decide +kernel
theorem dX7_together_14 : decode cX7_together 14 = .ok (.invokevirtual 71, 3) := by decide +kernel
theorem dX7_together_17 : decode cX7_together 17 = .ok (.ireturn, 1) := by decide +kernel
theorem dX7_together_18 : decode cX7_together 18 = .ok (.iload_n 3, 1) := by decide +kernel
theorem dX7_together_19 : decode cX7_together 19 = .ok (.invokestatic 177, 3) := by decide +kernel
theorem dX7_together_22 : decode cX7_together 22 = .ok (.ifCond .eq 10, 3) := by decide +kernel
theorem dX7_together_25 : decode cX7_together 25 = .ok (.aload_n 0, 1) := by decide +kernel
theorem dX7_together_26 : decode cX7_together 26 = .ok (.bipush (-2), 2) := by decide +kernel
theorem dX7_together_28 : decode cX7_together 28 = .ok (.invokevirtual 71, 3) := by decide +kernel
theorem dX7_together_31 : decode cX7_together 31 = .ok (.ireturn, 1) := by decide +kernel
theorem dX7_together_32 : decode cX7_together 32 = .ok (.aload_n 0, 1) := by decide +kernel
theorem dX7_together_33 : decode cX7_together 33 = .ok (.getfield 12, 3) := by decide +kernel
theorem dX7_together_36 : decode cX7_together 36 = .ok (.iload_n 1, 1) := by decide +kernel
theorem dX7_together_37 : decode cX7_together 37 = .ok (.invokevirtual 102, 3) := by decide +kernel
theorem dX7_together_40 : decode cX7_together 40 = .ok (.invokevirtual 161, 3) := by decide +kernel
theorem dX7_together_43 : decode cX7_together 43 = .ok (.ifCond .ne 17, 3) := by decide +kernel
theorem dX7_together_46 : decode cX7_together 46 = .ok (.aload_n 0, 1) := by decide +kernel
theorem dX7_together_47 : decode cX7_together 47 = .ok (.getfield 12, 3) := by decide +kernel
theorem dX7_together_50 : decode cX7_together 50 = .ok (.iload_n 2, 1) := by decide +kernel
theorem dX7_together_51 : decode cX7_together 51 = .ok (.invokevirtual 102, 3) := by decide +kernel
theorem dX7_together_54 : decode cX7_together 54 = .ok (.invokevirtual 161, 3) := by decide +kernel
theorem dX7_together_57 : decode cX7_together 57 = .ok (.ifCond .eq 10, 3) := by decide +kernel
theorem dX7_together_60 : decode cX7_together 60 = .ok (.aload_n 0, 1) := by decide +kernel
theorem dX7_together_61 : decode cX7_together 61 = .ok (.bipush (-3), 2) := by decide +kernel
theorem dX7_together_63 : decode cX7_together 63 = .ok (.invokevirtual 71, 3) := by decide +kernel
theorem dX7_together_66 : decode cX7_together 66 = .ok (.ireturn, 1) := by decide +kernel
theorem dX7_together_67 : decode cX7_together 67 = .ok (.bipush (-9), 2) := by decide +kernel
theorem dX7_together_69 : decode cX7_together 69 = .ok (.istore 4, 2) := by decide +kernel
theorem dX7_together_71 : decode cX7_together 71 = .ok (.bipush (-9), 2) := by decide +kernel
theorem dX7_together_73 : decode cX7_together 73 = .ok (.istore 5, 2) := by decide +kernel
theorem dX7_together_75 : decode cX7_together 75 = .ok (.iconst 0, 1) := by decide +kernel
theorem dX7_together_76 : decode cX7_together 76 = .ok (.istore 6, 2) := by decide +kernel
theorem dX7_together_78 : decode cX7_together 78 = .ok (.iload 6, 2) := by decide +kernel
theorem dX7_together_80 : decode cX7_together 80 = .ok (.bipush 12, 2) := by decide +kernel
theorem dX7_together_82 : decode cX7_together 82 = .ok (.if_icmp .ge 62, 3) := by decide +kernel
theorem dX7_together_85 : decode cX7_together 85 = .ok (.aload_n 0, 1) := by decide +kernel
theorem dX7_together_86 : decode cX7_together 86 = .ok (.aload_n 0, 1) := by decide +kernel
theorem dX7_together_87 : decode cX7_together 87 = .ok (.getfield 12, 3) := by decide +kernel
theorem dX7_together_90 : decode cX7_together 90 = .ok (.iload_n 1, 1) := by decide +kernel
theorem dX7_together_91 : decode cX7_together 91 = .ok (.invokevirtual 102, 3) := by decide +kernel
theorem dX7_together_94 : decode cX7_together 94 = .ok (.aload_n 0, 1) := by decide +kernel
theorem dX7_together_95 : decode cX7_together 95 = .ok (.getfield 12, 3) := by decide +kernel
theorem dX7_together_98 : decode cX7_together 98 = .ok (.iload_n 2, 1) := by decide +kernel
theorem dX7_together_99 : decode cX7_together 99 = .ok (.invokevirtual 102, 3) := by decide +kernel
theorem dX7_together_102 : decode cX7_together 102 = .ok (.iload 6, 2) := by decide +kernel
theorem dX7_together_104 : decode cX7_together 104 = .ok (.invokevirtual 208, 3) := by decide +kernel
theorem dX7_together_107 : decode cX7_together 107 = .ok (.istore 7, 2) := by decide +kernel
theorem dX7_together_109 : decode cX7_together 109 = .ok (.iload 7, 2) := by decide +kernel
theorem dX7_together_111 : decode cX7_together 111 = .ok (.bipush (-9), 2) := by decide +kernel
theorem dX7_together_113 : decode cX7_together 113 = .ok (.if_icmp .eq 25, 3) := by decide +kernel
theorem dX7_together_116 : decode cX7_together 116 = .ok (.iload 4, 2) := by decide +kernel
theorem dX7_together_118 : decode cX7_together 118 = .ok (.bipush (-9), 2) := by decide +kernel
theorem dX7_together_120 : decode cX7_together 120 = .ok (.if_icmp .eq 10, 3) := by decide +kernel
theorem dX7_together_123 : decode cX7_together 123 = .ok (.iload 7, 2) := by decide +kernel
theorem dX7_together_125 : decode cX7_together 125 = .ok (.iload 4, 2) := by decide +kernel
theorem dX7_together_127 : decode cX7_together 127 = .ok (.if_icmp .ge 11, 3) := by decide +kernel
theorem dX7_together_130 : decode cX7_together 130 = .ok (.iload 7, 2) := by decide +kernel
theorem dX7_together_132 : decode cX7_together 132 = .ok (.istore 4, 2) := by decide +kernel
theorem dX7_together_134 : decode cX7_together 134 = .ok (.iload 6, 2) := by decide +kernel
theorem dX7_together_136 : decode cX7_together 136 = .ok (.istore 5, 2) := by decide +kernel
theorem dX7_together_138 : decode cX7_together 138 = .ok (.iinc 6 1, 3) := by decide +kernel
theorem dX7_together_141 : decode cX7_together 141 = .ok (.goto (-63), 3) := by decide +kernel
theorem dX7_together_144 : decode cX7_together 144 = .ok (.iload_n 3, 1) := by decide +kernel
theorem dX7_together_145 : decode cX7_together 145 = .ok (.ifCond .ne 8, 3) := by decide +kernel
theorem dX7_together_148 : decode cX7_together 148 = .ok (.iload 4, 2) := by decide +kernel
theorem dX7_together_150 : decode cX7_together 150 = .ok (.goto 5, 3) := by decide +kernel
theorem dX7_together_153 : decode cX7_together 153 = .ok (.iload 5, 2) := by decide +kernel
theorem dX7_together_155 : decode cX7_together 155 = .ok (.ireturn, 1) := by decide +kernel
theorem dX7_queue_0 : decode cX7_queue 0 = .ok (.iload_n 1, 1) := by decide +kernel
theorem dX7_queue_1 : decode cX7_queue 1 = .ok (.iconst (-1), 1) := by decide +kernel
theorem dX7_queue_2 : decode cX7_queue 2 = .ok (.if_icmp .eq 20, 3) := by decide +kernel
theorem dX7_queue_5 : decode cX7_queue 5 = .ok (.aload_n 0, 1) := by decide +kernel
theorem dX7_queue_6 : decode cX7_queue 6 = .ok (.getfield 12, 3) := by decide +kernel
theorem dX7_queue_9 : decode cX7_queue 9 = .ok (.iload_n 1, 1) := by decide +kernel
theorem dX7_queue_10 : decode cX7_queue 10 = .ok (.invokevirtual 98, 3) := by decide +kernel
theorem dX7_queue_13 : decode cX7_queue 13 = .ok (.ifCond .eq 9, 3) := by decide +kernel
theorem dX7_queue_16 : decode cX7_queue 16 = .ok (.aload_n 0, 1) := by decide +kernel
theorem dX7_queue_17 : decode cX7_queue 17 = .ok (.iconst (-1), 1) := by decide +kernel
theorem dX7_queue_18 : decode cX7_queue 18 = .ok (.invokevirtual 71, 3) := by decide +kernel
theorem dX7_queue_21 : decode cX7_queue 21 = .ok (.ireturn, 1) := by decide +kernel
theorem dX7_queue_22 : decode cX7_queue 22 = .ok (.aload_n 0, 1) := by decide +kernel
theorem dX7_queue_23 : decode cX7_queue 23 = .ok (.getfield 53, 3) := by decide +kernel
theorem dX7_queue_26 : decode cX7_queue 26 = .ok (.aload_n 0, 1) := by decide +kernel
theorem dX7_queue_27 : decode cX7_queue 27 = .ok (.getfield 12, 3) := by decide +kernel
theorem dX7_queue_30 : decode cX7_queue 30 = .ok (.invokevirtual 212, 3) := by decide +kernel
theorem dX7_queue_33 : decode cX7_queue 33 = .ok (.iload_n 1, 1) := by decide +kernel
theorem dX7_queue_34 : decode cX7_queue 34 = .ok (.iconst (-1), 1) := by decide +kernel
theorem dX7_queue_35 : decode cX7_queue 35 = .ok (.if_icmp .ne 13, 3) := by decide +kernel
theorem dX7_queue_38 : decode cX7_queue 38 = .ok (.aload_n 0, 1) := by decide +kernel
theorem dX7_queue_39 : decode cX7_queue 39 = .ok (.getfield 53, 3) := by decide +kernel
theorem dX7_queue_42 : decode cX7_queue 42 = .ok (.getfield 215, 3) := by decide +kernel
theorem dX7_queue_45 : decode cX7_queue 45 = .ok (.goto 11, 3) := by decide +kernel
theorem dX7_queue_48 : decode cX7_queue 48 = .ok (.aload_n 0, 1) := by decide +kernel
theorem dX7_queue_49 : decode cX7_queue 49 = .ok (.getfield 53, 3) := by decide +kernel
theorem dX7_queue_52 : decode cX7_queue 52 = .ok (.iload_n 1, 1) := by decide +kernel
theorem dX7_queue_53 : decode cX7_queue 53 = .ok (.invokevirtual 218, 3) := by decide +kernel
theorem dX7_queue_56 : decode cX7_queue 56 = .ok (.ireturn, 1) := by decide +kernel
theorem dX7_oneMore_0 : decode cX7_oneMore 0 = .ok (.aload_n 0, 1) := by decide +kernel
theorem dX7_oneMore_1 : decode cX7_oneMore 1 = .ok (.getfield 12, 3) := by decide +kernel
theorem dX7_oneMore_4 : decode cX7_oneMore 4 = .ok (.aload_n 0, 1) := by decide +kernel
theorem dX7_oneMore_5 : decode cX7_oneMore 5 = .ok (.getfield 12, 3) := by decide +kernel
theorem dX7_oneMore_8 : decode cX7_oneMore 8 = .ok (.getfield 115, 3) := by decide +kernel
theorem dX7_oneMore_11 : decode cX7_oneMore 11 = .ok (.iconst 1, 1) := by decide +kernel
theorem dX7_oneMore_12 : decode cX7_oneMore 12 = .ok (.iadd, 1) := by decide +kernel
theorem dX7_oneMore_13 : decode cX7_oneMore 13 = .ok (.bipush 11, 2) := by decide +kernel
theorem dX7_oneMore_15 : decode cX7_oneMore 15 = .ok (.invokestatic 221, 3) := by decide +kernel
theorem dX7_oneMore_18 : decode cX7_oneMore 18 = .ok (.invokevirtual 174, 3) := by decide +kernel
theorem dX7_oneMore_21 : decode cX7_oneMore 21 = .ok (.ireturn, 1) := by decide +kernel
theorem dX7_bestYear_0 : decode cX7_bestYear 0 = .ok (.iconst 0, 1) := by decide +kernel
theorem dX7_bestYear_1 : decode cX7_bestYear 1 = .ok (.istore_n 1, 1) := by decide +kernel
theorem dX7_bestYear_2 : decode cX7_bestYear 2 = .ok (.iconst (-1), 1) := by decide +kernel
theorem dX7_bestYear_3 : decode cX7_bestYear 3 = .ok (.istore_n 2, 1) := by decide +kernel
theorem dX7_bestYear_4 : decode cX7_bestYear 4 = .ok (.iconst 0, 1) := by decide +kernel
theorem dX7_bestYear_5 : decode cX7_bestYear 5 = .ok (.istore_n 3, 1) := by decide +kernel
theorem dX7_bestYear_6 : decode cX7_bestYear 6 = .ok (.iload_n 3, 1) := by decide +kernel
theorem dX7_bestYear_7 : decode cX7_bestYear 7 = .ok (.bipush 12, 2) := by decide +kernel
theorem dX7_bestYear_9 : decode cX7_bestYear 9 = .ok (.if_icmp .ge 63, 3) := by decide +kernel
theorem dX7_bestYear_12 : decode cX7_bestYear 12 = .ok (.aload_n 0, 1) := by decide +kernel
theorem dX7_bestYear_13 : decode cX7_bestYear 13 = .ok (.getfield 46, 3) := by decide +kernel
theorem dX7_bestYear_16 : decode cX7_bestYear 16 = .ok (.aload_n 0, 1) := by decide +kernel
theorem dX7_bestYear_17 : decode cX7_bestYear 17 = .ok (.getfield 12, 3) := by decide +kernel
theorem dX7_bestYear_20 : decode cX7_bestYear 20 = .ok (.iload_n 3, 1) := by decide +kernel
theorem dX7_bestYear_21 : decode cX7_bestYear 21 = .ok (.invokevirtual 186, 3) := by decide +kernel
theorem dX7_bestYear_24 : decode cX7_bestYear 24 = .ok (.aload_n 0, 1) := by decide +kernel
theorem dX7_bestYear_25 : decode cX7_bestYear 25 = .ok (.getfield 46, 3) := by decide +kernel
theorem dX7_bestYear_28 : decode cX7_bestYear 28 = .ok (.getfield 193, 3) := by decide +kernel
theorem dX7_bestYear_31 : decode cX7_bestYear 31 = .ok (.aload_n 0, 1) := by decide +kernel
theorem dX7_bestYear_32 : decode cX7_bestYear 32 = .ok (.getfield 46, 3) := by decide +kernel
theorem dX7_bestYear_35 : decode cX7_bestYear 35 = .ok (.aload_n 0, 1) := by decide +kernel
theorem dX7_bestYear_36 : decode cX7_bestYear 36 = .ok (.getfield 46, 3) := by decide +kernel
theorem dX7_bestYear_39 : decode cX7_bestYear 39 = .ok (.aload_n 0, 1) := by decide +kernel
theorem dX7_bestYear_40 : decode cX7_bestYear 40 = .ok (.getfield 12, 3) := by decide +kernel
theorem dX7_bestYear_43 : decode cX7_bestYear 43 = .ok (.getfield 151, 3) := by decide +kernel
theorem dX7_bestYear_46 : decode cX7_bestYear 46 = .ok (.invokevirtual 190, 3) := by decide +kernel
theorem dX7_bestYear_49 : decode cX7_bestYear 49 = .ok (.invokevirtual 196, 3) := by decide +kernel
theorem dX7_bestYear_52 : decode cX7_bestYear 52 = .ok (.iadd, 1) := by decide +kernel
theorem dX7_bestYear_53 : decode cX7_bestYear 53 = .ok (.istore 4, 2) := by decide +kernel
theorem dX7_bestYear_55 : decode cX7_bestYear 55 = .ok (.iload 4, 2) := by decide +kernel
theorem dX7_bestYear_57 : decode cX7_bestYear 57 = .ok (.iload_n 2, 1) := by decide +kernel
theorem dX7_bestYear_58 : decode cX7_bestYear 58 = .ok (.if_icmp .le 8, 3) := by decide +kernel
theorem dX7_bestYear_61 : decode cX7_bestYear 61 = .ok (.iload_n 3, 1) := by decide +kernel
theorem dX7_bestYear_62 : decode cX7_bestYear 62 = .ok (.istore_n 1, 1) := by decide +kernel
theorem dX7_bestYear_63 : decode cX7_bestYear 63 = .ok (.iload 4, 2) := by decide +kernel
theorem dX7_bestYear_65 : decode cX7_bestYear 65 = .ok (.istore_n 2, 1) := by decide +kernel
theorem dX7_bestYear_66 : decode cX7_bestYear 66 = .ok (.iinc 3 1, 3) := by decide +kernel
theorem dX7_bestYear_69 : decode cX7_bestYear 69 = .ok (.goto (-63), 3) := by decide +kernel
theorem dX7_bestYear_72 : decode cX7_bestYear 72 = .ok (.iload_n 1, 1) := by decide +kernel
theorem dX7_bestYear_73 : decode cX7_bestYear 73 = .ok (.ireturn, 1) := by decide +kernel
theorem dX7_water_0 : decode cX7_water 0 = .ok (.aload_n 0, 1) := by decide +kernel
theorem dX7_water_1 : decode cX7_water 1 = .ok (.getfield 12, 3) := by decide +kernel
theorem dX7_water_4 : decode cX7_water 4 = .ok (.iload_n 1, 1) := by decide +kernel
theorem dX7_water_5 : decode cX7_water 5 = .ok (.invokevirtual 98, 3) := by decide +kernel
theorem dX7_water_8 : decode cX7_water 8 = .ok (.ifCond .eq 12, 3) := by decide +kernel
theorem dX7_water_11 : decode cX7_water 11 = .ok (.ldc 226, 2) := by decide +kernel
theorem dX7_water_13 : decode cX7_water 13 = .ok (.aload_n 0, 1) := by decide +kernel
theorem dX7_water_14 : decode cX7_water 14 = .ok (.iconst (-1), 1) := by decide +kernel
theorem dX7_water_15 : decode cX7_water 15 = .ok (.invokevirtual 71, 3) := by decide +kernel
theorem dX7_water_18 : decode cX7_water 18 = .ok (.isub, 1) := by decide +kernel
theorem dX7_water_19 : decode cX7_water 19 = .ok (.ireturn, 1) := by decide +kernel
theorem dX7_water_20 : decode cX7_water 20 = .ok (.aload_n 0, 1) := by decide +kernel
theorem dX7_water_21 : decode cX7_water 21 = .ok (.getfield 12, 3) := by decide +kernel
theorem dX7_water_24 : decode cX7_water 24 = .ok (.iload_n 1, 1) := by decide +kernel
theorem dX7_water_25 : decode cX7_water 25 = .ok (.invokevirtual 102, 3) := by decide +kernel
theorem dX7_water_28 : decode cX7_water 28 = .ok (.astore_n 2, 1) := by decide +kernel
theorem dX7_water_29 : decode cX7_water 29 = .ok (.aload_n 2, 1) := by decide +kernel
theorem dX7_water_30 : decode cX7_water 30 = .ok (.invokevirtual 161, 3) := by decide +kernel
theorem dX7_water_33 : decode cX7_water 33 = .ok (.ifCond .ne 13, 3) := by decide +kernel
theorem dX7_water_36 : decode cX7_water 36 = .ok (.ldc 226, 2) := by decide +kernel
theorem dX7_water_38 : decode cX7_water 38 = .ok (.aload_n 0, 1) := by decide +kernel
theorem dX7_water_39 : decode cX7_water 39 = .ok (.bipush (-3), 2) := by decide +kernel
theorem dX7_water_41 : decode cX7_water 41 = .ok (.invokevirtual 71, 3) := by decide +kernel
theorem dX7_water_44 : decode cX7_water 44 = .ok (.isub, 1) := by decide +kernel
theorem dX7_water_45 : decode cX7_water 45 = .ok (.ireturn, 1) := by decide +kernel
theorem dX7_water_46 : decode cX7_water 46 = .ok (.aload_n 2, 1) := by decide +kernel
theorem dX7_water_47 : decode cX7_water 47 = .ok (.aload_n 0, 1) := by decide +kernel
theorem dX7_water_48 : decode cX7_water 48 = .ok (.getfield 12, 3) := by decide +kernel
theorem dX7_water_51 : decode cX7_water 51 = .ok (.getfield 115, 3) := by decide +kernel
theorem dX7_water_54 : decode cX7_water 54 = .ok (.invokevirtual 227, 3) := by decide +kernel
theorem dX7_water_57 : decode cX7_water 57 = .ok (.ireturn, 1) := by decide +kernel
theorem dX7_bestWash_0 : decode cX7_bestWash 0 = .ok (.bipush (-9), 2) := by decide +kernel
theorem dX7_bestWash_2 : decode cX7_bestWash 2 = .ok (.istore_n 1, 1) := by decide +kernel
theorem dX7_bestWash_3 : decode cX7_bestWash 3 = .ok (.iconst 0, 1) := by decide +kernel
theorem dX7_bestWash_4 : decode cX7_bestWash 4 = .ok (.istore_n 2, 1) := by decide +kernel
theorem dX7_bestWash_5 : decode cX7_bestWash 5 = .ok (.iconst 0, 1) := by decide +kernel
theorem dX7_bestWash_6 : decode cX7_bestWash 6 = .ok (.istore_n 3, 1) := by decide +kernel
theorem dX7_bestWash_7 : decode cX7_bestWash 7 = .ok (.iload_n 3, 1) := by decide +kernel
theorem dX7_bestWash_8 : decode cX7_bestWash 8 = .ok (.aload_n 0, 1) := by decide +kernel
theorem dX7_bestWash_9 : decode cX7_bestWash 9 = .ok (.getfield 12, 3) := by decide +kernel
theorem dX7_bestWash_12 : decode cX7_bestWash 12 = .ok (.getfield 199, 3) := by decide +kernel
theorem dX7_bestWash_15 : decode cX7_bestWash 15 = .ok (.if_icmp .ge 40, 3) := by decide +kernel
theorem dX7_bestWash_18 : decode cX7_bestWash 18 = .ok (.aload_n 0, 1) := by decide +kernel
theorem dX7_bestWash_19 : decode cX7_bestWash 19 = .ok (.getfield 12, 3) := by decide +kernel
theorem dX7_bestWash_22 : decode cX7_bestWash 22 = .ok (.iload_n 3, 1) := by decide +kernel
theorem dX7_bestWash_23 : decode cX7_bestWash 23 = .ok (.invokevirtual 102, 3) := by decide +kernel
theorem dX7_bestWash_26 : decode cX7_bestWash 26 = .ok (.aload_n 0, 1) := by decide +kernel
theorem dX7_bestWash_27 : decode cX7_bestWash 27 = .ok (.getfield 12, 3) := by decide +kernel
theorem dX7_bestWash_30 : decode cX7_bestWash 30 = .ok (.getfield 115, 3) := by decide +kernel
theorem dX7_bestWash_33 : decode cX7_bestWash 33 = .ok (.invokevirtual 227, 3) := by decide +kernel
theorem dX7_bestWash_36 : decode cX7_bestWash 36 = .ok (.istore 4, 2) := by decide +kernel
theorem dX7_bestWash_38 : decode cX7_bestWash 38 = .ok (.iload 4, 2) := by decide +kernel
theorem dX7_bestWash_40 : decode cX7_bestWash 40 = .ok (.iload_n 2, 1) := by decide +kernel
theorem dX7_bestWash_41 : decode cX7_bestWash 41 = .ok (.if_icmp .le 8, 3) := by decide +kernel
theorem dX7_bestWash_44 : decode cX7_bestWash 44 = .ok (.iload_n 3, 1) := by decide +kernel
theorem dX7_bestWash_45 : decode cX7_bestWash 45 = .ok (.istore_n 1, 1) := by decide +kernel
theorem dX7_bestWash_46 : decode cX7_bestWash 46 = .ok (.iload 4, 2) := by decide +kernel
theorem dX7_bestWash_48 : decode cX7_bestWash 48 = .ok (.istore_n 2, 1) := by decide +kernel
theorem dX7_bestWash_49 : decode cX7_bestWash 49 = .ok (.iinc 3 1, 3) := by decide +kernel
theorem dX7_bestWash_52 : decode cX7_bestWash 52 = .ok (.goto (-45), 3) := by decide +kernel
theorem dX7_bestWash_55 : decode cX7_bestWash 55 = .ok (.iload_n 1, 1) := by decide +kernel
theorem dX7_bestWash_56 : decode cX7_bestWash 56 = .ok (.ireturn, 1) := by decide +kernel
theorem dX7_sour_0 : decode cX7_sour 0 = .ok (.iconst 0, 1) := by decide +kernel
theorem dX7_sour_1 : decode cX7_sour 1 = .ok (.istore_n 1, 1) := by decide +kernel
theorem dX7_sour_2 : decode cX7_sour 2 = .ok (.iconst 0, 1) := by decide +kernel
theorem dX7_sour_3 : decode cX7_sour 3 = .ok (.istore_n 2, 1) := by decide +kernel
theorem dX7_sour_4 : decode cX7_sour 4 = .ok (.iload_n 2, 1) := by decide +kernel
theorem dX7_sour_5 : decode cX7_sour 5 = .ok (.aload_n 0, 1) := by decide +kernel
theorem dX7_sour_6 : decode cX7_sour 6 = .ok (.getfield 12, 3) := by decide +kernel
theorem dX7_sour_9 : decode cX7_sour 9 = .ok (.getfield 199, 3) := by decide +kernel
theorem dX7_sour_12 : decode cX7_sour 12 = .ok (.if_icmp .ge 36, 3) := by decide +kernel
theorem dX7_sour_15 : decode cX7_sour 15 = .ok (.aload_n 0, 1) := by decide +kernel
theorem dX7_sour_16 : decode cX7_sour 16 = .ok (.getfield 12, 3) := by decide +kernel
theorem dX7_sour_19 : decode cX7_sour 19 = .ok (.iload_n 2, 1) := by decide +kernel
theorem dX7_sour_20 : decode cX7_sour 20 = .ok (.invokevirtual 102, 3) := by decide +kernel
theorem dX7_sour_23 : decode cX7_sour 23 = .ok (.aload_n 0, 1) := by decide +kernel
theorem dX7_sour_24 : decode cX7_sour 24 = .ok (.getfield 12, 3) := by decide +kernel
theorem dX7_sour_27 : decode cX7_sour 27 = .ok (.getfield 115, 3) := by decide +kernel
theorem dX7_sour_30 : decode cX7_sour 30 = .ok (.invokevirtual 227, 3) := by decide +kernel
theorem dX7_sour_33 : decode cX7_sour 33 = .ok (.ifCond .le 9, 3) := by decide +kernel
theorem dX7_sour_36 : decode cX7_sour 36 = .ok (.iload_n 1, 1) := by decide +kernel
theorem dX7_sour_37 : decode cX7_sour 37 = .ok (.iconst 1, 1) := by decide +kernel
theorem dX7_sour_38 : decode cX7_sour 38 = .ok (.iload_n 2, 1) := by decide +kernel
theorem dX7_sour_39 : decode cX7_sour 39 = .ok (.ishl, 1) := by decide +kernel
theorem dX7_sour_40 : decode cX7_sour 40 = .ok (.ior, 1) := by decide +kernel
theorem dX7_sour_41 : decode cX7_sour 41 = .ok (.istore_n 1, 1) := by decide +kernel
theorem dX7_sour_42 : decode cX7_sour 42 = .ok (.iinc 2 1, 3) := by decide +kernel
theorem dX7_sour_45 : decode cX7_sour 45 = .ok (.goto (-41), 3) := by decide +kernel
theorem dX7_sour_48 : decode cX7_sour 48 = .ok (.iload_n 1, 1) := by decide +kernel
theorem dX7_sour_49 : decode cX7_sour 49 = .ok (.ireturn, 1) := by decide +kernel
theorem dX7_regret_0 : decode cX7_regret 0 = .ok (.aload_n 0, 1) := by decide +kernel
theorem dX7_regret_1 : decode cX7_regret 1 = .ok (.getfield 12, 3) := by decide +kernel
theorem dX7_regret_4 : decode cX7_regret 4 = .ok (.iload_n 1, 1) := by decide +kernel
theorem dX7_regret_5 : decode cX7_regret 5 = .ok (.invokevirtual 98, 3) := by decide +kernel
theorem dX7_regret_8 : decode cX7_regret 8 = .ok (.ifCond .eq 9, 3) := by decide +kernel
theorem dX7_regret_11 : decode cX7_regret 11 = .ok (.aload_n 0, 1) := by decide +kernel
theorem dX7_regret_12 : decode cX7_regret 12 = .ok (.iconst (-1), 1) := by decide +kernel
theorem dX7_regret_13 : decode cX7_regret 13 = .ok (.invokevirtual 71, 3) := by decide +kernel
theorem dX7_regret_16 : decode cX7_regret 16 = .ok (.ireturn, 1) := by decide +kernel
theorem dX7_regret_17 : decode cX7_regret 17 = .ok (.aload_n 0, 1) := by decide +kernel
theorem dX7_regret_18 : decode cX7_regret 18 = .ok (.getfield 12, 3) := by decide +kernel
theorem dX7_regret_21 : decode cX7_regret 21 = .ok (.iload_n 1, 1) := by decide +kernel
theorem dX7_regret_22 : decode cX7_regret 22 = .ok (.invokevirtual 102, 3) := by decide +kernel
theorem dX7_regret_25 : decode cX7_regret 25 = .ok (.astore_n 2, 1) := by decide +kernel
theorem dX7_regret_26 : decode cX7_regret 26 = .ok (.aload_n 2, 1) := by decide +kernel
theorem dX7_regret_27 : decode cX7_regret 27 = .ok (.aload_n 2, 1) := by decide +kernel
theorem dX7_regret_28 : decode cX7_regret 28 = .ok (.aload_n 0, 1) := by decide +kernel
theorem dX7_regret_29 : decode cX7_regret 29 = .ok (.getfield 12, 3) := by decide +kernel
theorem dX7_regret_32 : decode cX7_regret 32 = .ok (.getfield 115, 3) := by decide +kernel
theorem dX7_regret_35 : decode cX7_regret 35 = .ok (.invokevirtual 230, 3) := by decide +kernel
theorem dX7_regret_38 : decode cX7_regret 38 = .ok (.invokevirtual 127, 3) := by decide +kernel
theorem dX7_regret_41 : decode cX7_regret 41 = .ok (.istore_n 3, 1) := by decide +kernel
theorem dX7_regret_42 : decode cX7_regret 42 = .ok (.iconst 0, 1) := by decide +kernel
theorem dX7_regret_43 : decode cX7_regret 43 = .ok (.iload_n 3, 1) := by decide +kernel
theorem dX7_regret_44 : decode cX7_regret 44 = .ok (.aload_n 2, 1) := by decide +kernel
theorem dX7_regret_45 : decode cX7_regret 45 = .ok (.aload_n 0, 1) := by decide +kernel
theorem dX7_regret_46 : decode cX7_regret 46 = .ok (.getfield 12, 3) := by decide +kernel
theorem dX7_regret_49 : decode cX7_regret 49 = .ok (.getfield 115, 3) := by decide +kernel
theorem dX7_regret_52 : decode cX7_regret 52 = .ok (.invokevirtual 118, 3) := by decide +kernel
theorem dX7_regret_55 : decode cX7_regret 55 = .ok (.isub, 1) := by decide +kernel
theorem dX7_regret_56 : decode cX7_regret 56 = .ok (.invokestatic 233, 3) := by decide +kernel
theorem dX7_regret_59 : decode cX7_regret 59 = .ok (.ireturn, 1) := by decide +kernel
theorem dX7_bothContent_0 : decode cX7_bothContent 0 = .ok (.aload_n 1, 1) := by decide +kernel
theorem dX7_bothContent_1 : decode cX7_bothContent 1 = .ok (.iload_n 2, 1) := by decide +kernel
theorem dX7_bothContent_2 : decode cX7_bothContent 2 = .ok (.iload_n 3, 1) := by decide +kernel
theorem dX7_bothContent_3 : decode cX7_bothContent 3 = .ok (.iload 4, 2) := by decide +kernel
theorem dX7_bothContent_5 : decode cX7_bothContent 5 = .ok (.iadd, 1) := by decide +kernel
theorem dX7_bothContent_6 : decode cX7_bothContent 6 = .ok (.aload_n 0, 1) := by decide +kernel
theorem dX7_bothContent_7 : decode cX7_bothContent 7 = .ok (.getfield 12, 3) := by decide +kernel
theorem dX7_bothContent_10 : decode cX7_bothContent 10 = .ok (.getfield 115, 3) := by decide +kernel
theorem dX7_bothContent_13 : decode cX7_bothContent 13 = .ok (.invokevirtual 168, 3) := by decide +kernel
theorem dX7_bothContent_16 : decode cX7_bothContent 16 = .ok (.istore 5, 2) := by decide +kernel
theorem dX7_bothContent_18 : decode cX7_bothContent 18 = .ok (.iconst 0, 1) := by decide +kernel
theorem dX7_bothContent_19 : decode cX7_bothContent 19 = .ok (.istore 6, 2) := by decide +kernel
theorem dX7_bothContent_21 : decode cX7_bothContent 21 = .ok (.iload 6, 2) := by decide +kernel
theorem dX7_bothContent_23 : decode cX7_bothContent 23 = .ok (.iconst 4, 1) := by decide +kernel
theorem dX7_bothContent_24 : decode cX7_bothContent 24 = .ok (.if_icmp .gt 54, 3) := by decide +kernel
theorem dX7_bothContent_27 : decode cX7_bothContent 27 = .ok (.aload_n 1, 1) := by decide +kernel
theorem dX7_bothContent_28 : decode cX7_bothContent 28 = .ok (.iload_n 2, 1) := by decide +kernel
theorem dX7_bothContent_29 : decode cX7_bothContent 29 = .ok (.iload 6, 2) := by decide +kernel
theorem dX7_bothContent_31 : decode cX7_bothContent 31 = .ok (.iload 4, 2) := by decide +kernel
theorem dX7_bothContent_33 : decode cX7_bothContent 33 = .ok (.iadd, 1) := by decide +kernel
theorem dX7_bothContent_34 : decode cX7_bothContent 34 = .ok (.aload_n 0, 1) := by decide +kernel
theorem dX7_bothContent_35 : decode cX7_bothContent 35 = .ok (.getfield 12, 3) := by decide +kernel
theorem dX7_bothContent_38 : decode cX7_bothContent 38 = .ok (.getfield 115, 3) := by decide +kernel
theorem dX7_bothContent_41 : decode cX7_bothContent 41 = .ok (.invokevirtual 168, 3) := by decide +kernel
theorem dX7_bothContent_44 : decode cX7_bothContent 44 = .ok (.iload 5, 2) := by decide +kernel
theorem dX7_bothContent_46 : decode cX7_bothContent 46 = .ok (.if_icmp .gt 24, 3) := by decide +kernel
theorem dX7_bothContent_49 : decode cX7_bothContent 49 = .ok (.aload_n 1, 1) := by decide +kernel
theorem dX7_bothContent_50 : decode cX7_bothContent 50 = .ok (.iload_n 2, 1) := by decide +kernel
theorem dX7_bothContent_51 : decode cX7_bothContent 51 = .ok (.iload_n 3, 1) := by decide +kernel
theorem dX7_bothContent_52 : decode cX7_bothContent 52 = .ok (.iload 6, 2) := by decide +kernel
theorem dX7_bothContent_54 : decode cX7_bothContent 54 = .ok (.iadd, 1) := by decide +kernel
theorem dX7_bothContent_55 : decode cX7_bothContent 55 = .ok (.aload_n 0, 1) := by decide +kernel
theorem dX7_bothContent_56 : decode cX7_bothContent 56 = .ok (.getfield 12, 3) := by decide +kernel
theorem dX7_bothContent_59 : decode cX7_bothContent 59 = .ok (.getfield 115, 3) := by decide +kernel
theorem dX7_bothContent_62 : decode cX7_bothContent 62 = .ok (.invokevirtual 168, 3) := by decide +kernel
theorem dX7_bothContent_65 : decode cX7_bothContent 65 = .ok (.iload 5, 2) := by decide +kernel
theorem dX7_bothContent_67 : decode cX7_bothContent 67 = .ok (.if_icmp .ge 5, 3) := by decide +kernel
theorem dX7_bothContent_70 : decode cX7_bothContent 70 = .ok (.iconst 0, 1) := by decide +kernel
theorem dX7_bothContent_71 : decode cX7_bothContent 71 = .ok (.ireturn, 1) := by decide +kernel
theorem dX7_bothContent_72 : decode cX7_bothContent 72 = .ok (.iinc 6 1, 3) := by decide +kernel
theorem dX7_bothContent_75 : decode cX7_bothContent 75 = .ok (.goto (-54), 3) := by decide +kernel
theorem dX7_bothContent_78 : decode cX7_bothContent 78 = .ok (.iconst 1, 1) := by decide +kernel
theorem dX7_bothContent_79 : decode cX7_bothContent 79 = .ok (.ireturn, 1) := by decide +kernel
theorem dX7_two_0 : decode cX7_two 0 = .ok (.aload_n 0, 1) := by decide +kernel
theorem dX7_two_1 : decode cX7_two 1 = .ok (.getfield 12, 3) := by decide +kernel
theorem dX7_two_4 : decode cX7_two 4 = .ok (.iload_n 1, 1) := by decide +kernel
theorem dX7_two_5 : decode cX7_two 5 = .ok (.invokevirtual 98, 3) := by decide +kernel
theorem dX7_two_8 : decode cX7_two 8 = .ok (.ifCond .eq 9, 3) := by decide +kernel
theorem dX7_two_11 : decode cX7_two 11 = .ok (.aload_n 0, 1) := by decide +kernel
theorem dX7_two_12 : decode cX7_two 12 = .ok (.iconst (-1), 1) := by decide +kernel
theorem dX7_two_13 : decode cX7_two 13 = .ok (.invokevirtual 71, 3) := by decide +kernel
theorem dX7_two_16 : decode cX7_two 16 = .ok (.ireturn, 1) := by decide +kernel
theorem dX7_two_17 : decode cX7_two 17 = .ok (.iload_n 2, 1) := by decide +kernel
theorem dX7_two_18 : decode cX7_two 18 = .ok (.iconst 0, 1) := by decide +kernel
theorem dX7_two_19 : decode cX7_two 19 = .ok (.bipush 99, 2) := by decide +kernel
theorem dX7_two_21 : decode cX7_two 21 = .ok (.invokestatic 137, 3) := by decide +kernel
theorem dX7_two_24 : decode cX7_two 24 = .ok (.istore_n 3, 1) := by decide +kernel
theorem dX7_two_25 : decode cX7_two 25 = .ok (.iload_n 3, 1) := by decide +kernel
theorem dX7_two_26 : decode cX7_two 26 = .ok (.ifCond .eq 9, 3) := by decide +kernel
theorem dX7_two_29 : decode cX7_two 29 = .ok (.aload_n 0, 1) := by decide +kernel
theorem dX7_two_30 : decode cX7_two 30 = .ok (.iload_n 3, 1) := by decide +kernel
theorem dX7_two_31 : decode cX7_two 31 = .ok (.invokevirtual 71, 3) := by decide +kernel
theorem dX7_two_34 : decode cX7_two 34 = .ok (.ireturn, 1) := by decide +kernel
theorem dX7_two_35 : decode cX7_two 35 = .ok (.iconst 0, 1) := by decide +kernel
theorem dX7_two_36 : decode cX7_two 36 = .ok (.istore 4, 2) := by decide +kernel
theorem dX7_two_38 : decode cX7_two 38 = .ok (.iload 4, 2) := by decide +kernel
theorem dX7_two_40 : decode cX7_two 40 = .ok (.iconst 4, 1) := by decide +kernel
theorem dX7_two_41 : decode cX7_two 41 = .ok (.if_icmp .gt 53, 3) := by decide +kernel
theorem dX7_two_44 : decode cX7_two 44 = .ok (.iconst 0, 1) := by decide +kernel
theorem dX7_two_45 : decode cX7_two 45 = .ok (.istore 5, 2) := by decide +kernel
theorem dX7_two_47 : decode cX7_two 47 = .ok (.iload 5, 2) := by decide +kernel
theorem dX7_two_49 : decode cX7_two 49 = .ok (.iconst 4, 1) := by decide +kernel
theorem dX7_two_50 : decode cX7_two 50 = .ok (.if_icmp .gt 38, 3) := by decide +kernel
theorem dX7_two_53 : decode cX7_two 53 = .ok (.aload_n 0, 1) := by decide +kernel
theorem dX7_two_54 : decode cX7_two 54 = .ok (.aload_n 0, 1) := by decide +kernel
theorem dX7_two_55 : decode cX7_two 55 = .ok (.getfield 12, 3) := by decide +kernel
theorem dX7_two_58 : decode cX7_two 58 = .ok (.iload_n 1, 1) := by decide +kernel
theorem dX7_two_59 : decode cX7_two 59 = .ok (.invokevirtual 102, 3) := by decide +kernel
theorem dX7_two_62 : decode cX7_two 62 = .ok (.iload_n 2, 1) := by decide +kernel
theorem dX7_two_63 : decode cX7_two 63 = .ok (.iload 4, 2) := by decide +kernel
theorem dX7_two_65 : decode cX7_two 65 = .ok (.iload 5, 2) := by decide +kernel
theorem dX7_two_67 : decode cX7_two 67 = .ok (.invokevirtual 236, 3) := by decide +kernel
theorem dX7_two_70 : decode cX7_two 70 = .ok (.ifCond .eq 12, 3) := by decide +kernel
theorem dX7_two_73 : decode cX7_two 73 = .ok (.bipush 10, 2) := by decide +kernel
theorem dX7_two_75 : decode cX7_two 75 = .ok (.iload 4, 2) := by decide +kernel
theorem dX7_two_77 : decode cX7_two 77 = .ok (.imul, 1) := by decide +kernel
theorem dX7_two_78 : decode cX7_two 78 = .ok (.iload 5, 2) := by decide +kernel
theorem dX7_two_80 : decode cX7_two 80 = .ok (.iadd, 1) := by decide +kernel
theorem dX7_two_81 : decode cX7_two 81 = .ok (.ireturn, 1) := by decide +kernel
theorem dX7_two_82 : decode cX7_two 82 = .ok (.iinc 5 1, 3) := by decide +kernel
theorem dX7_two_85 : decode cX7_two 85 = .ok (.goto (-38), 3) := by decide +kernel
theorem dX7_two_88 : decode cX7_two 88 = .ok (.iinc 4 1, 3) := by decide +kernel
theorem dX7_two_91 : decode cX7_two 91 = .ok (.goto (-53), 3) := by decide +kernel
theorem dX7_two_94 : decode cX7_two 94 = .ok (.bipush (-9), 2) := by decide +kernel
theorem dX7_two_96 : decode cX7_two 96 = .ok (.ireturn, 1) := by decide +kernel
theorem dX7_slipRefusal_0 : decode cX7_slipRefusal 0 = .ok (.iload_n 0, 1) := by decide +kernel
theorem dX7_slipRefusal_1 : decode cX7_slipRefusal 1 = .ok (.ifCond .lt 8, 3) := by decide +kernel
theorem dX7_slipRefusal_4 : decode cX7_slipRefusal 4 = .ok (.iload_n 1, 1) := by decide +kernel
theorem dX7_slipRefusal_5 : decode cX7_slipRefusal 5 = .ok (.iconst 2, 1) := by decide +kernel
theorem dX7_slipRefusal_6 : decode cX7_slipRefusal 6 = .ok (.if_icmp .ge 6, 3) := by decide +kernel
theorem dX7_slipRefusal_9 : decode cX7_slipRefusal 9 = .ok (.bipush (-4), 2) := by decide +kernel
theorem dX7_slipRefusal_11 : decode cX7_slipRefusal 11 = .ok (.ireturn, 1) := by decide +kernel
theorem dX7_slipRefusal_12 : decode cX7_slipRefusal 12 = .ok (.iload_n 0, 1) := by decide +kernel
theorem dX7_slipRefusal_13 : decode cX7_slipRefusal 13 = .ok (.bipush 8, 2) := by decide +kernel
theorem dX7_slipRefusal_15 : decode cX7_slipRefusal 15 = .ok (.if_icmp .gt 9, 3) := by decide +kernel
theorem dX7_slipRefusal_18 : decode cX7_slipRefusal 18 = .ok (.iload_n 1, 1) := by decide +kernel
theorem dX7_slipRefusal_19 : decode cX7_slipRefusal 19 = .ok (.bipush 20, 2) := by decide +kernel
theorem dX7_slipRefusal_21 : decode cX7_slipRefusal 21 = .ok (.if_icmp .le 6, 3) := by decide +kernel
theorem dX7_slipRefusal_24 : decode cX7_slipRefusal 24 = .ok (.bipush (-6), 2) := by decide +kernel
theorem dX7_slipRefusal_26 : decode cX7_slipRefusal 26 = .ok (.ireturn, 1) := by decide +kernel
theorem dX7_slipRefusal_27 : decode cX7_slipRefusal 27 = .ok (.iload_n 2, 1) := by decide +kernel
theorem dX7_slipRefusal_28 : decode cX7_slipRefusal 28 = .ok (.invokestatic 177, 3) := by decide +kernel
theorem dX7_slipRefusal_31 : decode cX7_slipRefusal 31 = .ok (.ifCond .eq 8, 3) := by decide +kernel
theorem dX7_slipRefusal_34 : decode cX7_slipRefusal 34 = .ok (.bipush (-2), 2) := by decide +kernel
theorem dX7_slipRefusal_36 : decode cX7_slipRefusal 36 = .ok (.goto 4, 3) := by decide +kernel
theorem dX7_slipRefusal_39 : decode cX7_slipRefusal 39 = .ok (.iconst 0, 1) := by decide +kernel
theorem dX7_slipRefusal_40 : decode cX7_slipRefusal 40 = .ok (.ireturn, 1) := by decide +kernel
theorem dX7_commonDivisor_0 : decode cX7_commonDivisor 0 = .ok (.lload_n 0, 1) := by decide +kernel
theorem dX7_commonDivisor_1 : decode cX7_commonDivisor 1 = .ok (.lstore 4, 2) := by decide +kernel
theorem dX7_commonDivisor_3 : decode cX7_commonDivisor 3 = .ok (.lload_n 2, 1) := by decide +kernel
theorem dX7_commonDivisor_4 : decode cX7_commonDivisor 4 = .ok (.lstore 6, 2) := by decide +kernel
theorem dX7_commonDivisor_6 : decode cX7_commonDivisor 6 = .ok (.iconst 0, 1) := by decide +kernel
theorem dX7_commonDivisor_7 : decode cX7_commonDivisor 7 = .ok (.istore 8, 2) := by decide +kernel
theorem dX7_commonDivisor_9 : decode cX7_commonDivisor 9 = .ok (.iload 8, 2) := by decide +kernel
theorem dX7_commonDivisor_11 : decode cX7_commonDivisor 11 = .ok (.sipush 1000, 3) := by decide +kernel
theorem dX7_commonDivisor_14 : decode cX7_commonDivisor 14 = .ok (.if_icmp .ge 31, 3) := by decide +kernel
theorem dX7_commonDivisor_17 : decode cX7_commonDivisor 17 = .ok (.lload 6, 2) := by decide +kernel
theorem dX7_commonDivisor_19 : decode cX7_commonDivisor 19 = .ok (.lconst 0, 1) := by decide +kernel
theorem dX7_commonDivisor_20 : decode cX7_commonDivisor 20 = .ok (.lcmp, 1) := by decide +kernel
theorem dX7_commonDivisor_21 : decode cX7_commonDivisor 21 = .ok (.ifCond .eq 24, 3) := by decide +kernel
theorem dX7_commonDivisor_24 : decode cX7_commonDivisor 24 = .ok (.lload 4, 2) := by decide +kernel
theorem dX7_commonDivisor_26 : decode cX7_commonDivisor 26 = .ok (.lload 6, 2) := by decide +kernel
theorem dX7_commonDivisor_28 : decode cX7_commonDivisor 28 = .ok (.lrem, 1) := by decide +kernel
theorem dX7_commonDivisor_29 : decode cX7_commonDivisor 29 = .ok (.lstore 9, 2) := by decide +kernel
theorem dX7_commonDivisor_31 : decode cX7_commonDivisor 31 = .ok (.lload 6, 2) := by decide +kernel
theorem dX7_commonDivisor_33 : decode cX7_commonDivisor 33 = .ok (.lstore 4, 2) := by decide +kernel
theorem dX7_commonDivisor_35 : decode cX7_commonDivisor 35 = .ok (.lload 9, 2) := by decide +kernel
theorem dX7_commonDivisor_37 : decode cX7_commonDivisor 37 = .ok (.lstore 6, 2) := by decide +kernel
theorem dX7_commonDivisor_39 : decode cX7_commonDivisor 39 = .ok (.iinc 8 1, 3) := by decide +kernel
theorem dX7_commonDivisor_42 : decode cX7_commonDivisor 42 = .ok (.goto (-33), 3) := by decide +kernel
theorem dX7_commonDivisor_45 : decode cX7_commonDivisor 45 = .ok (.lload 4, 2) := by decide +kernel
theorem dX7_commonDivisor_47 : decode cX7_commonDivisor 47 = .ok (.lreturn, 1) := by decide +kernel
theorem dX7_partOf_0 : decode cX7_partOf 0 = .ok (.lload_n 0, 1) := by decide +kernel
theorem dX7_partOf_1 : decode cX7_partOf 1 = .ok (.lload_n 2, 1) := by decide +kernel
theorem dX7_partOf_2 : decode cX7_partOf 2 = .ok (.invokestatic 322, 3) := by decide +kernel
theorem dX7_partOf_5 : decode cX7_partOf 5 = .ok (.lstore 5, 2) := by decide +kernel
theorem dX7_partOf_7 : decode cX7_partOf 7 = .ok (.lload 5, 2) := by decide +kernel
theorem dX7_partOf_9 : decode cX7_partOf 9 = .ok (.lconst 1, 1) := by decide +kernel
theorem dX7_partOf_10 : decode cX7_partOf 10 = .ok (.lcmp, 1) := by decide +kernel
theorem dX7_partOf_11 : decode cX7_partOf 11 = .ok (.ifCond .ge 5, 3) := by decide +kernel
theorem dX7_partOf_14 : decode cX7_partOf 14 = .ok (.lconst 0, 1) := by decide +kernel
theorem dX7_partOf_15 : decode cX7_partOf 15 = .ok (.lreturn, 1) := by decide +kernel
theorem dX7_partOf_16 : decode cX7_partOf 16 = .ok (.iload 4, 2) := by decide +kernel
theorem dX7_partOf_18 : decode cX7_partOf 18 = .ok (.ifCond .ne 10, 3) := by decide +kernel
theorem dX7_partOf_21 : decode cX7_partOf 21 = .ok (.lload_n 0, 1) := by decide +kernel
theorem dX7_partOf_22 : decode cX7_partOf 22 = .ok (.lload 5, 2) := by decide +kernel
theorem dX7_partOf_24 : decode cX7_partOf 24 = .ok (.ldiv, 1) := by decide +kernel
theorem dX7_partOf_25 : decode cX7_partOf 25 = .ok (.goto 7, 3) := by decide +kernel
theorem dX7_partOf_28 : decode cX7_partOf 28 = .ok (.lload_n 2, 1) := by decide +kernel
theorem dX7_partOf_29 : decode cX7_partOf 29 = .ok (.lload 5, 2) := by decide +kernel
theorem dX7_partOf_31 : decode cX7_partOf 31 = .ok (.ldiv, 1) := by decide +kernel
theorem dX7_partOf_32 : decode cX7_partOf 32 = .ok (.lreturn, 1) := by decide +kernel
theorem dX7_slip_0 : decode cX7_slip 0 = .ok (.aload_n 0, 1) := by decide +kernel
theorem dX7_slip_1 : decode cX7_slip 1 = .ok (.getfield 12, 3) := by decide +kernel
theorem dX7_slip_4 : decode cX7_slip 4 = .ok (.iload_n 1, 1) := by decide +kernel
theorem dX7_slip_5 : decode cX7_slip 5 = .ok (.invokevirtual 98, 3) := by decide +kernel
theorem dX7_slip_8 : decode cX7_slip 8 = .ok (.ifCond .ne 11, 3) := by decide +kernel
theorem dX7_slip_11 : decode cX7_slip 11 = .ok (.iload 4, 2) := by decide +kernel
theorem dX7_slip_13 : decode cX7_slip 13 = .ok (.invokestatic 124, 3) := by decide +kernel
theorem dX7_slip_16 : decode cX7_slip 16 = .ok (.ifCond .eq 14, 3) := by decide +kernel
theorem dX7_slip_19 : decode cX7_slip 19 = .ok (.ldc2_w 240, 3) := by decide +kernel
theorem dX7_slip_22 : decode cX7_slip 22 = .ok (.aload_n 0, 1) := by decide +kernel
theorem dX7_slip_23 : decode cX7_slip 23 = .ok (.iconst (-1), 1) := by decide +kernel
theorem dX7_slip_24 : decode cX7_slip 24 = .ok (.invokevirtual 71, 3) := by decide +kernel
theorem dX7_slip_27 : decode cX7_slip 27 = .ok (.i2l, 1) := by decide +kernel
theorem dX7_slip_28 : decode cX7_slip 28 = .ok (.lsub, 1) := by decide +kernel
theorem dX7_slip_29 : decode cX7_slip 29 = .ok (.lreturn, 1) := by decide +kernel
theorem dX7_slip_30 : decode cX7_slip 30 = .ok (.iload_n 2, 1) := by decide +kernel
theorem dX7_slip_31 : decode cX7_slip 31 = .ok (.iload_n 3, 1) := by decide +kernel
theorem dX7_slip_32 : decode cX7_slip 32 = .ok (.iload 5, 2) := by decide +kernel
theorem dX7_slip_34 : decode cX7_slip 34 = .ok (.invokestatic 242, 3) := by decide +kernel
theorem dX7_slip_37 : decode cX7_slip 37 = .ok (.istore 6, 2) := by decide +kernel
theorem dX7_slip_39 : decode cX7_slip 39 = .ok (.iload 6, 2) := by decide +kernel
theorem dX7_slip_41 : decode cX7_slip 41 = .ok (.ifCond .eq 15, 3) := by decide +kernel
theorem dX7_slip_44 : decode cX7_slip 44 = .ok (.ldc2_w 240, 3) := by decide +kernel
theorem dX7_slip_47 : decode cX7_slip 47 = .ok (.aload_n 0, 1) := by decide +kernel
theorem dX7_slip_48 : decode cX7_slip 48 = .ok (.iload 6, 2) := by decide +kernel
theorem dX7_slip_50 : decode cX7_slip 50 = .ok (.invokevirtual 71, 3) := by decide +kernel
theorem dX7_slip_53 : decode cX7_slip 53 = .ok (.i2l, 1) := by decide +kernel
theorem dX7_slip_54 : decode cX7_slip 54 = .ok (.lsub, 1) := by decide +kernel
theorem dX7_slip_55 : decode cX7_slip 55 = .ok (.lreturn, 1) := by decide +kernel
theorem dX7_slip_56 : decode cX7_slip 56 = .ok (.aload_n 0, 1) := by decide +kernel
theorem dX7_slip_57 : decode cX7_slip 57 = .ok (.getfield 60, 3) := by decide +kernel
theorem dX7_slip_60 : decode cX7_slip 60 = .ok (.iload_n 2, 1) := by decide +kernel
theorem dX7_slip_61 : decode cX7_slip 61 = .ok (.iload_n 3, 1) := by decide +kernel
theorem dX7_slip_62 : decode cX7_slip 62 = .ok (.invokevirtual 245, 3) := by decide +kernel
theorem dX7_slip_65 : decode cX7_slip 65 = .ok (.aload_n 0, 1) := by decide +kernel
theorem dX7_slip_66 : decode cX7_slip 66 = .ok (.getfield 60, 3) := by decide +kernel
theorem dX7_slip_69 : decode cX7_slip 69 = .ok (.aload_n 0, 1) := by decide +kernel
theorem dX7_slip_70 : decode cX7_slip 70 = .ok (.getfield 12, 3) := by decide +kernel
theorem dX7_slip_73 : decode cX7_slip 73 = .ok (.iload_n 1, 1) := by decide +kernel
theorem dX7_slip_74 : decode cX7_slip 74 = .ok (.invokevirtual 102, 3) := by decide +kernel
theorem dX7_slip_77 : decode cX7_slip 77 = .ok (.iload 4, 2) := by decide +kernel
theorem dX7_slip_79 : decode cX7_slip 79 = .ok (.aload_n 0, 1) := by decide +kernel
theorem dX7_slip_80 : decode cX7_slip 80 = .ok (.getfield 12, 3) := by decide +kernel
theorem dX7_slip_83 : decode cX7_slip 83 = .ok (.getfield 115, 3) := by decide +kernel
theorem dX7_slip_86 : decode cX7_slip 86 = .ok (.invokevirtual 247, 3) := by decide +kernel
theorem dX7_slip_89 : decode cX7_slip 89 = .ok (.aload_n 0, 1) := by decide +kernel
theorem dX7_slip_90 : decode cX7_slip 90 = .ok (.getfield 60, 3) := by decide +kernel
theorem dX7_slip_93 : decode cX7_slip 93 = .ok (.invokevirtual 251, 3) := by decide +kernel
theorem dX7_slip_96 : decode cX7_slip 96 = .ok (.iload 5, 2) := by decide +kernel
theorem dX7_slip_98 : decode cX7_slip 98 = .ok (.invokestatic 255, 3) := by decide +kernel
theorem dX7_slip_101 : decode cX7_slip 101 = .ok (.lreturn, 1) := by decide +kernel
theorem dX7_mean_0 : decode cX7_mean 0 = .ok (.aload_n 0, 1) := by decide +kernel
theorem dX7_mean_1 : decode cX7_mean 1 = .ok (.getfield 12, 3) := by decide +kernel
theorem dX7_mean_4 : decode cX7_mean 4 = .ok (.iload_n 1, 1) := by decide +kernel
theorem dX7_mean_5 : decode cX7_mean 5 = .ok (.invokevirtual 98, 3) := by decide +kernel
theorem dX7_mean_8 : decode cX7_mean 8 = .ok (.ifCond .eq 14, 3) := by decide +kernel
theorem dX7_mean_11 : decode cX7_mean 11 = .ok (.ldc2_w 240, 3) := by decide +kernel
theorem dX7_mean_14 : decode cX7_mean 14 = .ok (.aload_n 0, 1) := by decide +kernel
theorem dX7_mean_15 : decode cX7_mean 15 = .ok (.iconst (-1), 1) := by decide +kernel
theorem dX7_mean_16 : decode cX7_mean 16 = .ok (.invokevirtual 71, 3) := by decide +kernel
theorem dX7_mean_19 : decode cX7_mean 19 = .ok (.i2l, 1) := by decide +kernel
theorem dX7_mean_20 : decode cX7_mean 20 = .ok (.lsub, 1) := by decide +kernel
theorem dX7_mean_21 : decode cX7_mean 21 = .ok (.lreturn, 1) := by decide +kernel
theorem dX7_mean_22 : decode cX7_mean 22 = .ok (.iload_n 2, 1) := by decide +kernel
theorem dX7_mean_23 : decode cX7_mean 23 = .ok (.iload_n 3, 1) := by decide +kernel
theorem dX7_mean_24 : decode cX7_mean 24 = .ok (.iload 4, 2) := by decide +kernel
theorem dX7_mean_26 : decode cX7_mean 26 = .ok (.invokestatic 242, 3) := by decide +kernel
theorem dX7_mean_29 : decode cX7_mean 29 = .ok (.istore 5, 2) := by decide +kernel
theorem dX7_mean_31 : decode cX7_mean 31 = .ok (.iload 5, 2) := by decide +kernel
theorem dX7_mean_33 : decode cX7_mean 33 = .ok (.ifCond .eq 15, 3) := by decide +kernel
theorem dX7_mean_36 : decode cX7_mean 36 = .ok (.ldc2_w 240, 3) := by decide +kernel
theorem dX7_mean_39 : decode cX7_mean 39 = .ok (.aload_n 0, 1) := by decide +kernel
theorem dX7_mean_40 : decode cX7_mean 40 = .ok (.iload 5, 2) := by decide +kernel
theorem dX7_mean_42 : decode cX7_mean 42 = .ok (.invokevirtual 71, 3) := by decide +kernel
theorem dX7_mean_45 : decode cX7_mean 45 = .ok (.i2l, 1) := by decide +kernel
theorem dX7_mean_46 : decode cX7_mean 46 = .ok (.lsub, 1) := by decide +kernel
theorem dX7_mean_47 : decode cX7_mean 47 = .ok (.lreturn, 1) := by decide +kernel
theorem dX7_mean_48 : decode cX7_mean 48 = .ok (.aload_n 0, 1) := by decide +kernel
theorem dX7_mean_49 : decode cX7_mean 49 = .ok (.getfield 60, 3) := by decide +kernel
theorem dX7_mean_52 : decode cX7_mean 52 = .ok (.iload_n 2, 1) := by decide +kernel
theorem dX7_mean_53 : decode cX7_mean 53 = .ok (.iload_n 3, 1) := by decide +kernel
theorem dX7_mean_54 : decode cX7_mean 54 = .ok (.invokevirtual 245, 3) := by decide +kernel
theorem dX7_mean_57 : decode cX7_mean 57 = .ok (.aload_n 0, 1) := by decide +kernel
theorem dX7_mean_58 : decode cX7_mean 58 = .ok (.getfield 60, 3) := by decide +kernel
theorem dX7_mean_61 : decode cX7_mean 61 = .ok (.aload_n 0, 1) := by decide +kernel
theorem dX7_mean_62 : decode cX7_mean 62 = .ok (.getfield 12, 3) := by decide +kernel
theorem dX7_mean_65 : decode cX7_mean 65 = .ok (.iload_n 1, 1) := by decide +kernel
theorem dX7_mean_66 : decode cX7_mean 66 = .ok (.invokevirtual 102, 3) := by decide +kernel
theorem dX7_mean_69 : decode cX7_mean 69 = .ok (.aload_n 0, 1) := by decide +kernel
theorem dX7_mean_70 : decode cX7_mean 70 = .ok (.getfield 12, 3) := by decide +kernel
theorem dX7_mean_73 : decode cX7_mean 73 = .ok (.getfield 115, 3) := by decide +kernel
theorem dX7_mean_76 : decode cX7_mean 76 = .ok (.invokevirtual 259, 3) := by decide +kernel
theorem dX7_mean_79 : decode cX7_mean 79 = .ok (.aload_n 0, 1) := by decide +kernel
theorem dX7_mean_80 : decode cX7_mean 80 = .ok (.getfield 60, 3) := by decide +kernel
theorem dX7_mean_83 : decode cX7_mean 83 = .ok (.invokevirtual 251, 3) := by decide +kernel
theorem dX7_mean_86 : decode cX7_mean 86 = .ok (.iload 4, 2) := by decide +kernel
theorem dX7_mean_88 : decode cX7_mean 88 = .ok (.invokestatic 255, 3) := by decide +kernel
theorem dX7_mean_91 : decode cX7_mean 91 = .ok (.lreturn, 1) := by decide +kernel
theorem dX7_whatWas_0 : decode cX7_whatWas 0 = .ok (.aload_n 0, 1) := by decide +kernel
theorem dX7_whatWas_1 : decode cX7_whatWas 1 = .ok (.getfield 12, 3) := by decide +kernel
theorem dX7_whatWas_4 : decode cX7_whatWas 4 = .ok (.iload_n 1, 1) := by decide +kernel
theorem dX7_whatWas_5 : decode cX7_whatWas 5 = .ok (.invokevirtual 98, 3) := by decide +kernel
theorem dX7_whatWas_8 : decode cX7_whatWas 8 = .ok (.ifCond .eq 9, 3) := by decide +kernel
theorem dX7_whatWas_11 : decode cX7_whatWas 11 = .ok (.aload_n 0, 1) := by decide +kernel
theorem dX7_whatWas_12 : decode cX7_whatWas 12 = .ok (.iconst (-1), 1) := by decide +kernel
theorem dX7_whatWas_13 : decode cX7_whatWas 13 = .ok (.invokevirtual 71, 3) := by decide +kernel
theorem dX7_whatWas_16 : decode cX7_whatWas 16 = .ok (.ireturn, 1) := by decide +kernel
theorem dX7_whatWas_17 : decode cX7_whatWas 17 = .ok (.iload_n 2, 1) := by decide +kernel
theorem dX7_whatWas_18 : decode cX7_whatWas 18 = .ok (.invokestatic 177, 3) := by decide +kernel
theorem dX7_whatWas_21 : decode cX7_whatWas 21 = .ok (.ifCond .eq 10, 3) := by decide +kernel
theorem dX7_whatWas_24 : decode cX7_whatWas 24 = .ok (.aload_n 0, 1) := by decide +kernel
theorem dX7_whatWas_25 : decode cX7_whatWas 25 = .ok (.bipush (-2), 2) := by decide +kernel
theorem dX7_whatWas_27 : decode cX7_whatWas 27 = .ok (.invokevirtual 71, 3) := by decide +kernel
theorem dX7_whatWas_30 : decode cX7_whatWas 30 = .ok (.ireturn, 1) := by decide +kernel
theorem dX7_whatWas_31 : decode cX7_whatWas 31 = .ok (.aload_n 0, 1) := by decide +kernel
theorem dX7_whatWas_32 : decode cX7_whatWas 32 = .ok (.getfield 25, 3) := by decide +kernel
theorem dX7_whatWas_35 : decode cX7_whatWas 35 = .ok (.aload_n 0, 1) := by decide +kernel
theorem dX7_whatWas_36 : decode cX7_whatWas 36 = .ok (.getfield 12, 3) := by decide +kernel
theorem dX7_whatWas_39 : decode cX7_whatWas 39 = .ok (.iload_n 1, 1) := by decide +kernel
theorem dX7_whatWas_40 : decode cX7_whatWas 40 = .ok (.invokevirtual 102, 3) := by decide +kernel
theorem dX7_whatWas_43 : decode cX7_whatWas 43 = .ok (.invokevirtual 263, 3) := by decide +kernel
theorem dX7_whatWas_46 : decode cX7_whatWas 46 = .ok (.iload_n 2, 1) := by decide +kernel
theorem dX7_whatWas_47 : decode cX7_whatWas 47 = .ok (.ifCond .ne 7, 3) := by decide +kernel
theorem dX7_whatWas_50 : decode cX7_whatWas 50 = .ok (.iconst 5, 1) := by decide +kernel
theorem dX7_whatWas_51 : decode cX7_whatWas 51 = .ok (.goto 5, 3) := by decide +kernel
theorem dX7_whatWas_54 : decode cX7_whatWas 54 = .ok (.bipush 9, 2) := by decide +kernel
theorem dX7_whatWas_56 : decode cX7_whatWas 56 = .ok (.istore_n 3, 1) := by decide +kernel
theorem dX7_whatWas_57 : decode cX7_whatWas 57 = .ok (.iconst 0, 1) := by decide +kernel
theorem dX7_whatWas_58 : decode cX7_whatWas 58 = .ok (.istore 4, 2) := by decide +kernel
theorem dX7_whatWas_60 : decode cX7_whatWas 60 = .ok (.iconst 0, 1) := by decide +kernel
theorem dX7_whatWas_61 : decode cX7_whatWas 61 = .ok (.istore 5, 2) := by decide +kernel
theorem dX7_whatWas_63 : decode cX7_whatWas 63 = .ok (.iload 5, 2) := by decide +kernel
theorem dX7_whatWas_65 : decode cX7_whatWas 65 = .ok (.iload_n 3, 1) := by decide +kernel
theorem dX7_whatWas_66 : decode cX7_whatWas 66 = .ok (.if_icmp .gt 64, 3) := by decide +kernel
theorem dX7_whatWas_69 : decode cX7_whatWas 69 = .ok (.iload_n 2, 1) := by decide +kernel
theorem dX7_whatWas_70 : decode cX7_whatWas 70 = .ok (.ifCond .ne 15, 3) := by decide +kernel
theorem dX7_whatWas_73 : decode cX7_whatWas 73 = .ok (.aload_n 0, 1) := by decide +kernel
theorem dX7_whatWas_74 : decode cX7_whatWas 74 = .ok (.getfield 25, 3) := by decide +kernel
theorem dX7_whatWas_77 : decode cX7_whatWas 77 = .ok (.iload 5, 2) := by decide +kernel
theorem dX7_whatWas_79 : decode cX7_whatWas 79 = .ok (.putfield 106, 3) := by decide +kernel
theorem dX7_whatWas_82 : decode cX7_whatWas 82 = .ok (.goto 12, 3) := by decide +kernel
theorem dX7_whatWas_85 : decode cX7_whatWas 85 = .ok (.aload_n 0, 1) := by decide +kernel
theorem dX7_whatWas_86 : decode cX7_whatWas 86 = .ok (.getfield 25, 3) := by decide +kernel
theorem dX7_whatWas_89 : decode cX7_whatWas 89 = .ok (.iload 5, 2) := by decide +kernel
theorem dX7_whatWas_91 : decode cX7_whatWas 91 = .ok (.putfield 109, 3) := by decide +kernel
theorem dX7_whatWas_94 : decode cX7_whatWas 94 = .ok (.aload_n 0, 1) := by decide +kernel
theorem dX7_whatWas_95 : decode cX7_whatWas 95 = .ok (.getfield 39, 3) := by decide +kernel
theorem dX7_whatWas_98 : decode cX7_whatWas 98 = .ok (.aload_n 0, 1) := by decide +kernel
theorem dX7_whatWas_99 : decode cX7_whatWas 99 = .ok (.getfield 25, 3) := by decide +kernel
theorem dX7_whatWas_102 : decode cX7_whatWas 102 = .ok (.aload_n 0, 1) := by decide +kernel
theorem dX7_whatWas_103 : decode cX7_whatWas 103 = .ok (.getfield 12, 3) := by decide +kernel
theorem dX7_whatWas_106 : decode cX7_whatWas 106 = .ok (.getfield 115, 3) := by decide +kernel
theorem dX7_whatWas_109 : decode cX7_whatWas 109 = .ok (.invokevirtual 265, 3) := by decide +kernel
theorem dX7_whatWas_112 : decode cX7_whatWas 112 = .ok (.ifCond .eq 12, 3) := by decide +kernel
theorem dX7_whatWas_115 : decode cX7_whatWas 115 = .ok (.iload 4, 2) := by decide +kernel
theorem dX7_whatWas_117 : decode cX7_whatWas 117 = .ok (.iconst 1, 1) := by decide +kernel
theorem dX7_whatWas_118 : decode cX7_whatWas 118 = .ok (.iload 5, 2) := by decide +kernel
theorem dX7_whatWas_120 : decode cX7_whatWas 120 = .ok (.ishl, 1) := by decide +kernel
theorem dX7_whatWas_121 : decode cX7_whatWas 121 = .ok (.ior, 1) := by decide +kernel
theorem dX7_whatWas_122 : decode cX7_whatWas 122 = .ok (.istore 4, 2) := by decide +kernel
theorem dX7_whatWas_124 : decode cX7_whatWas 124 = .ok (.iinc 5 1, 3) := by decide +kernel
theorem dX7_whatWas_127 : decode cX7_whatWas 127 = .ok (.goto (-64), 3) := by decide +kernel
theorem dX7_whatWas_130 : decode cX7_whatWas 130 = .ok (.iload 4, 2) := by decide +kernel
theorem dX7_whatWas_132 : decode cX7_whatWas 132 = .ok (.ireturn, 1) := by decide +kernel
theorem dX7_mended_0 : decode cX7_mended 0 = .ok (.aload_n 0, 1) := by decide +kernel
theorem dX7_mended_1 : decode cX7_mended 1 = .ok (.getfield 12, 3) := by decide +kernel
theorem dX7_mended_4 : decode cX7_mended 4 = .ok (.iload_n 1, 1) := by decide +kernel
theorem dX7_mended_5 : decode cX7_mended 5 = .ok (.invokevirtual 98, 3) := by decide +kernel
theorem dX7_mended_8 : decode cX7_mended 8 = .ok (.ifCond .ne 10, 3) := by decide +kernel
theorem dX7_mended_11 : decode cX7_mended 11 = .ok (.iload_n 2, 1) := by decide +kernel
theorem dX7_mended_12 : decode cX7_mended 12 = .ok (.invokestatic 124, 3) := by decide +kernel
theorem dX7_mended_15 : decode cX7_mended 15 = .ok (.ifCond .eq 9, 3) := by decide +kernel
theorem dX7_mended_18 : decode cX7_mended 18 = .ok (.aload_n 0, 1) := by decide +kernel
theorem dX7_mended_19 : decode cX7_mended 19 = .ok (.iconst (-1), 1) := by decide +kernel
theorem dX7_mended_20 : decode cX7_mended 20 = .ok (.invokevirtual 71, 3) := by decide +kernel
theorem dX7_mended_23 : decode cX7_mended 23 = .ok (.ireturn, 1) := by decide +kernel
theorem dX7_mended_24 : decode cX7_mended 24 = .ok (.iload_n 3, 1) := by decide +kernel
theorem dX7_mended_25 : decode cX7_mended 25 = .ok (.iconst 0, 1) := by decide +kernel
theorem dX7_mended_26 : decode cX7_mended 26 = .ok (.bipush 99, 2) := by decide +kernel
theorem dX7_mended_28 : decode cX7_mended 28 = .ok (.invokestatic 137, 3) := by decide +kernel
theorem dX7_mended_31 : decode cX7_mended 31 = .ok (.istore 4, 2) := by decide +kernel
theorem dX7_mended_33 : decode cX7_mended 33 = .ok (.iload 4, 2) := by decide +kernel
theorem dX7_mended_35 : decode cX7_mended 35 = .ok (.ifCond .eq 10, 3) := by decide +kernel
theorem dX7_mended_38 : decode cX7_mended 38 = .ok (.aload_n 0, 1) := by decide +kernel
theorem dX7_mended_39 : decode cX7_mended 39 = .ok (.iload 4, 2) := by decide +kernel
theorem dX7_mended_41 : decode cX7_mended 41 = .ok (.invokevirtual 71, 3) := by decide +kernel
theorem dX7_mended_44 : decode cX7_mended 44 = .ok (.ireturn, 1) := by decide +kernel
theorem dX7_mended_45 : decode cX7_mended 45 = .ok (.aload_n 0, 1) := by decide +kernel
theorem dX7_mended_46 : decode cX7_mended 46 = .ok (.getfield 25, 3) := by decide +kernel
theorem dX7_mended_49 : decode cX7_mended 49 = .ok (.aload_n 0, 1) := by decide +kernel
theorem dX7_mended_50 : decode cX7_mended 50 = .ok (.getfield 12, 3) := by decide +kernel
theorem dX7_mended_53 : decode cX7_mended 53 = .ok (.iload_n 1, 1) := by decide +kernel
theorem dX7_mended_54 : decode cX7_mended 54 = .ok (.invokevirtual 102, 3) := by decide +kernel
theorem dX7_mended_57 : decode cX7_mended 57 = .ok (.invokevirtual 263, 3) := by decide +kernel
theorem dX7_mended_60 : decode cX7_mended 60 = .ok (.iconst 0, 1) := by decide +kernel
theorem dX7_mended_61 : decode cX7_mended 61 = .ok (.istore 5, 2) := by decide +kernel
theorem dX7_mended_63 : decode cX7_mended 63 = .ok (.iload 5, 2) := by decide +kernel
theorem dX7_mended_65 : decode cX7_mended 65 = .ok (.bipush 99, 2) := by decide +kernel
theorem dX7_mended_67 : decode cX7_mended 67 = .ok (.if_icmp .gt 42, 3) := by decide +kernel
theorem dX7_mended_70 : decode cX7_mended 70 = .ok (.aload_n 0, 1) := by decide +kernel
theorem dX7_mended_71 : decode cX7_mended 71 = .ok (.getfield 25, 3) := by decide +kernel
theorem dX7_mended_74 : decode cX7_mended 74 = .ok (.iload_n 2, 1) := by decide +kernel
theorem dX7_mended_75 : decode cX7_mended 75 = .ok (.iload 5, 2) := by decide +kernel
theorem dX7_mended_77 : decode cX7_mended 77 = .ok (.invokevirtual 141, 3) := by decide +kernel
theorem dX7_mended_80 : decode cX7_mended 80 = .ok (.aload_n 0, 1) := by decide +kernel
theorem dX7_mended_81 : decode cX7_mended 81 = .ok (.getfield 25, 3) := by decide +kernel
theorem dX7_mended_84 : decode cX7_mended 84 = .ok (.iload_n 3, 1) := by decide +kernel
theorem dX7_mended_85 : decode cX7_mended 85 = .ok (.iconst 0, 1) := by decide +kernel
theorem dX7_mended_86 : decode cX7_mended 86 = .ok (.aload_n 0, 1) := by decide +kernel
theorem dX7_mended_87 : decode cX7_mended 87 = .ok (.getfield 12, 3) := by decide +kernel
theorem dX7_mended_90 : decode cX7_mended 90 = .ok (.getfield 115, 3) := by decide +kernel
theorem dX7_mended_93 : decode cX7_mended 93 = .ok (.invokevirtual 168, 3) := by decide +kernel
theorem dX7_mended_96 : decode cX7_mended 96 = .ok (.iload_n 2, 1) := by decide +kernel
theorem dX7_mended_97 : decode cX7_mended 97 = .ok (.if_icmp .ne 6, 3) := by decide +kernel
theorem dX7_mended_100 : decode cX7_mended 100 = .ok (.iload 5, 2) := by decide +kernel
theorem dX7_mended_102 : decode cX7_mended 102 = .ok (.ireturn, 1) := by decide +kernel
theorem dX7_mended_103 : decode cX7_mended 103 = .ok (.iinc 5 1, 3) := by decide +kernel
theorem dX7_mended_106 : decode cX7_mended 106 = .ok (.goto (-43), 3) := by decide +kernel
theorem dX7_mended_109 : decode cX7_mended 109 = .ok (.bipush (-9), 2) := by decide +kernel
theorem dX7_mended_111 : decode cX7_mended 111 = .ok (.ireturn, 1) := by decide +kernel
theorem dX7_row_0 : decode cX7_row 0 = .ok (.iload_n 1, 1) := by decide +kernel
theorem dX7_row_1 : decode cX7_row 1 = .ok (.ifCond .ge 10, 3) := by decide +kernel
theorem dX7_row_4 : decode cX7_row 4 = .ok (.aload_n 0, 1) := by decide +kernel
theorem dX7_row_5 : decode cX7_row 5 = .ok (.bipush (-4), 2) := by decide +kernel
theorem dX7_row_7 : decode cX7_row 7 = .ok (.invokevirtual 71, 3) := by decide +kernel
theorem dX7_row_10 : decode cX7_row 10 = .ok (.ireturn, 1) := by decide +kernel
theorem dX7_row_11 : decode cX7_row 11 = .ok (.iload_n 1, 1) := by decide +kernel
theorem dX7_row_12 : decode cX7_row 12 = .ok (.bipush 99, 2) := by decide +kernel
theorem dX7_row_14 : decode cX7_row 14 = .ok (.if_icmp .gt 13, 3) := by decide +kernel
theorem dX7_row_17 : decode cX7_row 17 = .ok (.aload_n 0, 1) := by decide +kernel
theorem dX7_row_18 : decode cX7_row 18 = .ok (.getfield 39, 3) := by decide +kernel
theorem dX7_row_21 : decode cX7_row 21 = .ok (.invokevirtual 269, 3) := by decide +kernel
theorem dX7_row_24 : decode cX7_row 24 = .ok (.ifCond .eq 10, 3) := by decide +kernel
theorem dX7_row_27 : decode cX7_row 27 = .ok (.aload_n 0, 1) := by decide +kernel
theorem dX7_row_28 : decode cX7_row 28 = .ok (.bipush (-6), 2) := by decide +kernel
theorem dX7_row_30 : decode cX7_row 30 = .ok (.invokevirtual 71, 3) := by decide +kernel
theorem dX7_row_33 : decode cX7_row 33 = .ok (.ireturn, 1) := by decide +kernel
theorem dX7_row_34 : decode cX7_row 34 = .ok (.aload_n 0, 1) := by decide +kernel
theorem dX7_row_35 : decode cX7_row 35 = .ok (.getfield 39, 3) := by decide +kernel
theorem dX7_row_38 : decode cX7_row 38 = .ok (.iload_n 1, 1) := by decide +kernel
theorem dX7_row_39 : decode cX7_row 39 = .ok (.invokevirtual 270, 3) := by decide +kernel
theorem dX7_row_42 : decode cX7_row 42 = .ok (.aload_n 0, 1) := by decide +kernel
theorem dX7_row_43 : decode cX7_row 43 = .ok (.getfield 39, 3) := by decide +kernel
theorem dX7_row_46 : decode cX7_row 46 = .ok (.getfield 271, 3) := by decide +kernel
theorem dX7_row_49 : decode cX7_row 49 = .ok (.ireturn, 1) := by decide +kernel
theorem dX7_judge_0 : decode cX7_judge 0 = .ok (.aload_n 0, 1) := by decide +kernel
theorem dX7_judge_1 : decode cX7_judge 1 = .ok (.getfield 12, 3) := by decide +kernel
theorem dX7_judge_4 : decode cX7_judge 4 = .ok (.iload_n 1, 1) := by decide +kernel
theorem dX7_judge_5 : decode cX7_judge 5 = .ok (.invokevirtual 98, 3) := by decide +kernel
theorem dX7_judge_8 : decode cX7_judge 8 = .ok (.ifCond .eq 9, 3) := by decide +kernel
theorem dX7_judge_11 : decode cX7_judge 11 = .ok (.aload_n 0, 1) := by decide +kernel
theorem dX7_judge_12 : decode cX7_judge 12 = .ok (.iconst (-1), 1) := by decide +kernel
theorem dX7_judge_13 : decode cX7_judge 13 = .ok (.invokevirtual 71, 3) := by decide +kernel
theorem dX7_judge_16 : decode cX7_judge 16 = .ok (.ireturn, 1) := by decide +kernel
theorem dX7_judge_17 : decode cX7_judge 17 = .ok (.aload_n 0, 1) := by decide +kernel
theorem dX7_judge_18 : decode cX7_judge 18 = .ok (.getfield 39, 3) := by decide +kernel
theorem dX7_judge_21 : decode cX7_judge 21 = .ok (.aload_n 0, 1) := by decide +kernel
theorem dX7_judge_22 : decode cX7_judge 22 = .ok (.getfield 12, 3) := by decide +kernel
theorem dX7_judge_25 : decode cX7_judge 25 = .ok (.iload_n 1, 1) := by decide +kernel
theorem dX7_judge_26 : decode cX7_judge 26 = .ok (.invokevirtual 102, 3) := by decide +kernel
theorem dX7_judge_29 : decode cX7_judge 29 = .ok (.invokevirtual 272, 3) := by decide +kernel
theorem dX7_judge_32 : decode cX7_judge 32 = .ok (.istore_n 2, 1) := by decide +kernel
theorem dX7_judge_33 : decode cX7_judge 33 = .ok (.aload_n 0, 1) := by decide +kernel
theorem dX7_judge_34 : decode cX7_judge 34 = .ok (.getfield 39, 3) := by decide +kernel
theorem dX7_judge_37 : decode cX7_judge 37 = .ok (.iconst 0, 1) := by decide +kernel
theorem dX7_judge_38 : decode cX7_judge 38 = .ok (.putfield 271, 3) := by decide +kernel
theorem dX7_judge_41 : decode cX7_judge 41 = .ok (.iload_n 2, 1) := by decide +kernel
theorem dX7_judge_42 : decode cX7_judge 42 = .ok (.ireturn, 1) := by decide +kernel
theorem dX7_clear_0 : decode cX7_clear 0 = .ok (.aload_n 0, 1) := by decide +kernel
theorem dX7_clear_1 : decode cX7_clear 1 = .ok (.getfield 39, 3) := by decide +kernel
theorem dX7_clear_4 : decode cX7_clear 4 = .ok (.getfield 271, 3) := by decide +kernel
theorem dX7_clear_7 : decode cX7_clear 7 = .ok (.istore_n 1, 1) := by decide +kernel
theorem dX7_clear_8 : decode cX7_clear 8 = .ok (.aload_n 0, 1) := by decide +kernel
theorem dX7_clear_9 : decode cX7_clear 9 = .ok (.getfield 39, 3) := by decide +kernel
theorem dX7_clear_12 : decode cX7_clear 12 = .ok (.iconst 0, 1) := by decide +kernel
theorem dX7_clear_13 : decode cX7_clear 13 = .ok (.putfield 271, 3) := by decide +kernel
theorem dX7_clear_16 : decode cX7_clear 16 = .ok (.iload_n 1, 1) := by decide +kernel
theorem dX7_clear_17 : decode cX7_clear 17 = .ok (.ireturn, 1) := by decide +kernel
theorem dX7_draw_0 : decode cX7_draw 0 = .ok (.aload_n 0, 1) := by decide +kernel
theorem dX7_draw_1 : decode cX7_draw 1 = .ok (.aload_n 0, 1) := by decide +kernel
theorem dX7_draw_2 : decode cX7_draw 2 = .ok (.getfield 276, 3) := by decide +kernel
theorem dX7_draw_5 : decode cX7_draw 5 = .ok (.ldc_w 319, 3) := by decide +kernel
theorem dX7_draw_8 : decode cX7_draw 8 = .ok (.imul, 1) := by decide +kernel
theorem dX7_draw_9 : decode cX7_draw 9 = .ok (.ldc_w 320, 3) := by decide +kernel
theorem dX7_draw_12 : decode cX7_draw 12 = .ok (.iadd, 1) := by decide +kernel
theorem dX7_draw_13 : decode cX7_draw 13 = .ok (.putfield 276, 3) := by decide +kernel
theorem dX7_draw_16 : decode cX7_draw 16 = .ok (.iload_n 1, 1) := by decide +kernel
theorem dX7_draw_17 : decode cX7_draw 17 = .ok (.iconst 1, 1) := by decide +kernel
theorem dX7_draw_18 : decode cX7_draw 18 = .ok (.if_icmp .ge 7, 3) := by decide +kernel
theorem dX7_draw_21 : decode cX7_draw 21 = .ok (.iconst 0, 1) := by decide +kernel
theorem dX7_draw_22 : decode cX7_draw 22 = .ok (.goto 17, 3) := by decide +kernel
theorem dX7_draw_25 : decode cX7_draw 25 = .ok (.aload_n 0, 1) := by decide +kernel
theorem dX7_draw_26 : decode cX7_draw 26 = .ok (.getfield 276, 3) := by decide +kernel
theorem dX7_draw_29 : decode cX7_draw 29 = .ok (.ldc_w 321, 3) := by decide +kernel
theorem dX7_draw_32 : decode cX7_draw 32 = .ok (.iand, 1) := by decide +kernel
theorem dX7_draw_33 : decode cX7_draw 33 = .ok (.sipush 256, 3) := by decide +kernel
theorem dX7_draw_36 : decode cX7_draw 36 = .ok (.idiv, 1) := by decide +kernel
theorem dX7_draw_37 : decode cX7_draw 37 = .ok (.iload_n 1, 1) := by decide +kernel
theorem dX7_draw_38 : decode cX7_draw 38 = .ok (.irem, 1) := by decide +kernel
theorem dX7_draw_39 : decode cX7_draw 39 = .ok (.ireturn, 1) := by decide +kernel
theorem dX7_glueByLot_0 : decode cX7_glueByLot 0 = .ok (.aload_n 0, 1) := by decide +kernel
theorem dX7_glueByLot_1 : decode cX7_glueByLot 1 = .ok (.getfield 19, 3) := by decide +kernel
theorem dX7_glueByLot_4 : decode cX7_glueByLot 4 = .ok (.aload_n 0, 1) := by decide +kernel
theorem dX7_glueByLot_5 : decode cX7_glueByLot 5 = .ok (.getfield 12, 3) := by decide +kernel
theorem dX7_glueByLot_8 : decode cX7_glueByLot 8 = .ok (.invokevirtual 94, 3) := by decide +kernel
theorem dX7_glueByLot_11 : decode cX7_glueByLot 11 = .ok (.iconst 0, 1) := by decide +kernel
theorem dX7_glueByLot_12 : decode cX7_glueByLot 12 = .ok (.istore_n 1, 1) := by decide +kernel
theorem dX7_glueByLot_13 : decode cX7_glueByLot 13 = .ok (.iload_n 1, 1) := by decide +kernel
theorem dX7_glueByLot_14 : decode cX7_glueByLot 14 = .ok (.aload_n 0, 1) := by decide +kernel
theorem dX7_glueByLot_15 : decode cX7_glueByLot 15 = .ok (.getfield 19, 3) := by decide +kernel
theorem dX7_glueByLot_18 : decode cX7_glueByLot 18 = .ok (.getfield 199, 3) := by decide +kernel
theorem dX7_glueByLot_21 : decode cX7_glueByLot 21 = .ok (.if_icmp .ge 57, 3) := by decide +kernel
theorem dX7_glueByLot_24 : decode cX7_glueByLot 24 = .ok (.aload_n 0, 1) := by decide +kernel
theorem dX7_glueByLot_25 : decode cX7_glueByLot 25 = .ok (.getfield 19, 3) := by decide +kernel
theorem dX7_glueByLot_28 : decode cX7_glueByLot 28 = .ok (.iload_n 1, 1) := by decide +kernel
theorem dX7_glueByLot_29 : decode cX7_glueByLot 29 = .ok (.invokevirtual 102, 3) := by decide +kernel
theorem dX7_glueByLot_32 : decode cX7_glueByLot 32 = .ok (.astore_n 2, 1) := by decide +kernel
theorem dX7_glueByLot_33 : decode cX7_glueByLot 33 = .ok (.aload_n 2, 1) := by decide +kernel
theorem dX7_glueByLot_34 : decode cX7_glueByLot 34 = .ok (.invokevirtual 161, 3) := by decide +kernel
theorem dX7_glueByLot_37 : decode cX7_glueByLot 37 = .ok (.ifCond .ne 35, 3) := by decide +kernel
theorem dX7_glueByLot_40 : decode cX7_glueByLot 40 = .ok (.aload_n 0, 1) := by decide +kernel
theorem dX7_glueByLot_41 : decode cX7_glueByLot 41 = .ok (.bipush 60, 2) := by decide +kernel
theorem dX7_glueByLot_43 : decode cX7_glueByLot 43 = .ok (.invokevirtual 316, 3) := by decide +kernel
theorem dX7_glueByLot_46 : decode cX7_glueByLot 46 = .ok (.istore_n 3, 1) := by decide +kernel
theorem dX7_glueByLot_47 : decode cX7_glueByLot 47 = .ok (.aload_n 0, 1) := by decide +kernel
theorem dX7_glueByLot_48 : decode cX7_glueByLot 48 = .ok (.iconst 4, 1) := by decide +kernel
theorem dX7_glueByLot_49 : decode cX7_glueByLot 49 = .ok (.invokevirtual 316, 3) := by decide +kernel
theorem dX7_glueByLot_52 : decode cX7_glueByLot 52 = .ok (.istore 4, 2) := by decide +kernel
theorem dX7_glueByLot_54 : decode cX7_glueByLot 54 = .ok (.aload_n 2, 1) := by decide +kernel
theorem dX7_glueByLot_55 : decode cX7_glueByLot 55 = .ok (.aload_n 2, 1) := by decide +kernel
theorem dX7_glueByLot_56 : decode cX7_glueByLot 56 = .ok (.iload_n 3, 1) := by decide +kernel
theorem dX7_glueByLot_57 : decode cX7_glueByLot 57 = .ok (.iload 4, 2) := by decide +kernel
theorem dX7_glueByLot_59 : decode cX7_glueByLot 59 = .ok (.aload_n 0, 1) := by decide +kernel
theorem dX7_glueByLot_60 : decode cX7_glueByLot 60 = .ok (.getfield 19, 3) := by decide +kernel
theorem dX7_glueByLot_63 : decode cX7_glueByLot 63 = .ok (.getfield 115, 3) := by decide +kernel
theorem dX7_glueByLot_66 : decode cX7_glueByLot 66 = .ok (.invokevirtual 168, 3) := by decide +kernel
theorem dX7_glueByLot_69 : decode cX7_glueByLot 69 = .ok (.putfield 112, 3) := by decide +kernel
theorem dX7_glueByLot_72 : decode cX7_glueByLot 72 = .ok (.iinc 1 1, 3) := by decide +kernel
theorem dX7_glueByLot_75 : decode cX7_glueByLot 75 = .ok (.goto (-62), 3) := by decide +kernel
theorem dX7_glueByLot_78 : decode cX7_glueByLot 78 = .ok (.return_, 1) := by decide +kernel
theorem dX7_lots_0 : decode cX7_lots 0 = .ok (.iload_n 1, 1) := by decide +kernel
theorem dX7_lots_1 : decode cX7_lots 1 = .ok (.iconst 1, 1) := by decide +kernel
theorem dX7_lots_2 : decode cX7_lots 2 = .ok (.bipush 20, 2) := by decide +kernel
theorem dX7_lots_4 : decode cX7_lots 4 = .ok (.invokestatic 137, 3) := by decide +kernel
theorem dX7_lots_7 : decode cX7_lots 7 = .ok (.istore 4, 2) := by decide +kernel
theorem dX7_lots_9 : decode cX7_lots 9 = .ok (.iload 4, 2) := by decide +kernel
theorem dX7_lots_11 : decode cX7_lots 11 = .ok (.ifCond .eq 10, 3) := by decide +kernel
theorem dX7_lots_14 : decode cX7_lots 14 = .ok (.aload_n 0, 1) := by decide +kernel
theorem dX7_lots_15 : decode cX7_lots 15 = .ok (.iload 4, 2) := by decide +kernel
theorem dX7_lots_17 : decode cX7_lots 17 = .ok (.invokevirtual 71, 3) := by decide +kernel
theorem dX7_lots_20 : decode cX7_lots 20 = .ok (.ireturn, 1) := by decide +kernel
theorem dX7_lots_21 : decode cX7_lots 21 = .ok (.iload_n 3, 1) := by decide +kernel
theorem dX7_lots_22 : decode cX7_lots 22 = .ok (.invokestatic 177, 3) := by decide +kernel
theorem dX7_lots_25 : decode cX7_lots 25 = .ok (.ifCond .eq 10, 3) := by decide +kernel
theorem dX7_lots_28 : decode cX7_lots 28 = .ok (.aload_n 0, 1) := by decide +kernel
theorem dX7_lots_29 : decode cX7_lots 29 = .ok (.bipush (-2), 2) := by decide +kernel
theorem dX7_lots_31 : decode cX7_lots 31 = .ok (.invokevirtual 71, 3) := by decide +kernel
theorem dX7_lots_34 : decode cX7_lots 34 = .ok (.ireturn, 1) := by decide +kernel
theorem dX7_lots_35 : decode cX7_lots 35 = .ok (.aload_n 0, 1) := by decide +kernel
theorem dX7_lots_36 : decode cX7_lots 36 = .ok (.iload_n 2, 1) := by decide +kernel
theorem dX7_lots_37 : decode cX7_lots 37 = .ok (.putfield 276, 3) := by decide +kernel
theorem dX7_lots_40 : decode cX7_lots 40 = .ok (.iconst 0, 1) := by decide +kernel
theorem dX7_lots_41 : decode cX7_lots 41 = .ok (.istore 5, 2) := by decide +kernel
theorem dX7_lots_43 : decode cX7_lots 43 = .ok (.iconst 0, 1) := by decide +kernel
theorem dX7_lots_44 : decode cX7_lots 44 = .ok (.istore 6, 2) := by decide +kernel
theorem dX7_lots_46 : decode cX7_lots 46 = .ok (.iload 6, 2) := by decide +kernel
theorem dX7_lots_48 : decode cX7_lots 48 = .ok (.iload_n 1, 1) := by decide +kernel
theorem dX7_lots_49 : decode cX7_lots 49 = .ok (.if_icmp .ge 46, 3) := by decide +kernel
theorem dX7_lots_52 : decode cX7_lots 52 = .ok (.aload_n 0, 1) := by decide +kernel
theorem dX7_lots_53 : decode cX7_lots 53 = .ok (.invokevirtual 279, 3) := by decide +kernel
theorem dX7_lots_56 : decode cX7_lots 56 = .ok (.iload 5, 2) := by decide +kernel
theorem dX7_lots_58 : decode cX7_lots 58 = .ok (.iload_n 3, 1) := by decide +kernel
theorem dX7_lots_59 : decode cX7_lots 59 = .ok (.ifCond .ne 20, 3) := by decide +kernel
theorem dX7_lots_62 : decode cX7_lots 62 = .ok (.aload_n 0, 1) := by decide +kernel
theorem dX7_lots_63 : decode cX7_lots 63 = .ok (.getfield 19, 3) := by decide +kernel
theorem dX7_lots_66 : decode cX7_lots 66 = .ok (.aload_n 0, 1) := by decide +kernel
theorem dX7_lots_67 : decode cX7_lots 67 = .ok (.getfield 19, 3) := by decide +kernel
theorem dX7_lots_70 : decode cX7_lots 70 = .ok (.getfield 115, 3) := by decide +kernel
theorem dX7_lots_73 : decode cX7_lots 73 = .ok (.invokevirtual 174, 3) := by decide +kernel
theorem dX7_lots_76 : decode cX7_lots 76 = .ok (.goto 10, 3) := by decide +kernel
theorem dX7_lots_79 : decode cX7_lots 79 = .ok (.aload_n 0, 1) := by decide +kernel
theorem dX7_lots_80 : decode cX7_lots 80 = .ok (.getfield 19, 3) := by decide +kernel
theorem dX7_lots_83 : decode cX7_lots 83 = .ok (.invokevirtual 180, 3) := by decide +kernel
theorem dX7_lots_86 : decode cX7_lots 86 = .ok (.iadd, 1) := by decide +kernel
theorem dX7_lots_87 : decode cX7_lots 87 = .ok (.istore 5, 2) := by decide +kernel
theorem dX7_lots_89 : decode cX7_lots 89 = .ok (.iinc 6 1, 3) := by decide +kernel
theorem dX7_lots_92 : decode cX7_lots 92 = .ok (.goto (-46), 3) := by decide +kernel
theorem dX7_lots_95 : decode cX7_lots 95 = .ok (.iload 5, 2) := by decide +kernel
theorem dX7_lots_97 : decode cX7_lots 97 = .ok (.ireturn, 1) := by decide +kernel
theorem dX7_image_0 : decode cX7_image 0 = .ok (.aload_n 0, 1) := by decide +kernel
theorem dX7_image_1 : decode cX7_image 1 = .ok (.getfield 16, 3) := by decide +kernel
theorem dX7_image_4 : decode cX7_image 4 = .ok (.aload_n 0, 1) := by decide +kernel
theorem dX7_image_5 : decode cX7_image 5 = .ok (.getfield 12, 3) := by decide +kernel
theorem dX7_image_8 : decode cX7_image 8 = .ok (.invokevirtual 94, 3) := by decide +kernel
theorem dX7_image_11 : decode cX7_image 11 = .ok (.aload_n 0, 1) := by decide +kernel
theorem dX7_image_12 : decode cX7_image 12 = .ok (.iconst 1, 1) := by decide +kernel
theorem dX7_image_13 : decode cX7_image 13 = .ok (.putfield 282, 3) := by decide +kernel
theorem dX7_image_16 : decode cX7_image 16 = .ok (.aload_n 0, 1) := by decide +kernel
theorem dX7_image_17 : decode cX7_image 17 = .ok (.getfield 12, 3) := by decide +kernel
theorem dX7_image_20 : decode cX7_image 20 = .ok (.getfield 115, 3) := by decide +kernel
theorem dX7_image_23 : decode cX7_image 23 = .ok (.ireturn, 1) := by decide +kernel
theorem dX7_on_0 : decode cX7_on 0 = .ok (.aload_n 0, 1) := by decide +kernel
theorem dX7_on_1 : decode cX7_on 1 = .ok (.getfield 282, 3) := by decide +kernel
theorem dX7_on_4 : decode cX7_on 4 = .ok (.ifCond .ne 10, 3) := by decide +kernel
theorem dX7_on_7 : decode cX7_on 7 = .ok (.aload_n 0, 1) := by decide +kernel
theorem dX7_on_8 : decode cX7_on 8 = .ok (.bipush (-3), 2) := by decide +kernel
theorem dX7_on_10 : decode cX7_on 10 = .ok (.invokevirtual 71, 3) := by decide +kernel
theorem dX7_on_13 : decode cX7_on 13 = .ok (.ireturn, 1) := by decide +kernel
theorem dX7_on_14 : decode cX7_on 14 = .ok (.aload_n 0, 1) := by decide +kernel
theorem dX7_on_15 : decode cX7_on 15 = .ok (.getfield 12, 3) := by decide +kernel
theorem dX7_on_18 : decode cX7_on 18 = .ok (.aload_n 0, 1) := by decide +kernel
theorem dX7_on_19 : decode cX7_on 19 = .ok (.getfield 16, 3) := by decide +kernel
theorem dX7_on_22 : decode cX7_on 22 = .ok (.invokevirtual 94, 3) := by decide +kernel
theorem dX7_on_25 : decode cX7_on 25 = .ok (.aload_n 0, 1) := by decide +kernel
theorem dX7_on_26 : decode cX7_on 26 = .ok (.getfield 12, 3) := by decide +kernel
theorem dX7_on_29 : decode cX7_on 29 = .ok (.getfield 115, 3) := by decide +kernel
theorem dX7_on_32 : decode cX7_on 32 = .ok (.ireturn, 1) := by decide +kernel
theorem dX7_count_0 : decode cX7_count 0 = .ok (.iload_n 1, 1) := by decide +kernel
theorem dX7_count_1 : decode cX7_count 1 = .ok (.bipush 11, 2) := by decide +kernel
theorem dX7_count_3 : decode cX7_count 3 = .ok (.if_icmp .lt 19, 3) := by decide +kernel
theorem dX7_count_6 : decode cX7_count 6 = .ok (.iload_n 1, 1) := by decide +kernel
theorem dX7_count_7 : decode cX7_count 7 = .ok (.bipush 16, 2) := by decide +kernel
theorem dX7_count_9 : decode cX7_count 9 = .ok (.if_icmp .gt 13, 3) := by decide +kernel
theorem dX7_count_12 : decode cX7_count 12 = .ok (.aload_n 0, 1) := by decide +kernel
theorem dX7_count_13 : decode cX7_count 13 = .ok (.getfield 68, 3) := by decide +kernel
theorem dX7_count_16 : decode cX7_count 16 = .ok (.iload_n 1, 1) := by decide +kernel
theorem dX7_count_17 : decode cX7_count 17 = .ok (.bipush 10, 2) := by decide +kernel
theorem dX7_count_19 : decode cX7_count 19 = .ok (.isub, 1) := by decide +kernel
theorem dX7_count_20 : decode cX7_count 20 = .ok (.iaload, 1) := by decide +kernel
theorem dX7_count_21 : decode cX7_count 21 = .ok (.ireturn, 1) := by decide +kernel
theorem dX7_count_22 : decode cX7_count 22 = .ok (.iload_n 1, 1) := by decide +kernel
theorem dX7_count_23 : decode cX7_count 23 = .ok (.tableswitch 109 0 7 #[45, 53, 61, 69, 77, 85, 93, 101], 45) := by decide +kernel
theorem dX7_count_68 : decode cX7_count 68 = .ok (.aload_n 0, 1) := by decide +kernel
theorem dX7_count_69 : decode cX7_count 69 = .ok (.getfield 12, 3) := by decide +kernel
theorem dX7_count_72 : decode cX7_count 72 = .ok (.getfield 199, 3) := by decide +kernel
theorem dX7_count_75 : decode cX7_count 75 = .ok (.ireturn, 1) := by decide +kernel
theorem dX7_count_76 : decode cX7_count 76 = .ok (.aload_n 0, 1) := by decide +kernel
theorem dX7_count_77 : decode cX7_count 77 = .ok (.getfield 12, 3) := by decide +kernel
theorem dX7_count_80 : decode cX7_count 80 = .ok (.getfield 115, 3) := by decide +kernel
theorem dX7_count_83 : decode cX7_count 83 = .ok (.ireturn, 1) := by decide +kernel
theorem dX7_count_84 : decode cX7_count 84 = .ok (.aload_n 0, 1) := by decide +kernel
theorem dX7_count_85 : decode cX7_count 85 = .ok (.getfield 12, 3) := by decide +kernel
theorem dX7_count_88 : decode cX7_count 88 = .ok (.getfield 151, 3) := by decide +kernel
theorem dX7_count_91 : decode cX7_count 91 = .ok (.ireturn, 1) := by decide +kernel
theorem dX7_count_92 : decode cX7_count 92 = .ok (.aload_n 0, 1) := by decide +kernel
theorem dX7_count_93 : decode cX7_count 93 = .ok (.getfield 12, 3) := by decide +kernel
theorem dX7_count_96 : decode cX7_count 96 = .ok (.getfield 148, 3) := by decide +kernel
theorem dX7_count_99 : decode cX7_count 99 = .ok (.ireturn, 1) := by decide +kernel
theorem dX7_count_100 : decode cX7_count 100 = .ok (.aload_n 0, 1) := by decide +kernel
theorem dX7_count_101 : decode cX7_count 101 = .ok (.getfield 12, 3) := by decide +kernel
theorem dX7_count_104 : decode cX7_count 104 = .ok (.invokevirtual 286, 3) := by decide +kernel
theorem dX7_count_107 : decode cX7_count 107 = .ok (.ireturn, 1) := by decide +kernel
theorem dX7_count_108 : decode cX7_count 108 = .ok (.aload_n 0, 1) := by decide +kernel
theorem dX7_count_109 : decode cX7_count 109 = .ok (.getfield 12, 3) := by decide +kernel
theorem dX7_count_112 : decode cX7_count 112 = .ok (.invokevirtual 289, 3) := by decide +kernel
theorem dX7_count_115 : decode cX7_count 115 = .ok (.ireturn, 1) := by decide +kernel
theorem dX7_count_116 : decode cX7_count 116 = .ok (.aload_n 0, 1) := by decide +kernel
theorem dX7_count_117 : decode cX7_count 117 = .ok (.getfield 39, 3) := by decide +kernel
theorem dX7_count_120 : decode cX7_count 120 = .ok (.getfield 271, 3) := by decide +kernel
theorem dX7_count_123 : decode cX7_count 123 = .ok (.ireturn, 1) := by decide +kernel
theorem dX7_count_124 : decode cX7_count 124 = .ok (.aload_n 0, 1) := by decide +kernel
theorem dX7_count_125 : decode cX7_count 125 = .ok (.getfield 32, 3) := by decide +kernel
theorem dX7_count_128 : decode cX7_count 128 = .ok (.getfield 83, 3) := by decide +kernel
theorem dX7_count_131 : decode cX7_count 131 = .ok (.ireturn, 1) := by decide +kernel
theorem dX7_count_132 : decode cX7_count 132 = .ok (.bipush (-9), 2) := by decide +kernel
theorem dX7_count_134 : decode cX7_count 134 = .ok (.ireturn, 1) := by decide +kernel
theorem dX8_isIn_0 : decode cX8_isIn 0 = .ok (.iload_n 0, 1) := by decide +kernel
theorem dX8_isIn_1 : decode cX8_isIn 1 = .ok (.iload_n 1, 1) := by decide +kernel
theorem dX8_isIn_2 : decode cX8_isIn 2 = .ok (.if_icmp .lt 12, 3) := by decide +kernel
theorem dX8_isIn_5 : decode cX8_isIn 5 = .ok (.iload_n 0, 1) := by decide +kernel
theorem dX8_isIn_6 : decode cX8_isIn 6 = .ok (.iload_n 2, 1) := by decide +kernel
theorem dX8_isIn_7 : decode cX8_isIn 7 = .ok (.if_icmp .gt 7, 3) := by decide +kernel
theorem dX8_isIn_10 : decode cX8_isIn 10 = .ok (.iconst 1, 1) := by decide +kernel
theorem dX8_isIn_11 : decode cX8_isIn 11 = .ok (.goto 4, 3) := by decide +kernel
theorem dX8_isIn_14 : decode cX8_isIn 14 = .ok (.iconst 0, 1) := by decide +kernel
theorem dX8_isIn_15 : decode cX8_isIn 15 = .ok (.ireturn, 1) := by decide +kernel
theorem dX8_least_0 : decode cX8_least 0 = .ok (.iload_n 0, 1) := by decide +kernel
theorem dX8_least_1 : decode cX8_least 1 = .ok (.iload_n 1, 1) := by decide +kernel
theorem dX8_least_2 : decode cX8_least 2 = .ok (.if_icmp .ge 7, 3) := by decide +kernel
theorem dX8_least_5 : decode cX8_least 5 = .ok (.iload_n 0, 1) := by decide +kernel
theorem dX8_least_6 : decode cX8_least 6 = .ok (.goto 4, 3) := by decide +kernel
theorem dX8_least_9 : decode cX8_least 9 = .ok (.iload_n 1, 1) := by decide +kernel
theorem dX8_least_10 : decode cX8_least 10 = .ok (.ireturn, 1) := by decide +kernel
theorem dX8_most_0 : decode cX8_most 0 = .ok (.iload_n 0, 1) := by decide +kernel
theorem dX8_most_1 : decode cX8_most 1 = .ok (.iload_n 1, 1) := by decide +kernel
theorem dX8_most_2 : decode cX8_most 2 = .ok (.if_icmp .le 7, 3) := by decide +kernel
theorem dX8_most_5 : decode cX8_most 5 = .ok (.iload_n 0, 1) := by decide +kernel
theorem dX8_most_6 : decode cX8_most 6 = .ok (.goto 4, 3) := by decide +kernel
theorem dX8_most_9 : decode cX8_most 9 = .ok (.iload_n 1, 1) := by decide +kernel
theorem dX8_most_10 : decode cX8_most 10 = .ok (.ireturn, 1) := by decide +kernel
theorem dX8_lays_0 : decode cX8_lays 0 = .ok (.iconst 0, 1) := by decide +kernel
theorem dX8_lays_1 : decode cX8_lays 1 = .ok (.istore_n 2, 1) := by decide +kernel
theorem dX8_lays_2 : decode cX8_lays 2 = .ok (.iload_n 2, 1) := by decide +kernel
theorem dX8_lays_3 : decode cX8_lays 3 = .ok (.sipush 132, 3) := by decide +kernel
theorem dX8_lays_6 : decode cX8_lays 6 = .ok (.if_icmp .ge 15, 3) := by decide +kernel
theorem dX8_lays_9 : decode cX8_lays 9 = .ok (.aload_n 1, 1) := by decide +kernel
theorem dX8_lays_10 : decode cX8_lays 10 = .ok (.iload_n 2, 1) := by decide +kernel
theorem dX8_lays_11 : decode cX8_lays 11 = .ok (.aload_n 0, 1) := by decide +kernel
theorem dX8_lays_12 : decode cX8_lays 12 = .ok (.iload_n 2, 1) := by decide +kernel
theorem dX8_lays_13 : decode cX8_lays 13 = .ok (.iaload, 1) := by decide +kernel
theorem dX8_lays_14 : decode cX8_lays 14 = .ok (.iastore, 1) := by decide +kernel
theorem dX8_lays_15 : decode cX8_lays 15 = .ok (.iinc 2 1, 3) := by decide +kernel
theorem dX8_lays_18 : decode cX8_lays 18 = .ok (.goto (-16), 3) := by decide +kernel
theorem dX8_lays_21 : decode cX8_lays 21 = .ok (.return_, 1) := by decide +kernel
theorem dX8_no_0 : decode cX8_no 0 = .ok (.aload_n 0, 1) := by decide +kernel
theorem dX8_no_1 : decode cX8_no 1 = .ok (.getfield 28, 3) := by decide +kernel
theorem dX8_no_4 : decode cX8_no 4 = .ok (.iload_n 1, 1) := by decide +kernel
theorem dX8_no_5 : decode cX8_no 5 = .ok (.ineg, 1) := by decide +kernel
theorem dX8_no_6 : decode cX8_no 6 = .ok (.dup2, 1) := by decide +kernel
theorem dX8_no_7 : decode cX8_no 7 = .ok (.iaload, 1) := by decide +kernel
theorem dX8_no_8 : decode cX8_no 8 = .ok (.iconst 1, 1) := by decide +kernel
theorem dX8_no_9 : decode cX8_no 9 = .ok (.iadd, 1) := by decide +kernel
theorem dX8_no_10 : decode cX8_no 10 = .ok (.iastore, 1) := by decide +kernel
theorem dX8_no_11 : decode cX8_no 11 = .ok (.iload_n 1, 1) := by decide +kernel
theorem dX8_no_12 : decode cX8_no 12 = .ok (.ireturn, 1) := by decide +kernel
theorem dX8_noFar_0 : decode cX8_noFar 0 = .ok (.ldc 40, 2) := by decide +kernel
theorem dX8_noFar_2 : decode cX8_noFar 2 = .ok (.aload_n 0, 1) := by decide +kernel
theorem dX8_noFar_3 : decode cX8_noFar 3 = .ok (.iload_n 1, 1) := by decide +kernel
theorem dX8_noFar_4 : decode cX8_noFar 4 = .ok (.invokevirtual 41, 3) := by decide +kernel
theorem dX8_noFar_7 : decode cX8_noFar 7 = .ok (.isub, 1) := by decide +kernel
theorem dX8_noFar_8 : decode cX8_noFar 8 = .ok (.ireturn, 1) := by decide +kernel
theorem dX8_noWide_0 : decode cX8_noWide 0 = .ok (.ldc2_w 45, 3) := by decide +kernel
theorem dX8_noWide_3 : decode cX8_noWide 3 = .ok (.aload_n 0, 1) := by decide +kernel
theorem dX8_noWide_4 : decode cX8_noWide 4 = .ok (.iload_n 1, 1) := by decide +kernel
theorem dX8_noWide_5 : decode cX8_noWide 5 = .ok (.invokevirtual 41, 3) := by decide +kernel
theorem dX8_noWide_8 : decode cX8_noWide 8 = .ok (.i2l, 1) := by decide +kernel
theorem dX8_noWide_9 : decode cX8_noWide 9 = .ok (.lsub, 1) := by decide +kernel
theorem dX8_noWide_10 : decode cX8_noWide 10 = .ok (.lreturn, 1) := by decide +kernel
theorem dX8_isThing_0 : decode cX8_isThing 0 = .ok (.iload_n 1, 1) := by decide +kernel
theorem dX8_isThing_1 : decode cX8_isThing 1 = .ok (.iconst 0, 1) := by decide +kernel
theorem dX8_isThing_2 : decode cX8_isThing 2 = .ok (.aload_n 0, 1) := by decide +kernel
theorem dX8_isThing_3 : decode cX8_isThing 3 = .ok (.getfield 9, 3) := by decide +kernel
theorem dX8_isThing_6 : decode cX8_isThing 6 = .ok (.iconst 0, 1) := by decide +kernel
theorem dX8_isThing_7 : decode cX8_isThing 7 = .ok (.iaload, 1) := by decide +kernel
theorem dX8_isThing_8 : decode cX8_isThing 8 = .ok (.iconst 1, 1) := by decide +kernel
theorem dX8_isThing_9 : decode cX8_isThing 9 = .ok (.isub, 1) := by decide +kernel
theorem dX8_isThing_10 : decode cX8_isThing 10 = .ok (.invokestatic 47, 3) := by decide +kernel
theorem dX8_isThing_13 : decode cX8_isThing 13 = .ok (.ireturn, 1) := by decide +kernel
theorem dX8_isYear_0 : decode cX8_isYear 0 = .ok (.iload_n 0, 1) := by decide +kernel
theorem dX8_isYear_1 : decode cX8_isYear 1 = .ok (.iconst 0, 1) := by decide +kernel
theorem dX8_isYear_2 : decode cX8_isYear 2 = .ok (.bipush 11, 2) := by decide +kernel
theorem dX8_isYear_4 : decode cX8_isYear 4 = .ok (.invokestatic 47, 3) := by decide +kernel
theorem dX8_isYear_7 : decode cX8_isYear 7 = .ok (.ireturn, 1) := by decide +kernel
theorem dX8_at_0 : decode cX8_at 0 = .ok (.bipush 28, 2) := by decide +kernel
theorem dX8_at_2 : decode cX8_at 2 = .ok (.bipush 12, 2) := by decide +kernel
theorem dX8_at_4 : decode cX8_at 4 = .ok (.iload_n 0, 1) := by decide +kernel
theorem dX8_at_5 : decode cX8_at 5 = .ok (.imul, 1) := by decide +kernel
theorem dX8_at_6 : decode cX8_at 6 = .ok (.iadd, 1) := by decide +kernel
theorem dX8_at_7 : decode cX8_at 7 = .ok (.iload_n 1, 1) := by decide +kernel
theorem dX8_at_8 : decode cX8_at 8 = .ok (.iadd, 1) := by decide +kernel
theorem dX8_at_9 : decode cX8_at 9 = .ok (.ireturn, 1) := by decide +kernel
theorem dX8_bits_0 : decode cX8_bits 0 = .ok (.iconst 0, 1) := by decide +kernel
theorem dX8_bits_1 : decode cX8_bits 1 = .ok (.istore_n 1, 1) := by decide +kernel
theorem dX8_bits_2 : decode cX8_bits 2 = .ok (.iconst 0, 1) := by decide +kernel
theorem dX8_bits_3 : decode cX8_bits 3 = .ok (.istore_n 2, 1) := by decide +kernel
theorem dX8_bits_4 : decode cX8_bits 4 = .ok (.iload_n 2, 1) := by decide +kernel
theorem dX8_bits_5 : decode cX8_bits 5 = .ok (.bipush 12, 2) := by decide +kernel
theorem dX8_bits_7 : decode cX8_bits 7 = .ok (.if_icmp .ge 17, 3) := by decide +kernel
theorem dX8_bits_10 : decode cX8_bits 10 = .ok (.iload_n 1, 1) := by decide +kernel
theorem dX8_bits_11 : decode cX8_bits 11 = .ok (.iload_n 0, 1) := by decide +kernel
theorem dX8_bits_12 : decode cX8_bits 12 = .ok (.iload_n 2, 1) := by decide +kernel
theorem dX8_bits_13 : decode cX8_bits 13 = .ok (.ishr, 1) := by decide +kernel
theorem dX8_bits_14 : decode cX8_bits 14 = .ok (.iconst 1, 1) := by decide +kernel
theorem dX8_bits_15 : decode cX8_bits 15 = .ok (.iand, 1) := by decide +kernel
theorem dX8_bits_16 : decode cX8_bits 16 = .ok (.iadd, 1) := by decide +kernel
theorem dX8_bits_17 : decode cX8_bits 17 = .ok (.istore_n 1, 1) := by decide +kernel
theorem dX8_bits_18 : decode cX8_bits 18 = .ok (.iinc 2 1, 3) := by decide +kernel
theorem dX8_bits_21 : decode cX8_bits 21 = .ok (.goto (-17), 3) := by decide +kernel
theorem dX8_bits_24 : decode cX8_bits 24 = .ok (.iload_n 1, 1) := by decide +kernel
theorem dX8_bits_25 : decode cX8_bits 25 = .ok (.ireturn, 1) := by decide +kernel
theorem dX8_cost_0 : decode cX8_cost 0 = .ok (.aload_n 0, 1) := by decide +kernel
theorem dX8_cost_1 : decode cX8_cost 1 = .ok (.iconst 4, 1) := by decide +kernel
theorem dX8_cost_2 : decode cX8_cost 2 = .ok (.iload_n 1, 1) := by decide +kernel
theorem dX8_cost_3 : decode cX8_cost 3 = .ok (.iadd, 1) := by decide +kernel
theorem dX8_cost_4 : decode cX8_cost 4 = .ok (.iaload, 1) := by decide +kernel
theorem dX8_cost_5 : decode cX8_cost 5 = .ok (.iconst 4, 1) := by decide +kernel
theorem dX8_cost_6 : decode cX8_cost 6 = .ok (.if_icmp .ne 14, 3) := by decide +kernel
theorem dX8_cost_9 : decode cX8_cost 9 = .ok (.iconst 1, 1) := by decide +kernel
theorem dX8_cost_10 : decode cX8_cost 10 = .ok (.aload_n 0, 1) := by decide +kernel
theorem dX8_cost_11 : decode cX8_cost 11 = .ok (.bipush 12, 2) := by decide +kernel
theorem dX8_cost_13 : decode cX8_cost 13 = .ok (.iload_n 1, 1) := by decide +kernel
theorem dX8_cost_14 : decode cX8_cost 14 = .ok (.iadd, 1) := by decide +kernel
theorem dX8_cost_15 : decode cX8_cost 15 = .ok (.iaload, 1) := by decide +kernel
theorem dX8_cost_16 : decode cX8_cost 16 = .ok (.iadd, 1) := by decide +kernel
theorem dX8_cost_17 : decode cX8_cost 17 = .ok (.goto 4, 3) := by decide +kernel
theorem dX8_cost_20 : decode cX8_cost 20 = .ok (.iconst 1, 1) := by decide +kernel
theorem dX8_cost_21 : decode cX8_cost 21 = .ok (.ireturn, 1) := by decide +kernel
theorem dX8_reach_0 : decode cX8_reach 0 = .ok (.iconst 0, 1) := by decide +kernel
theorem dX8_reach_1 : decode cX8_reach 1 = .ok (.iload_n 2, 1) := by decide +kernel
theorem dX8_reach_2 : decode cX8_reach 2 = .ok (.iconst 5, 1) := by decide +kernel
theorem dX8_reach_3 : decode cX8_reach 3 = .ok (.idiv, 1) := by decide +kernel
theorem dX8_reach_4 : decode cX8_reach 4 = .ok (.iload_n 3, 1) := by decide +kernel
theorem dX8_reach_5 : decode cX8_reach 5 = .ok (.isub, 1) := by decide +kernel
theorem dX8_reach_6 : decode cX8_reach 6 = .ok (.invokestatic 51, 3) := by decide +kernel
theorem dX8_reach_9 : decode cX8_reach 9 = .ok (.istore 4, 2) := by decide +kernel
theorem dX8_reach_11 : decode cX8_reach 11 = .ok (.aload_n 0, 1) := by decide +kernel
theorem dX8_reach_12 : decode cX8_reach 12 = .ok (.iconst 4, 1) := by decide +kernel
theorem dX8_reach_13 : decode cX8_reach 13 = .ok (.iload_n 1, 1) := by decide +kernel
theorem dX8_reach_14 : decode cX8_reach 14 = .ok (.iadd, 1) := by decide +kernel
theorem dX8_reach_15 : decode cX8_reach 15 = .ok (.iaload, 1) := by decide +kernel
theorem dX8_reach_16 : decode cX8_reach 16 = .ok (.istore 5, 2) := by decide +kernel
theorem dX8_reach_18 : decode cX8_reach 18 = .ok (.iload 5, 2) := by decide +kernel
theorem dX8_reach_20 : decode cX8_reach 20 = .ok (.iconst 2, 1) := by decide +kernel
theorem dX8_reach_21 : decode cX8_reach 21 = .ok (.if_icmp .eq 9, 3) := by decide +kernel
theorem dX8_reach_24 : decode cX8_reach 24 = .ok (.iload 5, 2) := by decide +kernel
theorem dX8_reach_26 : decode cX8_reach 26 = .ok (.iconst 5, 1) := by decide +kernel
theorem dX8_reach_27 : decode cX8_reach 27 = .ok (.if_icmp .ne 15, 3) := by decide +kernel
theorem dX8_reach_30 : decode cX8_reach 30 = .ok (.iload 4, 2) := by decide +kernel
theorem dX8_reach_32 : decode cX8_reach 32 = .ok (.aload_n 0, 1) := by decide +kernel
theorem dX8_reach_33 : decode cX8_reach 33 = .ok (.bipush 12, 2) := by decide +kernel
theorem dX8_reach_35 : decode cX8_reach 35 = .ok (.iload_n 1, 1) := by decide +kernel
theorem dX8_reach_36 : decode cX8_reach 36 = .ok (.iadd, 1) := by decide +kernel
theorem dX8_reach_37 : decode cX8_reach 37 = .ok (.iaload, 1) := by decide +kernel
theorem dX8_reach_38 : decode cX8_reach 38 = .ok (.iadd, 1) := by decide +kernel
theorem dX8_reach_39 : decode cX8_reach 39 = .ok (.goto 18, 3) := by decide +kernel
theorem dX8_reach_42 : decode cX8_reach 42 = .ok (.iload 5, 2) := by decide +kernel
theorem dX8_reach_44 : decode cX8_reach 44 = .ok (.iconst 4, 1) := by decide +kernel
theorem dX8_reach_45 : decode cX8_reach 45 = .ok (.if_icmp .ne 10, 3) := by decide +kernel
theorem dX8_reach_48 : decode cX8_reach 48 = .ok (.iload 4, 2) := by decide +kernel
theorem dX8_reach_50 : decode cX8_reach 50 = .ok (.iconst 2, 1) := by decide +kernel
theorem dX8_reach_51 : decode cX8_reach 51 = .ok (.idiv, 1) := by decide +kernel
theorem dX8_reach_52 : decode cX8_reach 52 = .ok (.goto 5, 3) := by decide +kernel
theorem dX8_reach_55 : decode cX8_reach 55 = .ok (.iload 4, 2) := by decide +kernel
theorem dX8_reach_57 : decode cX8_reach 57 = .ok (.ireturn, 1) := by decide +kernel
theorem dX8_counts_0 : decode cX8_counts 0 = .ok (.aload_n 0, 1) := by decide +kernel
theorem dX8_counts_1 : decode cX8_counts 1 = .ok (.iload_n 1, 1) := by decide +kernel
theorem dX8_counts_2 : decode cX8_counts 2 = .ok (.iload_n 2, 1) := by decide +kernel
theorem dX8_counts_3 : decode cX8_counts 3 = .ok (.invokestatic 55, 3) := by decide +kernel
theorem dX8_counts_6 : decode cX8_counts 6 = .ok (.iaload, 1) := by decide +kernel
theorem dX8_counts_7 : decode cX8_counts 7 = .ok (.istore_n 3, 1) := by decide +kernel
theorem dX8_counts_8 : decode cX8_counts 8 = .ok (.aload_n 0, 1) := by decide +kernel
theorem dX8_counts_9 : decode cX8_counts 9 = .ok (.iconst 4, 1) := by decide +kernel
theorem dX8_counts_10 : decode cX8_counts 10 = .ok (.iload_n 1, 1) := by decide +kernel
theorem dX8_counts_11 : decode cX8_counts 11 = .ok (.iadd, 1) := by decide +kernel
theorem dX8_counts_12 : decode cX8_counts 12 = .ok (.iaload, 1) := by decide +kernel
theorem dX8_counts_13 : decode cX8_counts 13 = .ok (.istore 4, 2) := by decide +kernel
theorem dX8_counts_15 : decode cX8_counts 15 = .ok (.iload 4, 2) := by decide +kernel
theorem dX8_counts_17 : decode cX8_counts 17 = .ok (.iconst 5, 1) := by decide +kernel
theorem dX8_counts_18 : decode cX8_counts 18 = .ok (.if_icmp .ne 8, 3) := by decide +kernel
theorem dX8_counts_21 : decode cX8_counts 21 = .ok (.iload_n 3, 1) := by decide +kernel
theorem dX8_counts_22 : decode cX8_counts 22 = .ok (.ineg, 1) := by decide +kernel
theorem dX8_counts_23 : decode cX8_counts 23 = .ok (.goto 27, 3) := by decide +kernel
theorem dX8_counts_26 : decode cX8_counts 26 = .ok (.iload 4, 2) := by decide +kernel
theorem dX8_counts_28 : decode cX8_counts 28 = .ok (.iconst 3, 1) := by decide +kernel
theorem dX8_counts_29 : decode cX8_counts 29 = .ok (.if_icmp .ne 20, 3) := by decide +kernel
theorem dX8_counts_32 : decode cX8_counts 32 = .ok (.iload_n 3, 1) := by decide +kernel
theorem dX8_counts_33 : decode cX8_counts 33 = .ok (.aload_n 0, 1) := by decide +kernel
theorem dX8_counts_34 : decode cX8_counts 34 = .ok (.bipush 12, 2) := by decide +kernel
theorem dX8_counts_36 : decode cX8_counts 36 = .ok (.iload_n 1, 1) := by decide +kernel
theorem dX8_counts_37 : decode cX8_counts 37 = .ok (.iadd, 1) := by decide +kernel
theorem dX8_counts_38 : decode cX8_counts 38 = .ok (.iaload, 1) := by decide +kernel
theorem dX8_counts_39 : decode cX8_counts 39 = .ok (.aload_n 0, 1) := by decide +kernel
theorem dX8_counts_40 : decode cX8_counts 40 = .ok (.iconst 1, 1) := by decide +kernel
theorem dX8_counts_41 : decode cX8_counts 41 = .ok (.iaload, 1) := by decide +kernel
theorem dX8_counts_42 : decode cX8_counts 42 = .ok (.iload_n 2, 1) := by decide +kernel
theorem dX8_counts_43 : decode cX8_counts 43 = .ok (.isub, 1) := by decide +kernel
theorem dX8_counts_44 : decode cX8_counts 44 = .ok (.imul, 1) := by decide +kernel
theorem dX8_counts_45 : decode cX8_counts 45 = .ok (.isub, 1) := by decide +kernel
theorem dX8_counts_46 : decode cX8_counts 46 = .ok (.goto 4, 3) := by decide +kernel
theorem dX8_counts_49 : decode cX8_counts 49 = .ok (.iload_n 3, 1) := by decide +kernel
theorem dX8_counts_50 : decode cX8_counts 50 = .ok (.ireturn, 1) := by decide +kernel
theorem dX8_yearBy_0 : decode cX8_yearBy 0 = .ok (.aload_n 0, 1) := by decide +kernel
theorem dX8_yearBy_1 : decode cX8_yearBy 1 = .ok (.iconst 4, 1) := by decide +kernel
theorem dX8_yearBy_2 : decode cX8_yearBy 2 = .ok (.iload_n 1, 1) := by decide +kernel
theorem dX8_yearBy_3 : decode cX8_yearBy 3 = .ok (.iadd, 1) := by decide +kernel
theorem dX8_yearBy_4 : decode cX8_yearBy 4 = .ok (.iaload, 1) := by decide +kernel
theorem dX8_yearBy_5 : decode cX8_yearBy 5 = .ok (.iconst 1, 1) := by decide +kernel
theorem dX8_yearBy_6 : decode cX8_yearBy 6 = .ok (.if_icmp .eq 12, 3) := by decide +kernel
theorem dX8_yearBy_9 : decode cX8_yearBy 9 = .ok (.aload_n 0, 1) := by decide +kernel
theorem dX8_yearBy_10 : decode cX8_yearBy 10 = .ok (.iconst 4, 1) := by decide +kernel
theorem dX8_yearBy_11 : decode cX8_yearBy 11 = .ok (.iload_n 1, 1) := by decide +kernel
theorem dX8_yearBy_12 : decode cX8_yearBy 12 = .ok (.iadd, 1) := by decide +kernel
theorem dX8_yearBy_13 : decode cX8_yearBy 13 = .ok (.iaload, 1) := by decide +kernel
theorem dX8_yearBy_14 : decode cX8_yearBy 14 = .ok (.iconst 3, 1) := by decide +kernel
theorem dX8_yearBy_15 : decode cX8_yearBy 15 = .ok (.if_icmp .ne 7, 3) := by decide +kernel
theorem dX8_yearBy_18 : decode cX8_yearBy 18 = .ok (.iconst 1, 1) := by decide +kernel
theorem dX8_yearBy_19 : decode cX8_yearBy 19 = .ok (.goto 4, 3) := by decide +kernel
theorem dX8_yearBy_22 : decode cX8_yearBy 22 = .ok (.iconst 0, 1) := by decide +kernel
theorem dX8_yearBy_23 : decode cX8_yearBy 23 = .ok (.istore_n 3, 1) := by decide +kernel
theorem dX8_yearBy_24 : decode cX8_yearBy 24 = .ok (.aload_n 0, 1) := by decide +kernel
theorem dX8_yearBy_25 : decode cX8_yearBy 25 = .ok (.iconst 1, 1) := by decide +kernel
theorem dX8_yearBy_26 : decode cX8_yearBy 26 = .ok (.iaload, 1) := by decide +kernel
theorem dX8_yearBy_27 : decode cX8_yearBy 27 = .ok (.istore 4, 2) := by decide +kernel
theorem dX8_yearBy_29 : decode cX8_yearBy 29 = .ok (.aload_n 0, 1) := by decide +kernel
theorem dX8_yearBy_30 : decode cX8_yearBy 30 = .ok (.iconst 1, 1) := by decide +kernel
theorem dX8_yearBy_31 : decode cX8_yearBy 31 = .ok (.iaload, 1) := by decide +kernel
theorem dX8_yearBy_32 : decode cX8_yearBy 32 = .ok (.iconst 1, 1) := by decide +kernel
theorem dX8_yearBy_33 : decode cX8_yearBy 33 = .ok (.isub, 1) := by decide +kernel
theorem dX8_yearBy_34 : decode cX8_yearBy 34 = .ok (.istore 5, 2) := by decide +kernel
theorem dX8_yearBy_36 : decode cX8_yearBy 36 = .ok (.iload 5, 2) := by decide +kernel
theorem dX8_yearBy_38 : decode cX8_yearBy 38 = .ok (.ifCond .lt 54, 3) := by decide +kernel
theorem dX8_yearBy_41 : decode cX8_yearBy 41 = .ok (.iload 5, 2) := by decide +kernel
theorem dX8_yearBy_43 : decode cX8_yearBy 43 = .ok (.aload_n 0, 1) := by decide +kernel
theorem dX8_yearBy_44 : decode cX8_yearBy 44 = .ok (.iconst 1, 1) := by decide +kernel
theorem dX8_yearBy_45 : decode cX8_yearBy 45 = .ok (.iaload, 1) := by decide +kernel
theorem dX8_yearBy_46 : decode cX8_yearBy 46 = .ok (.iload_n 2, 1) := by decide +kernel
theorem dX8_yearBy_47 : decode cX8_yearBy 47 = .ok (.isub, 1) := by decide +kernel
theorem dX8_yearBy_48 : decode cX8_yearBy 48 = .ok (.if_icmp .lt 44, 3) := by decide +kernel
theorem dX8_yearBy_51 : decode cX8_yearBy 51 = .ok (.aload_n 0, 1) := by decide +kernel
theorem dX8_yearBy_52 : decode cX8_yearBy 52 = .ok (.iload_n 1, 1) := by decide +kernel
theorem dX8_yearBy_53 : decode cX8_yearBy 53 = .ok (.iload 5, 2) := by decide +kernel
theorem dX8_yearBy_55 : decode cX8_yearBy 55 = .ok (.invokestatic 58, 3) := by decide +kernel
theorem dX8_yearBy_58 : decode cX8_yearBy 58 = .ok (.aload_n 0, 1) := by decide +kernel
theorem dX8_yearBy_59 : decode cX8_yearBy 59 = .ok (.iload_n 1, 1) := by decide +kernel
theorem dX8_yearBy_60 : decode cX8_yearBy 60 = .ok (.iload 4, 2) := by decide +kernel
theorem dX8_yearBy_62 : decode cX8_yearBy 62 = .ok (.invokestatic 58, 3) := by decide +kernel
theorem dX8_yearBy_65 : decode cX8_yearBy 65 = .ok (.isub, 1) := by decide +kernel
theorem dX8_yearBy_66 : decode cX8_yearBy 66 = .ok (.istore 6, 2) := by decide +kernel
theorem dX8_yearBy_68 : decode cX8_yearBy 68 = .ok (.iload 6, 2) := by decide +kernel
theorem dX8_yearBy_70 : decode cX8_yearBy 70 = .ok (.ifCond .gt 12, 3) := by decide +kernel
theorem dX8_yearBy_73 : decode cX8_yearBy 73 = .ok (.iload 6, 2) := by decide +kernel
theorem dX8_yearBy_75 : decode cX8_yearBy 75 = .ok (.ifCond .ne 11, 3) := by decide +kernel
theorem dX8_yearBy_78 : decode cX8_yearBy 78 = .ok (.iload_n 3, 1) := by decide +kernel
theorem dX8_yearBy_79 : decode cX8_yearBy 79 = .ok (.ifCond .eq 7, 3) := by decide +kernel
theorem dX8_yearBy_82 : decode cX8_yearBy 82 = .ok (.iload 5, 2) := by decide +kernel
theorem dX8_yearBy_84 : decode cX8_yearBy 84 = .ok (.istore 4, 2) := by decide +kernel
theorem dX8_yearBy_86 : decode cX8_yearBy 86 = .ok (.iinc 5 (-1), 3) := by decide +kernel
theorem dX8_yearBy_89 : decode cX8_yearBy 89 = .ok (.goto (-53), 3) := by decide +kernel
theorem dX8_yearBy_92 : decode cX8_yearBy 92 = .ok (.iload 4, 2) := by decide +kernel
theorem dX8_yearBy_94 : decode cX8_yearBy 94 = .ok (.ireturn, 1) := by decide +kernel
theorem dX8_yearOf_0 : decode cX8_yearOf 0 = .ok (.aload_n 0, 1) := by decide +kernel
theorem dX8_yearOf_1 : decode cX8_yearOf 1 = .ok (.iload_n 1, 1) := by decide +kernel
theorem dX8_yearOf_2 : decode cX8_yearOf 2 = .ok (.aload_n 0, 1) := by decide +kernel
theorem dX8_yearOf_3 : decode cX8_yearOf 3 = .ok (.iload_n 1, 1) := by decide +kernel
theorem dX8_yearOf_4 : decode cX8_yearOf 4 = .ok (.iload_n 2, 1) := by decide +kernel
theorem dX8_yearOf_5 : decode cX8_yearOf 5 = .ok (.iload_n 3, 1) := by decide +kernel
theorem dX8_yearOf_6 : decode cX8_yearOf 6 = .ok (.invokestatic 62, 3) := by decide +kernel
theorem dX8_yearOf_9 : decode cX8_yearOf 9 = .ok (.invokestatic 66, 3) := by decide +kernel
theorem dX8_yearOf_12 : decode cX8_yearOf 12 = .ok (.ireturn, 1) := by decide +kernel
theorem dX8_gladOf_0 : decode cX8_gladOf 0 = .ok (.aload_n 0, 1) := by decide +kernel
theorem dX8_gladOf_1 : decode cX8_gladOf 1 = .ok (.iload_n 1, 1) := by decide +kernel
theorem dX8_gladOf_2 : decode cX8_gladOf 2 = .ok (.aload_n 0, 1) := by decide +kernel
theorem dX8_gladOf_3 : decode cX8_gladOf 3 = .ok (.bipush 20, 2) := by decide +kernel
theorem dX8_gladOf_5 : decode cX8_gladOf 5 = .ok (.iload_n 1, 1) := by decide +kernel
theorem dX8_gladOf_6 : decode cX8_gladOf 6 = .ok (.iadd, 1) := by decide +kernel
theorem dX8_gladOf_7 : decode cX8_gladOf 7 = .ok (.iaload, 1) := by decide +kernel
theorem dX8_gladOf_8 : decode cX8_gladOf 8 = .ok (.ifCond .ge 9, 3) := by decide +kernel
theorem dX8_gladOf_11 : decode cX8_gladOf 11 = .ok (.aload_n 0, 1) := by decide +kernel
theorem dX8_gladOf_12 : decode cX8_gladOf 12 = .ok (.iconst 1, 1) := by decide +kernel
theorem dX8_gladOf_13 : decode cX8_gladOf 13 = .ok (.iaload, 1) := by decide +kernel
theorem dX8_gladOf_14 : decode cX8_gladOf 14 = .ok (.goto 9, 3) := by decide +kernel
theorem dX8_gladOf_17 : decode cX8_gladOf 17 = .ok (.aload_n 0, 1) := by decide +kernel
theorem dX8_gladOf_18 : decode cX8_gladOf 18 = .ok (.bipush 20, 2) := by decide +kernel
theorem dX8_gladOf_20 : decode cX8_gladOf 20 = .ok (.iload_n 1, 1) := by decide +kernel
theorem dX8_gladOf_21 : decode cX8_gladOf 21 = .ok (.iadd, 1) := by decide +kernel
theorem dX8_gladOf_22 : decode cX8_gladOf 22 = .ok (.iaload, 1) := by decide +kernel
theorem dX8_gladOf_23 : decode cX8_gladOf 23 = .ok (.invokestatic 55, 3) := by decide +kernel
theorem dX8_gladOf_26 : decode cX8_gladOf 26 = .ok (.iaload, 1) := by decide +kernel
theorem dX8_gladOf_27 : decode cX8_gladOf 27 = .ok (.ireturn, 1) := by decide +kernel
theorem dX8_gladAll_0 : decode cX8_gladAll 0 = .ok (.iconst 0, 1) := by decide +kernel
theorem dX8_gladAll_1 : decode cX8_gladAll 1 = .ok (.istore_n 1, 1) := by decide +kernel
theorem dX8_gladAll_2 : decode cX8_gladAll 2 = .ok (.iconst 0, 1) := by decide +kernel
theorem dX8_gladAll_3 : decode cX8_gladAll 3 = .ok (.istore_n 2, 1) := by decide +kernel
theorem dX8_gladAll_4 : decode cX8_gladAll 4 = .ok (.iload_n 2, 1) := by decide +kernel
theorem dX8_gladAll_5 : decode cX8_gladAll 5 = .ok (.aload_n 0, 1) := by decide +kernel
theorem dX8_gladAll_6 : decode cX8_gladAll 6 = .ok (.iconst 0, 1) := by decide +kernel
theorem dX8_gladAll_7 : decode cX8_gladAll 7 = .ok (.iaload, 1) := by decide +kernel
theorem dX8_gladAll_8 : decode cX8_gladAll 8 = .ok (.if_icmp .ge 17, 3) := by decide +kernel
theorem dX8_gladAll_11 : decode cX8_gladAll 11 = .ok (.iload_n 1, 1) := by decide +kernel
theorem dX8_gladAll_12 : decode cX8_gladAll 12 = .ok (.aload_n 0, 1) := by decide +kernel
theorem dX8_gladAll_13 : decode cX8_gladAll 13 = .ok (.iload_n 2, 1) := by decide +kernel
theorem dX8_gladAll_14 : decode cX8_gladAll 14 = .ok (.invokestatic 69, 3) := by decide +kernel
theorem dX8_gladAll_17 : decode cX8_gladAll 17 = .ok (.iadd, 1) := by decide +kernel
theorem dX8_gladAll_18 : decode cX8_gladAll 18 = .ok (.istore_n 1, 1) := by decide +kernel
theorem dX8_gladAll_19 : decode cX8_gladAll 19 = .ok (.iinc 2 1, 3) := by decide +kernel
theorem dX8_gladAll_22 : decode cX8_gladAll 22 = .ok (.goto (-18), 3) := by decide +kernel
theorem dX8_gladAll_25 : decode cX8_gladAll 25 = .ok (.iload_n 1, 1) := by decide +kernel
theorem dX8_gladAll_26 : decode cX8_gladAll 26 = .ok (.ireturn, 1) := by decide +kernel
theorem dX8_fewestOf_0 : decode cX8_fewestOf 0 = .ok (.iconst 0, 1) := by decide +kernel
theorem dX8_fewestOf_1 : decode cX8_fewestOf 1 = .ok (.istore_n 3, 1) := by decide +kernel
theorem dX8_fewestOf_2 : decode cX8_fewestOf 2 = .ok (.iload_n 3, 1) := by decide +kernel
theorem dX8_fewestOf_3 : decode cX8_fewestOf 3 = .ok (.bipush 99, 2) := by decide +kernel
theorem dX8_fewestOf_5 : decode cX8_fewestOf 5 = .ok (.if_icmp .gt 22, 3) := by decide +kernel
theorem dX8_fewestOf_8 : decode cX8_fewestOf 8 = .ok (.aload_n 0, 1) := by decide +kernel
theorem dX8_fewestOf_9 : decode cX8_fewestOf 9 = .ok (.iload_n 1, 1) := by decide +kernel
theorem dX8_fewestOf_10 : decode cX8_fewestOf 10 = .ok (.iload_n 3, 1) := by decide +kernel
theorem dX8_fewestOf_11 : decode cX8_fewestOf 11 = .ok (.iconst 0, 1) := by decide +kernel
theorem dX8_fewestOf_12 : decode cX8_fewestOf 12 = .ok (.invokestatic 73, 3) := by decide +kernel
theorem dX8_fewestOf_15 : decode cX8_fewestOf 15 = .ok (.iload_n 2, 1) := by decide +kernel
theorem dX8_fewestOf_16 : decode cX8_fewestOf 16 = .ok (.if_icmp .ne 5, 3) := by decide +kernel
theorem dX8_fewestOf_19 : decode cX8_fewestOf 19 = .ok (.iload_n 3, 1) := by decide +kernel
theorem dX8_fewestOf_20 : decode cX8_fewestOf 20 = .ok (.ireturn, 1) := by decide +kernel
theorem dX8_fewestOf_21 : decode cX8_fewestOf 21 = .ok (.iinc 3 1, 3) := by decide +kernel
theorem dX8_fewestOf_24 : decode cX8_fewestOf 24 = .ok (.goto (-22), 3) := by decide +kernel
theorem dX8_fewestOf_27 : decode cX8_fewestOf 27 = .ok (.bipush (-9), 2) := by decide +kernel
theorem dX8_fewestOf_29 : decode cX8_fewestOf 29 = .ok (.ireturn, 1) := by decide +kernel
theorem dX8_letter_0 : decode cX8_letter 0 = .ok (.iload_n 1, 1) := by decide +kernel
theorem dX8_letter_1 : decode cX8_letter 1 = .ok (.ifCond .ge 10, 3) := by decide +kernel
theorem dX8_letter_4 : decode cX8_letter 4 = .ok (.aload_n 0, 1) := by decide +kernel
theorem dX8_letter_5 : decode cX8_letter 5 = .ok (.bipush (-4), 2) := by decide +kernel
theorem dX8_letter_7 : decode cX8_letter 7 = .ok (.invokevirtual 41, 3) := by decide +kernel
theorem dX8_letter_10 : decode cX8_letter 10 = .ok (.ireturn, 1) := by decide +kernel
theorem dX8_letter_11 : decode cX8_letter 11 = .ok (.iload_n 1, 1) := by decide +kernel
theorem dX8_letter_12 : decode cX8_letter 12 = .ok (.sipush 255, 3) := by decide +kernel
theorem dX8_letter_15 : decode cX8_letter 15 = .ok (.if_icmp .gt 12, 3) := by decide +kernel
theorem dX8_letter_18 : decode cX8_letter 18 = .ok (.aload_n 0, 1) := by decide +kernel
theorem dX8_letter_19 : decode cX8_letter 19 = .ok (.getfield 76, 3) := by decide +kernel
theorem dX8_letter_22 : decode cX8_letter 22 = .ok (.bipush 96, 2) := by decide +kernel
theorem dX8_letter_24 : decode cX8_letter 24 = .ok (.if_icmp .ne 10, 3) := by decide +kernel
theorem dX8_letter_27 : decode cX8_letter 27 = .ok (.aload_n 0, 1) := by decide +kernel
theorem dX8_letter_28 : decode cX8_letter 28 = .ok (.bipush (-6), 2) := by decide +kernel
theorem dX8_letter_30 : decode cX8_letter 30 = .ok (.invokevirtual 41, 3) := by decide +kernel
theorem dX8_letter_33 : decode cX8_letter 33 = .ok (.ireturn, 1) := by decide +kernel
theorem dX8_letter_34 : decode cX8_letter 34 = .ok (.aload_n 0, 1) := by decide +kernel
theorem dX8_letter_35 : decode cX8_letter 35 = .ok (.getfield 22, 3) := by decide +kernel
theorem dX8_letter_38 : decode cX8_letter 38 = .ok (.aload_n 0, 1) := by decide +kernel
theorem dX8_letter_39 : decode cX8_letter 39 = .ok (.getfield 76, 3) := by decide +kernel
theorem dX8_letter_42 : decode cX8_letter 42 = .ok (.iload_n 1, 1) := by decide +kernel
theorem dX8_letter_43 : decode cX8_letter 43 = .ok (.iastore, 1) := by decide +kernel
theorem dX8_letter_44 : decode cX8_letter 44 = .ok (.aload_n 0, 1) := by decide +kernel
theorem dX8_letter_45 : decode cX8_letter 45 = .ok (.dup, 1) := by decide +kernel
theorem dX8_letter_46 : decode cX8_letter 46 = .ok (.getfield 76, 3) := by decide +kernel
theorem dX8_letter_49 : decode cX8_letter 49 = .ok (.iconst 1, 1) := by decide +kernel
theorem dX8_letter_50 : decode cX8_letter 50 = .ok (.iadd, 1) := by decide +kernel
theorem dX8_letter_51 : decode cX8_letter 51 = .ok (.putfield 76, 3) := by decide +kernel
theorem dX8_letter_54 : decode cX8_letter 54 = .ok (.aload_n 0, 1) := by decide +kernel
theorem dX8_letter_55 : decode cX8_letter 55 = .ok (.getfield 76, 3) := by decide +kernel
theorem dX8_letter_58 : decode cX8_letter 58 = .ok (.ireturn, 1) := by decide +kernel
theorem dX8_here_0 : decode cX8_here 0 = .ok (.aload_n 0, 1) := by decide +kernel
theorem dX8_here_1 : decode cX8_here 1 = .ok (.getfield 80, 3) := by decide +kernel
theorem dX8_here_4 : decode cX8_here 4 = .ok (.aload_n 0, 1) := by decide +kernel
theorem dX8_here_5 : decode cX8_here 5 = .ok (.getfield 76, 3) := by decide +kernel
theorem dX8_here_8 : decode cX8_here 8 = .ok (.if_icmp .ge 15, 3) := by decide +kernel
theorem dX8_here_11 : decode cX8_here 11 = .ok (.aload_n 0, 1) := by decide +kernel
theorem dX8_here_12 : decode cX8_here 12 = .ok (.getfield 22, 3) := by decide +kernel
theorem dX8_here_15 : decode cX8_here 15 = .ok (.aload_n 0, 1) := by decide +kernel
theorem dX8_here_16 : decode cX8_here 16 = .ok (.getfield 80, 3) := by decide +kernel
theorem dX8_here_19 : decode cX8_here 19 = .ok (.iaload, 1) := by decide +kernel
theorem dX8_here_20 : decode cX8_here 20 = .ok (.goto 4, 3) := by decide +kernel
theorem dX8_here_23 : decode cX8_here 23 = .ok (.iconst (-1), 1) := by decide +kernel
theorem dX8_here_24 : decode cX8_here 24 = .ok (.ireturn, 1) := by decide +kernel
theorem dX8_readsNumber_0 : decode cX8_readsNumber 0 = .ok (.aload_n 0, 1) := by decide +kernel
theorem dX8_readsNumber_1 : decode cX8_readsNumber 1 = .ok (.getfield 31, 3) := by decide +kernel
theorem dX8_readsNumber_4 : decode cX8_readsNumber 4 = .ok (.iload_n 1, 1) := by decide +kernel
theorem dX8_readsNumber_5 : decode cX8_readsNumber 5 = .ok (.iconst 0, 1) := by decide +kernel
theorem dX8_readsNumber_6 : decode cX8_readsNumber 6 = .ok (.iastore, 1) := by decide +kernel
theorem dX8_readsNumber_7 : decode cX8_readsNumber 7 = .ok (.iconst 0, 1) := by decide +kernel
theorem dX8_readsNumber_8 : decode cX8_readsNumber 8 = .ok (.istore_n 3, 1) := by decide +kernel
theorem dX8_readsNumber_9 : decode cX8_readsNumber 9 = .ok (.iload_n 3, 1) := by decide +kernel
theorem dX8_readsNumber_10 : decode cX8_readsNumber 10 = .ok (.iload_n 2, 1) := by decide +kernel
theorem dX8_readsNumber_11 : decode cX8_readsNumber 11 = .ok (.if_icmp .ge 58, 3) := by decide +kernel
theorem dX8_readsNumber_14 : decode cX8_readsNumber 14 = .ok (.aload_n 0, 1) := by decide +kernel
theorem dX8_readsNumber_15 : decode cX8_readsNumber 15 = .ok (.invokevirtual 83, 3) := by decide +kernel
theorem dX8_readsNumber_18 : decode cX8_readsNumber 18 = .ok (.bipush 48, 2) := by decide +kernel
theorem dX8_readsNumber_20 : decode cX8_readsNumber 20 = .ok (.bipush 57, 2) := by decide +kernel
theorem dX8_readsNumber_22 : decode cX8_readsNumber 22 = .ok (.invokestatic 47, 3) := by decide +kernel
theorem dX8_readsNumber_25 : decode cX8_readsNumber 25 = .ok (.ifCond .ne 5, 3) := by decide +kernel
theorem dX8_readsNumber_28 : decode cX8_readsNumber 28 = .ok (.iconst 0, 1) := by decide +kernel
theorem dX8_readsNumber_29 : decode cX8_readsNumber 29 = .ok (.ireturn, 1) := by decide +kernel
theorem dX8_readsNumber_30 : decode cX8_readsNumber 30 = .ok (.aload_n 0, 1) := by decide +kernel
theorem dX8_readsNumber_31 : decode cX8_readsNumber 31 = .ok (.getfield 31, 3) := by decide +kernel
theorem dX8_readsNumber_34 : decode cX8_readsNumber 34 = .ok (.iload_n 1, 1) := by decide +kernel
theorem dX8_readsNumber_35 : decode cX8_readsNumber 35 = .ok (.bipush 10, 2) := by decide +kernel
theorem dX8_readsNumber_37 : decode cX8_readsNumber 37 = .ok (.aload_n 0, 1) := by decide +kernel
theorem dX8_readsNumber_38 : decode cX8_readsNumber 38 = .ok (.getfield 31, 3) := by decide +kernel
theorem dX8_readsNumber_41 : decode cX8_readsNumber 41 = .ok (.iload_n 1, 1) := by decide +kernel
theorem dX8_readsNumber_42 : decode cX8_readsNumber 42 = .ok (.iaload, 1) := by decide +kernel
theorem dX8_readsNumber_43 : decode cX8_readsNumber 43 = .ok (.imul, 1) := by decide +kernel
theorem dX8_readsNumber_44 : decode cX8_readsNumber 44 = .ok (.aload_n 0, 1) := by decide +kernel
theorem dX8_readsNumber_45 : decode cX8_readsNumber 45 = .ok (.invokevirtual 83, 3) := by decide +kernel
theorem dX8_readsNumber_48 : decode cX8_readsNumber 48 = .ok (.iadd, 1) := by decide +kernel
theorem dX8_readsNumber_49 : decode cX8_readsNumber 49 = .ok (.bipush 48, 2) := by decide +kernel
theorem dX8_readsNumber_51 : decode cX8_readsNumber 51 = .ok (.isub, 1) := by decide +kernel
theorem dX8_readsNumber_52 : decode cX8_readsNumber 52 = .ok (.iastore, 1) := by decide +kernel
theorem dX8_readsNumber_53 : decode cX8_readsNumber 53 = .ok (.aload_n 0, 1) := by decide +kernel
theorem dX8_readsNumber_54 : decode cX8_readsNumber 54 = .ok (.dup, 1) := by decide +kernel
theorem dX8_readsNumber_55 : decode cX8_readsNumber 55 = .ok (.getfield 80, 3) := by decide +kernel
theorem dX8_readsNumber_58 : decode cX8_readsNumber 58 = .ok (.iconst 1, 1) := by decide +kernel
theorem dX8_readsNumber_59 : decode cX8_readsNumber 59 = .ok (.iadd, 1) := by decide +kernel
theorem dX8_readsNumber_60 : decode cX8_readsNumber 60 = .ok (.putfield 80, 3) := by decide +kernel
theorem dX8_readsNumber_63 : decode cX8_readsNumber 63 = .ok (.iinc 3 1, 3) := by decide +kernel
theorem dX8_readsNumber_66 : decode cX8_readsNumber 66 = .ok (.goto (-57), 3) := by decide +kernel
theorem dX8_readsNumber_69 : decode cX8_readsNumber 69 = .ok (.iconst 1, 1) := by decide +kernel
theorem dX8_readsNumber_70 : decode cX8_readsNumber 70 = .ok (.ireturn, 1) := by decide +kernel
theorem dX8_kindBy_0 : decode cX8_kindBy 0 = .ok (.iload_n 0, 1) := by decide +kernel
theorem dX8_kindBy_1 : decode cX8_kindBy 1 = .ok (.lookupswitch 71 #[(99, 61), (100, 63), (102, 67), (112, 65), (116, 59), (119, 69)], 59) := by decide +kernel
theorem dX8_kindBy_60 : decode cX8_kindBy 60 = .ok (.iconst 0, 1) := by decide +kernel
theorem dX8_kindBy_61 : decode cX8_kindBy 61 = .ok (.ireturn, 1) := by decide +kernel
theorem dX8_kindBy_62 : decode cX8_kindBy 62 = .ok (.iconst 1, 1) := by decide +kernel
theorem dX8_kindBy_63 : decode cX8_kindBy 63 = .ok (.ireturn, 1) := by decide +kernel
theorem dX8_kindBy_64 : decode cX8_kindBy 64 = .ok (.iconst 2, 1) := by decide +kernel
theorem dX8_kindBy_65 : decode cX8_kindBy 65 = .ok (.ireturn, 1) := by decide +kernel
theorem dX8_kindBy_66 : decode cX8_kindBy 66 = .ok (.iconst 3, 1) := by decide +kernel
theorem dX8_kindBy_67 : decode cX8_kindBy 67 = .ok (.ireturn, 1) := by decide +kernel
theorem dX8_kindBy_68 : decode cX8_kindBy 68 = .ok (.iconst 4, 1) := by decide +kernel
theorem dX8_kindBy_69 : decode cX8_kindBy 69 = .ok (.ireturn, 1) := by decide +kernel
theorem dX8_kindBy_70 : decode cX8_kindBy 70 = .ok (.iconst 5, 1) := by decide +kernel
theorem dX8_kindBy_71 : decode cX8_kindBy 71 = .ok (.ireturn, 1) := by decide +kernel
theorem dX8_kindBy_72 : decode cX8_kindBy 72 = .ok (.bipush (-9), 2) := by decide +kernel
theorem dX8_kindBy_74 : decode cX8_kindBy 74 = .ok (.ireturn, 1) := by decide +kernel
theorem dX8_readsKind_0 : decode cX8_readsKind 0 = .ok (.aload_n 0, 1) := by decide +kernel
theorem dX8_readsKind_1 : decode cX8_readsKind 1 = .ok (.getfield 31, 3) := by decide +kernel
theorem dX8_readsKind_4 : decode cX8_readsKind 4 = .ok (.iconst 0, 1) := by decide +kernel
theorem dX8_readsKind_5 : decode cX8_readsKind 5 = .ok (.aload_n 0, 1) := by decide +kernel
theorem dX8_readsKind_6 : decode cX8_readsKind 6 = .ok (.invokevirtual 83, 3) := by decide +kernel
theorem dX8_readsKind_9 : decode cX8_readsKind 9 = .ok (.invokestatic 87, 3) := by decide +kernel
theorem dX8_readsKind_12 : decode cX8_readsKind 12 = .ok (.iastore, 1) := by decide +kernel
theorem dX8_readsKind_13 : decode cX8_readsKind 13 = .ok (.aload_n 0, 1) := by decide +kernel
theorem dX8_readsKind_14 : decode cX8_readsKind 14 = .ok (.dup, 1) := by decide +kernel
theorem dX8_readsKind_15 : decode cX8_readsKind 15 = .ok (.getfield 80, 3) := by decide +kernel
theorem dX8_readsKind_18 : decode cX8_readsKind 18 = .ok (.aload_n 0, 1) := by decide +kernel
theorem dX8_readsKind_19 : decode cX8_readsKind 19 = .ok (.getfield 31, 3) := by decide +kernel
theorem dX8_readsKind_22 : decode cX8_readsKind 22 = .ok (.iconst 0, 1) := by decide +kernel
theorem dX8_readsKind_23 : decode cX8_readsKind 23 = .ok (.iaload, 1) := by decide +kernel
theorem dX8_readsKind_24 : decode cX8_readsKind 24 = .ok (.ifCond .ge 7, 3) := by decide +kernel
theorem dX8_readsKind_27 : decode cX8_readsKind 27 = .ok (.iconst 0, 1) := by decide +kernel
theorem dX8_readsKind_28 : decode cX8_readsKind 28 = .ok (.goto 4, 3) := by decide +kernel
theorem dX8_readsKind_31 : decode cX8_readsKind 31 = .ok (.iconst 1, 1) := by decide +kernel
theorem dX8_readsKind_32 : decode cX8_readsKind 32 = .ok (.iadd, 1) := by decide +kernel
theorem dX8_readsKind_33 : decode cX8_readsKind 33 = .ok (.putfield 80, 3) := by decide +kernel
theorem dX8_readsKind_36 : decode cX8_readsKind 36 = .ok (.aload_n 0, 1) := by decide +kernel
theorem dX8_readsKind_37 : decode cX8_readsKind 37 = .ok (.getfield 31, 3) := by decide +kernel
theorem dX8_readsKind_40 : decode cX8_readsKind 40 = .ok (.iconst 0, 1) := by decide +kernel
theorem dX8_readsKind_41 : decode cX8_readsKind 41 = .ok (.iaload, 1) := by decide +kernel
theorem dX8_readsKind_42 : decode cX8_readsKind 42 = .ok (.ifCond .lt 7, 3) := by decide +kernel
theorem dX8_readsKind_45 : decode cX8_readsKind 45 = .ok (.iconst 1, 1) := by decide +kernel
theorem dX8_readsKind_46 : decode cX8_readsKind 46 = .ok (.goto 4, 3) := by decide +kernel
theorem dX8_readsKind_49 : decode cX8_readsKind 49 = .ok (.iconst 0, 1) := by decide +kernel
theorem dX8_readsKind_50 : decode cX8_readsKind 50 = .ok (.ireturn, 1) := by decide +kernel
theorem dX8_readsStatement_0 : decode cX8_readsStatement 0 = .ok (.aload_n 0, 1) := by decide +kernel
theorem dX8_readsStatement_1 : decode cX8_readsStatement 1 = .ok (.invokevirtual 83, 3) := by decide +kernel
theorem dX8_readsStatement_4 : decode cX8_readsStatement 4 = .ok (.istore_n 1, 1) := by decide +kernel
theorem dX8_readsStatement_5 : decode cX8_readsStatement 5 = .ok (.aload_n 0, 1) := by decide +kernel
theorem dX8_readsStatement_6 : decode cX8_readsStatement 6 = .ok (.dup, 1) := by decide +kernel
theorem dX8_readsStatement_7 : decode cX8_readsStatement 7 = .ok (.getfield 80, 3) := by decide +kernel
theorem dX8_readsStatement_10 : decode cX8_readsStatement 10 = .ok (.iconst 1, 1) := by decide +kernel
theorem dX8_readsStatement_11 : decode cX8_readsStatement 11 = .ok (.iadd, 1) := by decide +kernel
theorem dX8_readsStatement_12 : decode cX8_readsStatement 12 = .ok (.putfield 80, 3) := by decide +kernel
theorem dX8_readsStatement_15 : decode cX8_readsStatement 15 = .ok (.iload_n 1, 1) := by decide +kernel
theorem dX8_readsStatement_16 : decode cX8_readsStatement 16 = .ok (.tableswitch 295 100 121 #[222, 295, 295, 129, 232, 295, 295, 295, 295, 295, 295, 295, 295, 295, 295, 259, 104, 295, 177, 295, 295, 222], 104) := by decide +kernel
theorem dX8_readsStatement_120 : decode cX8_readsStatement 120 = .ok (.aload_n 0, 1) := by decide +kernel
theorem dX8_readsStatement_121 : decode cX8_readsStatement 121 = .ok (.invokevirtual 90, 3) := by decide +kernel
theorem dX8_readsStatement_124 : decode cX8_readsStatement 124 = .ok (.ifCond .eq 16, 3) := by decide +kernel
theorem dX8_readsStatement_127 : decode cX8_readsStatement 127 = .ok (.aload_n 0, 1) := by decide +kernel
theorem dX8_readsStatement_128 : decode cX8_readsStatement 128 = .ok (.iconst 1, 1) := by decide +kernel
theorem dX8_readsStatement_129 : decode cX8_readsStatement 129 = .ok (.iconst 1, 1) := by decide +kernel
theorem dX8_readsStatement_130 : decode cX8_readsStatement 130 = .ok (.invokevirtual 94, 3) := by decide +kernel
theorem dX8_readsStatement_133 : decode cX8_readsStatement 133 = .ok (.ifCond .eq 7, 3) := by decide +kernel
theorem dX8_readsStatement_136 : decode cX8_readsStatement 136 = .ok (.iconst 1, 1) := by decide +kernel
theorem dX8_readsStatement_137 : decode cX8_readsStatement 137 = .ok (.goto 4, 3) := by decide +kernel
theorem dX8_readsStatement_140 : decode cX8_readsStatement 140 = .ok (.iconst 0, 1) := by decide +kernel
theorem dX8_readsStatement_141 : decode cX8_readsStatement 141 = .ok (.istore_n 2, 1) := by decide +kernel
theorem dX8_readsStatement_142 : decode cX8_readsStatement 142 = .ok (.goto 181, 3) := by decide +kernel
theorem dX8_readsStatement_145 : decode cX8_readsStatement 145 = .ok (.aload_n 0, 1) := by decide +kernel
theorem dX8_readsStatement_146 : decode cX8_readsStatement 146 = .ok (.iconst 0, 1) := by decide +kernel
theorem dX8_readsStatement_147 : decode cX8_readsStatement 147 = .ok (.iconst 1, 1) := by decide +kernel
theorem dX8_readsStatement_148 : decode cX8_readsStatement 148 = .ok (.invokevirtual 94, 3) := by decide +kernel
theorem dX8_readsStatement_151 : decode cX8_readsStatement 151 = .ok (.ifCond .eq 25, 3) := by decide +kernel
theorem dX8_readsStatement_154 : decode cX8_readsStatement 154 = .ok (.aload_n 0, 1) := by decide +kernel
theorem dX8_readsStatement_155 : decode cX8_readsStatement 155 = .ok (.iconst 1, 1) := by decide +kernel
theorem dX8_readsStatement_156 : decode cX8_readsStatement 156 = .ok (.iconst 2, 1) := by decide +kernel
theorem dX8_readsStatement_157 : decode cX8_readsStatement 157 = .ok (.invokevirtual 94, 3) := by decide +kernel
theorem dX8_readsStatement_160 : decode cX8_readsStatement 160 = .ok (.ifCond .eq 16, 3) := by decide +kernel
theorem dX8_readsStatement_163 : decode cX8_readsStatement 163 = .ok (.aload_n 0, 1) := by decide +kernel
theorem dX8_readsStatement_164 : decode cX8_readsStatement 164 = .ok (.iconst 3, 1) := by decide +kernel
theorem dX8_readsStatement_165 : decode cX8_readsStatement 165 = .ok (.iconst 2, 1) := by decide +kernel
theorem dX8_readsStatement_166 : decode cX8_readsStatement 166 = .ok (.invokevirtual 94, 3) := by decide +kernel
theorem dX8_readsStatement_169 : decode cX8_readsStatement 169 = .ok (.ifCond .eq 7, 3) := by decide +kernel
theorem dX8_readsStatement_172 : decode cX8_readsStatement 172 = .ok (.iconst 1, 1) := by decide +kernel
theorem dX8_readsStatement_173 : decode cX8_readsStatement 173 = .ok (.goto 4, 3) := by decide +kernel
theorem dX8_readsStatement_176 : decode cX8_readsStatement 176 = .ok (.iconst 0, 1) := by decide +kernel
theorem dX8_readsStatement_177 : decode cX8_readsStatement 177 = .ok (.istore_n 2, 1) := by decide +kernel
theorem dX8_readsStatement_178 : decode cX8_readsStatement 178 = .ok (.aload_n 0, 1) := by decide +kernel
theorem dX8_readsStatement_179 : decode cX8_readsStatement 179 = .ok (.getfield 31, 3) := by decide +kernel
theorem dX8_readsStatement_182 : decode cX8_readsStatement 182 = .ok (.iconst 2, 1) := by decide +kernel
theorem dX8_readsStatement_183 : decode cX8_readsStatement 183 = .ok (.aload_n 0, 1) := by decide +kernel
theorem dX8_readsStatement_184 : decode cX8_readsStatement 184 = .ok (.getfield 31, 3) := by decide +kernel
theorem dX8_readsStatement_187 : decode cX8_readsStatement 187 = .ok (.iconst 1, 1) := by decide +kernel
theorem dX8_readsStatement_188 : decode cX8_readsStatement 188 = .ok (.iaload, 1) := by decide +kernel
theorem dX8_readsStatement_189 : decode cX8_readsStatement 189 = .ok (.iastore, 1) := by decide +kernel
theorem dX8_readsStatement_190 : decode cX8_readsStatement 190 = .ok (.goto 133, 3) := by decide +kernel
theorem dX8_readsStatement_193 : decode cX8_readsStatement 193 = .ok (.aload_n 0, 1) := by decide +kernel
theorem dX8_readsStatement_194 : decode cX8_readsStatement 194 = .ok (.iconst 0, 1) := by decide +kernel
theorem dX8_readsStatement_195 : decode cX8_readsStatement 195 = .ok (.iconst 1, 1) := by decide +kernel
theorem dX8_readsStatement_196 : decode cX8_readsStatement 196 = .ok (.invokevirtual 94, 3) := by decide +kernel
theorem dX8_readsStatement_199 : decode cX8_readsStatement 199 = .ok (.ifCond .eq 34, 3) := by decide +kernel
theorem dX8_readsStatement_202 : decode cX8_readsStatement 202 = .ok (.aload_n 0, 1) := by decide +kernel
theorem dX8_readsStatement_203 : decode cX8_readsStatement 203 = .ok (.iconst 1, 1) := by decide +kernel
theorem dX8_readsStatement_204 : decode cX8_readsStatement 204 = .ok (.iconst 2, 1) := by decide +kernel
theorem dX8_readsStatement_205 : decode cX8_readsStatement 205 = .ok (.invokevirtual 94, 3) := by decide +kernel
theorem dX8_readsStatement_208 : decode cX8_readsStatement 208 = .ok (.ifCond .eq 25, 3) := by decide +kernel
theorem dX8_readsStatement_211 : decode cX8_readsStatement 211 = .ok (.aload_n 0, 1) := by decide +kernel
theorem dX8_readsStatement_212 : decode cX8_readsStatement 212 = .ok (.iconst 2, 1) := by decide +kernel
theorem dX8_readsStatement_213 : decode cX8_readsStatement 213 = .ok (.iconst 2, 1) := by decide +kernel
theorem dX8_readsStatement_214 : decode cX8_readsStatement 214 = .ok (.invokevirtual 94, 3) := by decide +kernel
theorem dX8_readsStatement_217 : decode cX8_readsStatement 217 = .ok (.ifCond .eq 16, 3) := by decide +kernel
theorem dX8_readsStatement_220 : decode cX8_readsStatement 220 = .ok (.aload_n 0, 1) := by decide +kernel
theorem dX8_readsStatement_221 : decode cX8_readsStatement 221 = .ok (.iconst 3, 1) := by decide +kernel
theorem dX8_readsStatement_222 : decode cX8_readsStatement 222 = .ok (.iconst 2, 1) := by decide +kernel
theorem dX8_readsStatement_223 : decode cX8_readsStatement 223 = .ok (.invokevirtual 94, 3) := by decide +kernel
theorem dX8_readsStatement_226 : decode cX8_readsStatement 226 = .ok (.ifCond .eq 7, 3) := by decide +kernel
theorem dX8_readsStatement_229 : decode cX8_readsStatement 229 = .ok (.iconst 1, 1) := by decide +kernel
theorem dX8_readsStatement_230 : decode cX8_readsStatement 230 = .ok (.goto 4, 3) := by decide +kernel
theorem dX8_readsStatement_233 : decode cX8_readsStatement 233 = .ok (.iconst 0, 1) := by decide +kernel
theorem dX8_readsStatement_234 : decode cX8_readsStatement 234 = .ok (.istore_n 2, 1) := by decide +kernel
theorem dX8_readsStatement_235 : decode cX8_readsStatement 235 = .ok (.goto 88, 3) := by decide +kernel
theorem dX8_readsStatement_238 : decode cX8_readsStatement 238 = .ok (.aload_n 0, 1) := by decide +kernel
theorem dX8_readsStatement_239 : decode cX8_readsStatement 239 = .ok (.iconst 0, 1) := by decide +kernel
theorem dX8_readsStatement_240 : decode cX8_readsStatement 240 = .ok (.iconst 2, 1) := by decide +kernel
theorem dX8_readsStatement_241 : decode cX8_readsStatement 241 = .ok (.invokevirtual 94, 3) := by decide +kernel
theorem dX8_readsStatement_244 : decode cX8_readsStatement 244 = .ok (.istore_n 2, 1) := by decide +kernel
theorem dX8_readsStatement_245 : decode cX8_readsStatement 245 = .ok (.goto 78, 3) := by decide +kernel
theorem dX8_readsStatement_248 : decode cX8_readsStatement 248 = .ok (.aload_n 0, 1) := by decide +kernel
theorem dX8_readsStatement_249 : decode cX8_readsStatement 249 = .ok (.iconst 0, 1) := by decide +kernel
theorem dX8_readsStatement_250 : decode cX8_readsStatement 250 = .ok (.iconst 1, 1) := by decide +kernel
theorem dX8_readsStatement_251 : decode cX8_readsStatement 251 = .ok (.invokevirtual 94, 3) := by decide +kernel
theorem dX8_readsStatement_254 : decode cX8_readsStatement 254 = .ok (.ifCond .eq 16, 3) := by decide +kernel
theorem dX8_readsStatement_257 : decode cX8_readsStatement 257 = .ok (.aload_n 0, 1) := by decide +kernel
theorem dX8_readsStatement_258 : decode cX8_readsStatement 258 = .ok (.iconst 1, 1) := by decide +kernel
theorem dX8_readsStatement_259 : decode cX8_readsStatement 259 = .ok (.iconst 1, 1) := by decide +kernel
theorem dX8_readsStatement_260 : decode cX8_readsStatement 260 = .ok (.invokevirtual 94, 3) := by decide +kernel
theorem dX8_readsStatement_263 : decode cX8_readsStatement 263 = .ok (.ifCond .eq 7, 3) := by decide +kernel
theorem dX8_readsStatement_266 : decode cX8_readsStatement 266 = .ok (.iconst 1, 1) := by decide +kernel
theorem dX8_readsStatement_267 : decode cX8_readsStatement 267 = .ok (.goto 4, 3) := by decide +kernel
theorem dX8_readsStatement_270 : decode cX8_readsStatement 270 = .ok (.iconst 0, 1) := by decide +kernel
theorem dX8_readsStatement_271 : decode cX8_readsStatement 271 = .ok (.istore_n 2, 1) := by decide +kernel
theorem dX8_readsStatement_272 : decode cX8_readsStatement 272 = .ok (.goto 51, 3) := by decide +kernel
theorem dX8_readsStatement_275 : decode cX8_readsStatement 275 = .ok (.aload_n 0, 1) := by decide +kernel
theorem dX8_readsStatement_276 : decode cX8_readsStatement 276 = .ok (.iconst 0, 1) := by decide +kernel
theorem dX8_readsStatement_277 : decode cX8_readsStatement 277 = .ok (.iconst 1, 1) := by decide +kernel
theorem dX8_readsStatement_278 : decode cX8_readsStatement 278 = .ok (.invokevirtual 94, 3) := by decide +kernel
theorem dX8_readsStatement_281 : decode cX8_readsStatement 281 = .ok (.ifCond .eq 25, 3) := by decide +kernel
theorem dX8_readsStatement_284 : decode cX8_readsStatement 284 = .ok (.aload_n 0, 1) := by decide +kernel
theorem dX8_readsStatement_285 : decode cX8_readsStatement 285 = .ok (.iconst 1, 1) := by decide +kernel
theorem dX8_readsStatement_286 : decode cX8_readsStatement 286 = .ok (.iconst 2, 1) := by decide +kernel
theorem dX8_readsStatement_287 : decode cX8_readsStatement 287 = .ok (.invokevirtual 94, 3) := by decide +kernel
theorem dX8_readsStatement_290 : decode cX8_readsStatement 290 = .ok (.ifCond .eq 16, 3) := by decide +kernel
theorem dX8_readsStatement_293 : decode cX8_readsStatement 293 = .ok (.aload_n 0, 1) := by decide +kernel
theorem dX8_readsStatement_294 : decode cX8_readsStatement 294 = .ok (.iconst 2, 1) := by decide +kernel
theorem dX8_readsStatement_295 : decode cX8_readsStatement 295 = .ok (.iconst 1, 1) := by decide +kernel
theorem dX8_readsStatement_296 : decode cX8_readsStatement 296 = .ok (.invokevirtual 94, 3) := by decide +kernel
theorem dX8_readsStatement_299 : decode cX8_readsStatement 299 = .ok (.ifCond .eq 7, 3) := by decide +kernel
theorem dX8_readsStatement_302 : decode cX8_readsStatement 302 = .ok (.iconst 1, 1) := by decide +kernel
theorem dX8_readsStatement_303 : decode cX8_readsStatement 303 = .ok (.goto 4, 3) := by decide +kernel
theorem dX8_readsStatement_306 : decode cX8_readsStatement 306 = .ok (.iconst 0, 1) := by decide +kernel
theorem dX8_readsStatement_307 : decode cX8_readsStatement 307 = .ok (.istore_n 2, 1) := by decide +kernel
theorem dX8_readsStatement_308 : decode cX8_readsStatement 308 = .ok (.goto 15, 3) := by decide +kernel
theorem dX8_readsStatement_311 : decode cX8_readsStatement 311 = .ok (.aload_n 0, 1) := by decide +kernel
theorem dX8_readsStatement_312 : decode cX8_readsStatement 312 = .ok (.dup, 1) := by decide +kernel
theorem dX8_readsStatement_313 : decode cX8_readsStatement 313 = .ok (.getfield 80, 3) := by decide +kernel
theorem dX8_readsStatement_316 : decode cX8_readsStatement 316 = .ok (.iconst 1, 1) := by decide +kernel
theorem dX8_readsStatement_317 : decode cX8_readsStatement 317 = .ok (.isub, 1) := by decide +kernel
theorem dX8_readsStatement_318 : decode cX8_readsStatement 318 = .ok (.putfield 80, 3) := by decide +kernel
theorem dX8_readsStatement_321 : decode cX8_readsStatement 321 = .ok (.iconst 0, 1) := by decide +kernel
theorem dX8_readsStatement_322 : decode cX8_readsStatement 322 = .ok (.ireturn, 1) := by decide +kernel
theorem dX8_readsStatement_323 : decode cX8_readsStatement 323 = .ok (.iload_n 2, 1) := by decide +kernel
theorem dX8_readsStatement_324 : decode cX8_readsStatement 324 = .ok (.ifCond .eq 12, 3) := by decide +kernel
theorem dX8_readsStatement_327 : decode cX8_readsStatement 327 = .ok (.aload_n 0, 1) := by decide +kernel
theorem dX8_readsStatement_328 : decode cX8_readsStatement 328 = .ok (.invokevirtual 83, 3) := by decide +kernel
theorem dX8_readsStatement_331 : decode cX8_readsStatement 331 = .ok (.bipush 59, 2) := by decide +kernel
theorem dX8_readsStatement_333 : decode cX8_readsStatement 333 = .ok (.if_icmp .eq 5, 3) := by decide +kernel
theorem dX8_readsStatement_336 : decode cX8_readsStatement 336 = .ok (.iconst 0, 1) := by decide +kernel
theorem dX8_readsStatement_337 : decode cX8_readsStatement 337 = .ok (.ireturn, 1) := by decide +kernel
theorem dX8_readsStatement_338 : decode cX8_readsStatement 338 = .ok (.aload_n 0, 1) := by decide +kernel
theorem dX8_readsStatement_339 : decode cX8_readsStatement 339 = .ok (.dup, 1) := by decide +kernel
theorem dX8_readsStatement_340 : decode cX8_readsStatement 340 = .ok (.getfield 80, 3) := by decide +kernel
theorem dX8_readsStatement_343 : decode cX8_readsStatement 343 = .ok (.iconst 1, 1) := by decide +kernel
theorem dX8_readsStatement_344 : decode cX8_readsStatement 344 = .ok (.iadd, 1) := by decide +kernel
theorem dX8_readsStatement_345 : decode cX8_readsStatement 345 = .ok (.putfield 80, 3) := by decide +kernel
theorem dX8_readsStatement_348 : decode cX8_readsStatement 348 = .ok (.iconst 1, 1) := by decide +kernel
theorem dX8_readsStatement_349 : decode cX8_readsStatement 349 = .ok (.ireturn, 1) := by decide +kernel
theorem dX8_turnsHalves_0 : decode cX8_turnsHalves 0 = .ok (.aload_n 0, 1) := by decide +kernel
theorem dX8_turnsHalves_1 : decode cX8_turnsHalves 1 = .ok (.getfield 9, 3) := by decide +kernel
theorem dX8_turnsHalves_4 : decode cX8_turnsHalves 4 = .ok (.bipush 124, 2) := by decide +kernel
theorem dX8_turnsHalves_6 : decode cX8_turnsHalves 6 = .ok (.iload_n 1, 1) := by decide +kernel
theorem dX8_turnsHalves_7 : decode cX8_turnsHalves 7 = .ok (.iadd, 1) := by decide +kernel
theorem dX8_turnsHalves_8 : decode cX8_turnsHalves 8 = .ok (.dup2, 1) := by decide +kernel
theorem dX8_turnsHalves_9 : decode cX8_turnsHalves 9 = .ok (.iaload, 1) := by decide +kernel
theorem dX8_turnsHalves_10 : decode cX8_turnsHalves 10 = .ok (.iconst 1, 1) := by decide +kernel
theorem dX8_turnsHalves_11 : decode cX8_turnsHalves 11 = .ok (.iload_n 2, 1) := by decide +kernel
theorem dX8_turnsHalves_12 : decode cX8_turnsHalves 12 = .ok (.ishl, 1) := by decide +kernel
theorem dX8_turnsHalves_13 : decode cX8_turnsHalves 13 = .ok (.ixor, 1) := by decide +kernel
theorem dX8_turnsHalves_14 : decode cX8_turnsHalves 14 = .ok (.iastore, 1) := by decide +kernel
theorem dX8_turnsHalves_15 : decode cX8_turnsHalves 15 = .ok (.aload_n 0, 1) := by decide +kernel
theorem dX8_turnsHalves_16 : decode cX8_turnsHalves 16 = .ok (.getfield 9, 3) := by decide +kernel
theorem dX8_turnsHalves_19 : decode cX8_turnsHalves 19 = .ok (.bipush 124, 2) := by decide +kernel
theorem dX8_turnsHalves_21 : decode cX8_turnsHalves 21 = .ok (.iload_n 2, 1) := by decide +kernel
theorem dX8_turnsHalves_22 : decode cX8_turnsHalves 22 = .ok (.iadd, 1) := by decide +kernel
theorem dX8_turnsHalves_23 : decode cX8_turnsHalves 23 = .ok (.dup2, 1) := by decide +kernel
theorem dX8_turnsHalves_24 : decode cX8_turnsHalves 24 = .ok (.iaload, 1) := by decide +kernel
theorem dX8_turnsHalves_25 : decode cX8_turnsHalves 25 = .ok (.iconst 1, 1) := by decide +kernel
theorem dX8_turnsHalves_26 : decode cX8_turnsHalves 26 = .ok (.iload_n 1, 1) := by decide +kernel
theorem dX8_turnsHalves_27 : decode cX8_turnsHalves 27 = .ok (.ishl, 1) := by decide +kernel
theorem dX8_turnsHalves_28 : decode cX8_turnsHalves 28 = .ok (.ixor, 1) := by decide +kernel
theorem dX8_turnsHalves_29 : decode cX8_turnsHalves 29 = .ok (.iastore, 1) := by decide +kernel
theorem dX8_turnsHalves_30 : decode cX8_turnsHalves 30 = .ok (.return_, 1) := by decide +kernel
theorem dX8_canGlue_0 : decode cX8_canGlue 0 = .ok (.aload_n 0, 1) := by decide +kernel
theorem dX8_canGlue_1 : decode cX8_canGlue 1 = .ok (.getfield 9, 3) := by decide +kernel
theorem dX8_canGlue_4 : decode cX8_canGlue 4 = .ok (.bipush 20, 2) := by decide +kernel
theorem dX8_canGlue_6 : decode cX8_canGlue 6 = .ok (.iload_n 1, 1) := by decide +kernel
theorem dX8_canGlue_7 : decode cX8_canGlue 7 = .ok (.iadd, 1) := by decide +kernel
theorem dX8_canGlue_8 : decode cX8_canGlue 8 = .ok (.iaload, 1) := by decide +kernel
theorem dX8_canGlue_9 : decode cX8_canGlue 9 = .ok (.ifCond .ge 24, 3) := by decide +kernel
theorem dX8_canGlue_12 : decode cX8_canGlue 12 = .ok (.aload_n 0, 1) := by decide +kernel
theorem dX8_canGlue_13 : decode cX8_canGlue 13 = .ok (.getfield 9, 3) := by decide +kernel
theorem dX8_canGlue_16 : decode cX8_canGlue 16 = .ok (.iconst 2, 1) := by decide +kernel
theorem dX8_canGlue_17 : decode cX8_canGlue 17 = .ok (.iaload, 1) := by decide +kernel
theorem dX8_canGlue_18 : decode cX8_canGlue 18 = .ok (.aload_n 0, 1) := by decide +kernel
theorem dX8_canGlue_19 : decode cX8_canGlue 19 = .ok (.getfield 9, 3) := by decide +kernel
theorem dX8_canGlue_22 : decode cX8_canGlue 22 = .ok (.iload_n 1, 1) := by decide +kernel
theorem dX8_canGlue_23 : decode cX8_canGlue 23 = .ok (.invokestatic 98, 3) := by decide +kernel
theorem dX8_canGlue_26 : decode cX8_canGlue 26 = .ok (.if_icmp .lt 7, 3) := by decide +kernel
theorem dX8_canGlue_29 : decode cX8_canGlue 29 = .ok (.iconst 1, 1) := by decide +kernel
theorem dX8_canGlue_30 : decode cX8_canGlue 30 = .ok (.goto 4, 3) := by decide +kernel
theorem dX8_canGlue_33 : decode cX8_canGlue 33 = .ok (.iconst 0, 1) := by decide +kernel
theorem dX8_canGlue_34 : decode cX8_canGlue 34 = .ok (.ireturn, 1) := by decide +kernel
theorem dX8_gluesTo_0 : decode cX8_gluesTo 0 = .ok (.aload_n 0, 1) := by decide +kernel
theorem dX8_gluesTo_1 : decode cX8_gluesTo 1 = .ok (.getfield 9, 3) := by decide +kernel
theorem dX8_gluesTo_4 : decode cX8_gluesTo 4 = .ok (.bipush 20, 2) := by decide +kernel
theorem dX8_gluesTo_6 : decode cX8_gluesTo 6 = .ok (.iload_n 1, 1) := by decide +kernel
theorem dX8_gluesTo_7 : decode cX8_gluesTo 7 = .ok (.iadd, 1) := by decide +kernel
theorem dX8_gluesTo_8 : decode cX8_gluesTo 8 = .ok (.aload_n 0, 1) := by decide +kernel
theorem dX8_gluesTo_9 : decode cX8_gluesTo 9 = .ok (.getfield 9, 3) := by decide +kernel
theorem dX8_gluesTo_12 : decode cX8_gluesTo 12 = .ok (.iload_n 1, 1) := by decide +kernel
theorem dX8_gluesTo_13 : decode cX8_gluesTo 13 = .ok (.iload_n 2, 1) := by decide +kernel
theorem dX8_gluesTo_14 : decode cX8_gluesTo 14 = .ok (.iload_n 3, 1) := by decide +kernel
theorem dX8_gluesTo_15 : decode cX8_gluesTo 15 = .ok (.invokestatic 73, 3) := by decide +kernel
theorem dX8_gluesTo_18 : decode cX8_gluesTo 18 = .ok (.iastore, 1) := by decide +kernel
theorem dX8_gluesTo_19 : decode cX8_gluesTo 19 = .ok (.aload_n 0, 1) := by decide +kernel
theorem dX8_gluesTo_20 : decode cX8_gluesTo 20 = .ok (.getfield 9, 3) := by decide +kernel
theorem dX8_gluesTo_23 : decode cX8_gluesTo 23 = .ok (.iconst 2, 1) := by decide +kernel
theorem dX8_gluesTo_24 : decode cX8_gluesTo 24 = .ok (.dup2, 1) := by decide +kernel
theorem dX8_gluesTo_25 : decode cX8_gluesTo 25 = .ok (.iaload, 1) := by decide +kernel
theorem dX8_gluesTo_26 : decode cX8_gluesTo 26 = .ok (.aload_n 0, 1) := by decide +kernel
theorem dX8_gluesTo_27 : decode cX8_gluesTo 27 = .ok (.getfield 9, 3) := by decide +kernel
theorem dX8_gluesTo_30 : decode cX8_gluesTo 30 = .ok (.iload_n 1, 1) := by decide +kernel
theorem dX8_gluesTo_31 : decode cX8_gluesTo 31 = .ok (.invokestatic 98, 3) := by decide +kernel
theorem dX8_gluesTo_34 : decode cX8_gluesTo 34 = .ok (.isub, 1) := by decide +kernel
theorem dX8_gluesTo_35 : decode cX8_gluesTo 35 = .ok (.iastore, 1) := by decide +kernel
theorem dX8_gluesTo_36 : decode cX8_gluesTo 36 = .ok (.aload_n 0, 1) := by decide +kernel
theorem dX8_gluesTo_37 : decode cX8_gluesTo 37 = .ok (.getfield 9, 3) := by decide +kernel
theorem dX8_gluesTo_40 : decode cX8_gluesTo 40 = .ok (.bipush 20, 2) := by decide +kernel
theorem dX8_gluesTo_42 : decode cX8_gluesTo 42 = .ok (.iload_n 1, 1) := by decide +kernel
theorem dX8_gluesTo_43 : decode cX8_gluesTo 43 = .ok (.iadd, 1) := by decide +kernel
theorem dX8_gluesTo_44 : decode cX8_gluesTo 44 = .ok (.iaload, 1) := by decide +kernel
theorem dX8_gluesTo_45 : decode cX8_gluesTo 45 = .ok (.ireturn, 1) := by decide +kernel
theorem dX8_isDone_0 : decode cX8_isDone 0 = .ok (.aload_n 0, 1) := by decide +kernel
theorem dX8_isDone_1 : decode cX8_isDone 1 = .ok (.getfield 31, 3) := by decide +kernel
theorem dX8_isDone_4 : decode cX8_isDone 4 = .ok (.iconst 0, 1) := by decide +kernel
theorem dX8_isDone_5 : decode cX8_isDone 5 = .ok (.iaload, 1) := by decide +kernel
theorem dX8_isDone_6 : decode cX8_isDone 6 = .ok (.istore_n 2, 1) := by decide +kernel
theorem dX8_isDone_7 : decode cX8_isDone 7 = .ok (.aload_n 0, 1) := by decide +kernel
theorem dX8_isDone_8 : decode cX8_isDone 8 = .ok (.getfield 31, 3) := by decide +kernel
theorem dX8_isDone_11 : decode cX8_isDone 11 = .ok (.iconst 1, 1) := by decide +kernel
theorem dX8_isDone_12 : decode cX8_isDone 12 = .ok (.iaload, 1) := by decide +kernel
theorem dX8_isDone_13 : decode cX8_isDone 13 = .ok (.istore_n 3, 1) := by decide +kernel
theorem dX8_isDone_14 : decode cX8_isDone 14 = .ok (.iload_n 1, 1) := by decide +kernel
theorem dX8_isDone_15 : decode cX8_isDone 15 = .ok (.lookupswitch 298 #[(100, 289), (103, 175), (104, 258), (116, 57), (118, 175), (121, 246)], 57) := by decide +kernel
theorem dX8_isDone_72 : decode cX8_isDone 72 = .ok (.aload_n 0, 1) := by decide +kernel
theorem dX8_isDone_73 : decode cX8_isDone 73 = .ok (.getfield 9, 3) := by decide +kernel
theorem dX8_isDone_76 : decode cX8_isDone 76 = .ok (.iconst 0, 1) := by decide +kernel
theorem dX8_isDone_77 : decode cX8_isDone 77 = .ok (.iaload, 1) := by decide +kernel
theorem dX8_isDone_78 : decode cX8_isDone 78 = .ok (.bipush 8, 2) := by decide +kernel
theorem dX8_isDone_80 : decode cX8_isDone 80 = .ok (.if_icmp .ne 5, 3) := by decide +kernel
theorem dX8_isDone_83 : decode cX8_isDone 83 = .ok (.iconst 0, 1) := by decide +kernel
theorem dX8_isDone_84 : decode cX8_isDone 84 = .ok (.ireturn, 1) := by decide +kernel
theorem dX8_isDone_85 : decode cX8_isDone 85 = .ok (.aload_n 0, 1) := by decide +kernel
theorem dX8_isDone_86 : decode cX8_isDone 86 = .ok (.getfield 9, 3) := by decide +kernel
theorem dX8_isDone_89 : decode cX8_isDone 89 = .ok (.iconst 4, 1) := by decide +kernel
theorem dX8_isDone_90 : decode cX8_isDone 90 = .ok (.aload_n 0, 1) := by decide +kernel
theorem dX8_isDone_91 : decode cX8_isDone 91 = .ok (.getfield 9, 3) := by decide +kernel
theorem dX8_isDone_94 : decode cX8_isDone 94 = .ok (.iconst 0, 1) := by decide +kernel
theorem dX8_isDone_95 : decode cX8_isDone 95 = .ok (.iaload, 1) := by decide +kernel
theorem dX8_isDone_96 : decode cX8_isDone 96 = .ok (.iadd, 1) := by decide +kernel
theorem dX8_isDone_97 : decode cX8_isDone 97 = .ok (.iload_n 2, 1) := by decide +kernel
theorem dX8_isDone_98 : decode cX8_isDone 98 = .ok (.iastore, 1) := by decide +kernel
theorem dX8_isDone_99 : decode cX8_isDone 99 = .ok (.aload_n 0, 1) := by decide +kernel
theorem dX8_isDone_100 : decode cX8_isDone 100 = .ok (.getfield 9, 3) := by decide +kernel
theorem dX8_isDone_103 : decode cX8_isDone 103 = .ok (.bipush 12, 2) := by decide +kernel
theorem dX8_isDone_105 : decode cX8_isDone 105 = .ok (.aload_n 0, 1) := by decide +kernel
theorem dX8_isDone_106 : decode cX8_isDone 106 = .ok (.getfield 9, 3) := by decide +kernel
theorem dX8_isDone_109 : decode cX8_isDone 109 = .ok (.iconst 0, 1) := by decide +kernel
theorem dX8_isDone_110 : decode cX8_isDone 110 = .ok (.iaload, 1) := by decide +kernel
theorem dX8_isDone_111 : decode cX8_isDone 111 = .ok (.iadd, 1) := by decide +kernel
theorem dX8_isDone_112 : decode cX8_isDone 112 = .ok (.iload_n 3, 1) := by decide +kernel
theorem dX8_isDone_113 : decode cX8_isDone 113 = .ok (.iastore, 1) := by decide +kernel
theorem dX8_isDone_114 : decode cX8_isDone 114 = .ok (.aload_n 0, 1) := by decide +kernel
theorem dX8_isDone_115 : decode cX8_isDone 115 = .ok (.getfield 9, 3) := by decide +kernel
theorem dX8_isDone_118 : decode cX8_isDone 118 = .ok (.bipush 20, 2) := by decide +kernel
theorem dX8_isDone_120 : decode cX8_isDone 120 = .ok (.aload_n 0, 1) := by decide +kernel
theorem dX8_isDone_121 : decode cX8_isDone 121 = .ok (.getfield 9, 3) := by decide +kernel
theorem dX8_isDone_124 : decode cX8_isDone 124 = .ok (.iconst 0, 1) := by decide +kernel
theorem dX8_isDone_125 : decode cX8_isDone 125 = .ok (.iaload, 1) := by decide +kernel
theorem dX8_isDone_126 : decode cX8_isDone 126 = .ok (.iadd, 1) := by decide +kernel
theorem dX8_isDone_127 : decode cX8_isDone 127 = .ok (.bipush (-9), 2) := by decide +kernel
theorem dX8_isDone_129 : decode cX8_isDone 129 = .ok (.iastore, 1) := by decide +kernel
theorem dX8_isDone_130 : decode cX8_isDone 130 = .ok (.iconst 0, 1) := by decide +kernel
theorem dX8_isDone_131 : decode cX8_isDone 131 = .ok (.istore 4, 2) := by decide +kernel
theorem dX8_isDone_133 : decode cX8_isDone 133 = .ok (.iload 4, 2) := by decide +kernel
theorem dX8_isDone_135 : decode cX8_isDone 135 = .ok (.bipush 12, 2) := by decide +kernel
theorem dX8_isDone_137 : decode cX8_isDone 137 = .ok (.if_icmp .ge 26, 3) := by decide +kernel
theorem dX8_isDone_140 : decode cX8_isDone 140 = .ok (.aload_n 0, 1) := by decide +kernel
theorem dX8_isDone_141 : decode cX8_isDone 141 = .ok (.getfield 9, 3) := by decide +kernel
theorem dX8_isDone_144 : decode cX8_isDone 144 = .ok (.aload_n 0, 1) := by decide +kernel
theorem dX8_isDone_145 : decode cX8_isDone 145 = .ok (.getfield 9, 3) := by decide +kernel
theorem dX8_isDone_148 : decode cX8_isDone 148 = .ok (.iconst 0, 1) := by decide +kernel
theorem dX8_isDone_149 : decode cX8_isDone 149 = .ok (.iaload, 1) := by decide +kernel
theorem dX8_isDone_150 : decode cX8_isDone 150 = .ok (.iload 4, 2) := by decide +kernel
theorem dX8_isDone_152 : decode cX8_isDone 152 = .ok (.invokestatic 55, 3) := by decide +kernel
theorem dX8_isDone_155 : decode cX8_isDone 155 = .ok (.iconst 0, 1) := by decide +kernel
theorem dX8_isDone_156 : decode cX8_isDone 156 = .ok (.iastore, 1) := by decide +kernel
theorem dX8_isDone_157 : decode cX8_isDone 157 = .ok (.iinc 4 1, 3) := by decide +kernel
theorem dX8_isDone_160 : decode cX8_isDone 160 = .ok (.goto (-27), 3) := by decide +kernel
theorem dX8_isDone_163 : decode cX8_isDone 163 = .ok (.aload_n 0, 1) := by decide +kernel
theorem dX8_isDone_164 : decode cX8_isDone 164 = .ok (.getfield 9, 3) := by decide +kernel
theorem dX8_isDone_167 : decode cX8_isDone 167 = .ok (.bipush 124, 2) := by decide +kernel
theorem dX8_isDone_169 : decode cX8_isDone 169 = .ok (.aload_n 0, 1) := by decide +kernel
theorem dX8_isDone_170 : decode cX8_isDone 170 = .ok (.getfield 9, 3) := by decide +kernel
theorem dX8_isDone_173 : decode cX8_isDone 173 = .ok (.iconst 0, 1) := by decide +kernel
theorem dX8_isDone_174 : decode cX8_isDone 174 = .ok (.iaload, 1) := by decide +kernel
theorem dX8_isDone_175 : decode cX8_isDone 175 = .ok (.iadd, 1) := by decide +kernel
theorem dX8_isDone_176 : decode cX8_isDone 176 = .ok (.iconst 0, 1) := by decide +kernel
theorem dX8_isDone_177 : decode cX8_isDone 177 = .ok (.iastore, 1) := by decide +kernel
theorem dX8_isDone_178 : decode cX8_isDone 178 = .ok (.aload_n 0, 1) := by decide +kernel
theorem dX8_isDone_179 : decode cX8_isDone 179 = .ok (.getfield 9, 3) := by decide +kernel
theorem dX8_isDone_182 : decode cX8_isDone 182 = .ok (.iconst 0, 1) := by decide +kernel
theorem dX8_isDone_183 : decode cX8_isDone 183 = .ok (.dup2, 1) := by decide +kernel
theorem dX8_isDone_184 : decode cX8_isDone 184 = .ok (.iaload, 1) := by decide +kernel
theorem dX8_isDone_185 : decode cX8_isDone 185 = .ok (.iconst 1, 1) := by decide +kernel
theorem dX8_isDone_186 : decode cX8_isDone 186 = .ok (.iadd, 1) := by decide +kernel
theorem dX8_isDone_187 : decode cX8_isDone 187 = .ok (.iastore, 1) := by decide +kernel
theorem dX8_isDone_188 : decode cX8_isDone 188 = .ok (.iconst 1, 1) := by decide +kernel
theorem dX8_isDone_189 : decode cX8_isDone 189 = .ok (.ireturn, 1) := by decide +kernel
theorem dX8_isDone_190 : decode cX8_isDone 190 = .ok (.aload_n 0, 1) := by decide +kernel
theorem dX8_isDone_191 : decode cX8_isDone 191 = .ok (.iload_n 2, 1) := by decide +kernel
theorem dX8_isDone_192 : decode cX8_isDone 192 = .ok (.invokevirtual 101, 3) := by decide +kernel
theorem dX8_isDone_195 : decode cX8_isDone 195 = .ok (.ifCond .eq 25, 3) := by decide +kernel
theorem dX8_isDone_198 : decode cX8_isDone 198 = .ok (.iload_n 3, 1) := by decide +kernel
theorem dX8_isDone_199 : decode cX8_isDone 199 = .ok (.aload_n 0, 1) := by decide +kernel
theorem dX8_isDone_200 : decode cX8_isDone 200 = .ok (.getfield 31, 3) := by decide +kernel
theorem dX8_isDone_203 : decode cX8_isDone 203 = .ok (.iconst 2, 1) := by decide +kernel
theorem dX8_isDone_204 : decode cX8_isDone 204 = .ok (.iaload, 1) := by decide +kernel
theorem dX8_isDone_205 : decode cX8_isDone 205 = .ok (.if_icmp .gt 15, 3) := by decide +kernel
theorem dX8_isDone_208 : decode cX8_isDone 208 = .ok (.aload_n 0, 1) := by decide +kernel
theorem dX8_isDone_209 : decode cX8_isDone 209 = .ok (.getfield 31, 3) := by decide +kernel
theorem dX8_isDone_212 : decode cX8_isDone 212 = .ok (.iconst 2, 1) := by decide +kernel
theorem dX8_isDone_213 : decode cX8_isDone 213 = .ok (.iaload, 1) := by decide +kernel
theorem dX8_isDone_214 : decode cX8_isDone 214 = .ok (.invokestatic 105, 3) := by decide +kernel
theorem dX8_isDone_217 : decode cX8_isDone 217 = .ok (.ifCond .ne 5, 3) := by decide +kernel
theorem dX8_isDone_220 : decode cX8_isDone 220 = .ok (.iconst 0, 1) := by decide +kernel
theorem dX8_isDone_221 : decode cX8_isDone 221 = .ok (.ireturn, 1) := by decide +kernel
theorem dX8_isDone_222 : decode cX8_isDone 222 = .ok (.iload_n 3, 1) := by decide +kernel
theorem dX8_isDone_223 : decode cX8_isDone 223 = .ok (.istore 4, 2) := by decide +kernel
theorem dX8_isDone_225 : decode cX8_isDone 225 = .ok (.iload 4, 2) := by decide +kernel
theorem dX8_isDone_227 : decode cX8_isDone 227 = .ok (.aload_n 0, 1) := by decide +kernel
theorem dX8_isDone_228 : decode cX8_isDone 228 = .ok (.getfield 31, 3) := by decide +kernel
theorem dX8_isDone_231 : decode cX8_isDone 231 = .ok (.iconst 2, 1) := by decide +kernel
theorem dX8_isDone_232 : decode cX8_isDone 232 = .ok (.iaload, 1) := by decide +kernel
theorem dX8_isDone_233 : decode cX8_isDone 233 = .ok (.if_icmp .gt 26, 3) := by decide +kernel
theorem dX8_isDone_236 : decode cX8_isDone 236 = .ok (.aload_n 0, 1) := by decide +kernel
theorem dX8_isDone_237 : decode cX8_isDone 237 = .ok (.getfield 9, 3) := by decide +kernel
theorem dX8_isDone_240 : decode cX8_isDone 240 = .ok (.iload_n 2, 1) := by decide +kernel
theorem dX8_isDone_241 : decode cX8_isDone 241 = .ok (.iload 4, 2) := by decide +kernel
theorem dX8_isDone_243 : decode cX8_isDone 243 = .ok (.invokestatic 55, 3) := by decide +kernel
theorem dX8_isDone_246 : decode cX8_isDone 246 = .ok (.aload_n 0, 1) := by decide +kernel
theorem dX8_isDone_247 : decode cX8_isDone 247 = .ok (.getfield 31, 3) := by decide +kernel
theorem dX8_isDone_250 : decode cX8_isDone 250 = .ok (.iconst 3, 1) := by decide +kernel
theorem dX8_isDone_251 : decode cX8_isDone 251 = .ok (.iaload, 1) := by decide +kernel
theorem dX8_isDone_252 : decode cX8_isDone 252 = .ok (.iastore, 1) := by decide +kernel
theorem dX8_isDone_253 : decode cX8_isDone 253 = .ok (.iinc 4 1, 3) := by decide +kernel
theorem dX8_isDone_256 : decode cX8_isDone 256 = .ok (.goto (-31), 3) := by decide +kernel
theorem dX8_isDone_259 : decode cX8_isDone 259 = .ok (.iconst 1, 1) := by decide +kernel
theorem dX8_isDone_260 : decode cX8_isDone 260 = .ok (.ireturn, 1) := by decide +kernel
theorem dX8_isDone_261 : decode cX8_isDone 261 = .ok (.aload_n 0, 1) := by decide +kernel
theorem dX8_isDone_262 : decode cX8_isDone 262 = .ok (.getfield 9, 3) := by decide +kernel
theorem dX8_isDone_265 : decode cX8_isDone 265 = .ok (.iconst 1, 1) := by decide +kernel
theorem dX8_isDone_266 : decode cX8_isDone 266 = .ok (.iload_n 2, 1) := by decide +kernel
theorem dX8_isDone_267 : decode cX8_isDone 267 = .ok (.iastore, 1) := by decide +kernel
theorem dX8_isDone_268 : decode cX8_isDone 268 = .ok (.iload_n 2, 1) := by decide +kernel
theorem dX8_isDone_269 : decode cX8_isDone 269 = .ok (.invokestatic 105, 3) := by decide +kernel
theorem dX8_isDone_272 : decode cX8_isDone 272 = .ok (.ireturn, 1) := by decide +kernel
theorem dX8_isDone_273 : decode cX8_isDone 273 = .ok (.aload_n 0, 1) := by decide +kernel
theorem dX8_isDone_274 : decode cX8_isDone 274 = .ok (.iload_n 2, 1) := by decide +kernel
theorem dX8_isDone_275 : decode cX8_isDone 275 = .ok (.invokevirtual 101, 3) := by decide +kernel
theorem dX8_isDone_278 : decode cX8_isDone 278 = .ok (.ifCond .eq 16, 3) := by decide +kernel
theorem dX8_isDone_281 : decode cX8_isDone 281 = .ok (.aload_n 0, 1) := by decide +kernel
theorem dX8_isDone_282 : decode cX8_isDone 282 = .ok (.iload_n 3, 1) := by decide +kernel
theorem dX8_isDone_283 : decode cX8_isDone 283 = .ok (.invokevirtual 101, 3) := by decide +kernel
theorem dX8_isDone_286 : decode cX8_isDone 286 = .ok (.ifCond .eq 8, 3) := by decide +kernel
theorem dX8_isDone_289 : decode cX8_isDone 289 = .ok (.iload_n 2, 1) := by decide +kernel
theorem dX8_isDone_290 : decode cX8_isDone 290 = .ok (.iload_n 3, 1) := by decide +kernel
theorem dX8_isDone_291 : decode cX8_isDone 291 = .ok (.if_icmp .ne 5, 3) := by decide +kernel
theorem dX8_isDone_294 : decode cX8_isDone 294 = .ok (.iconst 0, 1) := by decide +kernel
theorem dX8_isDone_295 : decode cX8_isDone 295 = .ok (.ireturn, 1) := by decide +kernel
theorem dX8_isDone_296 : decode cX8_isDone 296 = .ok (.aload_n 0, 1) := by decide +kernel
theorem dX8_isDone_297 : decode cX8_isDone 297 = .ok (.iload_n 2, 1) := by decide +kernel
theorem dX8_isDone_298 : decode cX8_isDone 298 = .ok (.iload_n 3, 1) := by decide +kernel
theorem dX8_isDone_299 : decode cX8_isDone 299 = .ok (.invokevirtual 108, 3) := by decide +kernel
theorem dX8_isDone_302 : decode cX8_isDone 302 = .ok (.iconst 1, 1) := by decide +kernel
theorem dX8_isDone_303 : decode cX8_isDone 303 = .ok (.ireturn, 1) := by decide +kernel
theorem dX8_isDone_304 : decode cX8_isDone 304 = .ok (.aload_n 0, 1) := by decide +kernel
theorem dX8_isDone_305 : decode cX8_isDone 305 = .ok (.getfield 9, 3) := by decide +kernel
theorem dX8_isDone_308 : decode cX8_isDone 308 = .ok (.iconst 2, 1) := by decide +kernel
theorem dX8_isDone_309 : decode cX8_isDone 309 = .ok (.iload_n 2, 1) := by decide +kernel
theorem dX8_isDone_310 : decode cX8_isDone 310 = .ok (.iastore, 1) := by decide +kernel
theorem dX8_isDone_311 : decode cX8_isDone 311 = .ok (.iconst 1, 1) := by decide +kernel
theorem dX8_isDone_312 : decode cX8_isDone 312 = .ok (.ireturn, 1) := by decide +kernel
theorem dX8_isDone_313 : decode cX8_isDone 313 = .ok (.aload_n 0, 1) := by decide +kernel
theorem dX8_isDone_314 : decode cX8_isDone 314 = .ok (.iload_n 2, 1) := by decide +kernel
theorem dX8_isDone_315 : decode cX8_isDone 315 = .ok (.invokevirtual 101, 3) := by decide +kernel
theorem dX8_isDone_318 : decode cX8_isDone 318 = .ok (.ifCond .eq 11, 3) := by decide +kernel
theorem dX8_isDone_321 : decode cX8_isDone 321 = .ok (.aload_n 0, 1) := by decide +kernel
theorem dX8_isDone_322 : decode cX8_isDone 322 = .ok (.iload_n 2, 1) := by decide +kernel
theorem dX8_isDone_323 : decode cX8_isDone 323 = .ok (.invokevirtual 112, 3) := by decide +kernel
theorem dX8_isDone_326 : decode cX8_isDone 326 = .ok (.ifCond .ne 5, 3) := by decide +kernel
theorem dX8_isDone_329 : decode cX8_isDone 329 = .ok (.iconst 0, 1) := by decide +kernel
theorem dX8_isDone_330 : decode cX8_isDone 330 = .ok (.ireturn, 1) := by decide +kernel
theorem dX8_isDone_331 : decode cX8_isDone 331 = .ok (.aload_n 0, 1) := by decide +kernel
theorem dX8_isDone_332 : decode cX8_isDone 332 = .ok (.iload_n 2, 1) := by decide +kernel
theorem dX8_isDone_333 : decode cX8_isDone 333 = .ok (.iload_n 3, 1) := by decide +kernel
theorem dX8_isDone_334 : decode cX8_isDone 334 = .ok (.aload_n 0, 1) := by decide +kernel
theorem dX8_isDone_335 : decode cX8_isDone 335 = .ok (.getfield 31, 3) := by decide +kernel
theorem dX8_isDone_338 : decode cX8_isDone 338 = .ok (.iconst 2, 1) := by decide +kernel
theorem dX8_isDone_339 : decode cX8_isDone 339 = .ok (.iaload, 1) := by decide +kernel
theorem dX8_isDone_340 : decode cX8_isDone 340 = .ok (.invokevirtual 115, 3) := by decide +kernel
theorem dX8_isDone_343 : decode cX8_isDone 343 = .ok (.istore 4, 2) := by decide +kernel
theorem dX8_isDone_345 : decode cX8_isDone 345 = .ok (.iconst 1, 1) := by decide +kernel
theorem dX8_isDone_346 : decode cX8_isDone 346 = .ok (.ireturn, 1) := by decide +kernel
theorem dX8_shop_0 : decode cX8_shop 0 = .ok (.aload_n 0, 1) := by decide +kernel
theorem dX8_shop_1 : decode cX8_shop 1 = .ok (.iconst 0, 1) := by decide +kernel
theorem dX8_shop_2 : decode cX8_shop 2 = .ok (.putfield 80, 3) := by decide +kernel
theorem dX8_shop_5 : decode cX8_shop 5 = .ok (.iconst 0, 1) := by decide +kernel
theorem dX8_shop_6 : decode cX8_shop 6 = .ok (.istore_n 1, 1) := by decide +kernel
theorem dX8_shop_7 : decode cX8_shop 7 = .ok (.bipush (-9), 2) := by decide +kernel
theorem dX8_shop_9 : decode cX8_shop 9 = .ok (.istore_n 2, 1) := by decide +kernel
theorem dX8_shop_10 : decode cX8_shop 10 = .ok (.aload_n 0, 1) := by decide +kernel
theorem dX8_shop_11 : decode cX8_shop 11 = .ok (.invokevirtual 119, 3) := by decide +kernel
theorem dX8_shop_14 : decode cX8_shop 14 = .ok (.ifCond .ne 12, 3) := by decide +kernel
theorem dX8_shop_17 : decode cX8_shop 17 = .ok (.sipush (-1000), 3) := by decide +kernel
theorem dX8_shop_20 : decode cX8_shop 20 = .ok (.aload_n 0, 1) := by decide +kernel
theorem dX8_shop_21 : decode cX8_shop 21 = .ok (.getfield 80, 3) := by decide +kernel
theorem dX8_shop_24 : decode cX8_shop 24 = .ok (.isub, 1) := by decide +kernel
theorem dX8_shop_25 : decode cX8_shop 25 = .ok (.istore_n 2, 1) := by decide +kernel
theorem dX8_shop_26 : decode cX8_shop 26 = .ok (.iinc 1 1, 3) := by decide +kernel
theorem dX8_shop_29 : decode cX8_shop 29 = .ok (.iload_n 2, 1) := by decide +kernel
theorem dX8_shop_30 : decode cX8_shop 30 = .ok (.bipush (-9), 2) := by decide +kernel
theorem dX8_shop_32 : decode cX8_shop 32 = .ok (.if_icmp .ne 14, 3) := by decide +kernel
theorem dX8_shop_35 : decode cX8_shop 35 = .ok (.aload_n 0, 1) := by decide +kernel
theorem dX8_shop_36 : decode cX8_shop 36 = .ok (.getfield 80, 3) := by decide +kernel
theorem dX8_shop_39 : decode cX8_shop 39 = .ok (.aload_n 0, 1) := by decide +kernel
theorem dX8_shop_40 : decode cX8_shop 40 = .ok (.getfield 76, 3) := by decide +kernel
theorem dX8_shop_43 : decode cX8_shop 43 = .ok (.if_icmp .lt (-33), 3) := by decide +kernel
theorem dX8_shop_46 : decode cX8_shop 46 = .ok (.aload_n 0, 1) := by decide +kernel
theorem dX8_shop_47 : decode cX8_shop 47 = .ok (.getfield 9, 3) := by decide +kernel
theorem dX8_shop_50 : decode cX8_shop 50 = .ok (.aload_n 0, 1) := by decide +kernel
theorem dX8_shop_51 : decode cX8_shop 51 = .ok (.getfield 19, 3) := by decide +kernel
theorem dX8_shop_54 : decode cX8_shop 54 = .ok (.invokestatic 122, 3) := by decide +kernel
theorem dX8_shop_57 : decode cX8_shop 57 = .ok (.aload_n 0, 1) := by decide +kernel
theorem dX8_shop_58 : decode cX8_shop 58 = .ok (.iconst 0, 1) := by decide +kernel
theorem dX8_shop_59 : decode cX8_shop 59 = .ok (.putfield 80, 3) := by decide +kernel
theorem dX8_shop_62 : decode cX8_shop 62 = .ok (.iload_n 2, 1) := by decide +kernel
theorem dX8_shop_63 : decode cX8_shop 63 = .ok (.bipush (-9), 2) := by decide +kernel
theorem dX8_shop_65 : decode cX8_shop 65 = .ok (.if_icmp .ne 63, 3) := by decide +kernel
theorem dX8_shop_68 : decode cX8_shop 68 = .ok (.aload_n 0, 1) := by decide +kernel
theorem dX8_shop_69 : decode cX8_shop 69 = .ok (.getfield 80, 3) := by decide +kernel
theorem dX8_shop_72 : decode cX8_shop 72 = .ok (.aload_n 0, 1) := by decide +kernel
theorem dX8_shop_73 : decode cX8_shop 73 = .ok (.getfield 76, 3) := by decide +kernel
theorem dX8_shop_76 : decode cX8_shop 76 = .ok (.if_icmp .ge 52, 3) := by decide +kernel
theorem dX8_shop_79 : decode cX8_shop 79 = .ok (.aload_n 0, 1) := by decide +kernel
theorem dX8_shop_80 : decode cX8_shop 80 = .ok (.getfield 80, 3) := by decide +kernel
theorem dX8_shop_83 : decode cX8_shop 83 = .ok (.istore_n 3, 1) := by decide +kernel
theorem dX8_shop_84 : decode cX8_shop 84 = .ok (.aload_n 0, 1) := by decide +kernel
theorem dX8_shop_85 : decode cX8_shop 85 = .ok (.invokevirtual 83, 3) := by decide +kernel
theorem dX8_shop_88 : decode cX8_shop 88 = .ok (.istore 4, 2) := by decide +kernel
theorem dX8_shop_90 : decode cX8_shop 90 = .ok (.aload_n 0, 1) := by decide +kernel
theorem dX8_shop_91 : decode cX8_shop 91 = .ok (.invokevirtual 119, 3) := by decide +kernel
theorem dX8_shop_94 : decode cX8_shop 94 = .ok (.istore 5, 2) := by decide +kernel
theorem dX8_shop_96 : decode cX8_shop 96 = .ok (.aload_n 0, 1) := by decide +kernel
theorem dX8_shop_97 : decode cX8_shop 97 = .ok (.iload 4, 2) := by decide +kernel
theorem dX8_shop_99 : decode cX8_shop 99 = .ok (.invokevirtual 126, 3) := by decide +kernel
theorem dX8_shop_102 : decode cX8_shop 102 = .ok (.ifCond .eq 6, 3) := by decide +kernel
theorem dX8_shop_105 : decode cX8_shop 105 = .ok (.goto (-43), 3) := by decide +kernel
theorem dX8_shop_108 : decode cX8_shop 108 = .ok (.sipush (-2000), 3) := by decide +kernel
theorem dX8_shop_111 : decode cX8_shop 111 = .ok (.iload_n 3, 1) := by decide +kernel
theorem dX8_shop_112 : decode cX8_shop 112 = .ok (.isub, 1) := by decide +kernel
theorem dX8_shop_113 : decode cX8_shop 113 = .ok (.istore_n 2, 1) := by decide +kernel
theorem dX8_shop_114 : decode cX8_shop 114 = .ok (.aload_n 0, 1) := by decide +kernel
theorem dX8_shop_115 : decode cX8_shop 115 = .ok (.getfield 19, 3) := by decide +kernel
theorem dX8_shop_118 : decode cX8_shop 118 = .ok (.aload_n 0, 1) := by decide +kernel
theorem dX8_shop_119 : decode cX8_shop 119 = .ok (.getfield 9, 3) := by decide +kernel
theorem dX8_shop_122 : decode cX8_shop 122 = .ok (.invokestatic 122, 3) := by decide +kernel
theorem dX8_shop_125 : decode cX8_shop 125 = .ok (.goto (-63), 3) := by decide +kernel
theorem dX8_shop_128 : decode cX8_shop 128 = .ok (.aload_n 0, 1) := by decide +kernel
theorem dX8_shop_129 : decode cX8_shop 129 = .ok (.iconst 0, 1) := by decide +kernel
theorem dX8_shop_130 : decode cX8_shop 130 = .ok (.putfield 76, 3) := by decide +kernel
theorem dX8_shop_133 : decode cX8_shop 133 = .ok (.iload_n 2, 1) := by decide +kernel
theorem dX8_shop_134 : decode cX8_shop 134 = .ok (.bipush (-9), 2) := by decide +kernel
theorem dX8_shop_136 : decode cX8_shop 136 = .ok (.if_icmp .ne 7, 3) := by decide +kernel
theorem dX8_shop_139 : decode cX8_shop 139 = .ok (.iload_n 1, 1) := by decide +kernel
theorem dX8_shop_140 : decode cX8_shop 140 = .ok (.goto 4, 3) := by decide +kernel
theorem dX8_shop_143 : decode cX8_shop 143 = .ok (.iload_n 2, 1) := by decide +kernel
theorem dX8_shop_144 : decode cX8_shop 144 = .ok (.ireturn, 1) := by decide +kernel
theorem dX8_thing_0 : decode cX8_thing 0 = .ok (.aload_n 0, 1) := by decide +kernel
theorem dX8_thing_1 : decode cX8_thing 1 = .ok (.iload_n 1, 1) := by decide +kernel
theorem dX8_thing_2 : decode cX8_thing 2 = .ok (.invokevirtual 101, 3) := by decide +kernel
theorem dX8_thing_5 : decode cX8_thing 5 = .ok (.ifCond .ne 9, 3) := by decide +kernel
theorem dX8_thing_8 : decode cX8_thing 8 = .ok (.aload_n 0, 1) := by decide +kernel
theorem dX8_thing_9 : decode cX8_thing 9 = .ok (.iconst (-1), 1) := by decide +kernel
theorem dX8_thing_10 : decode cX8_thing 10 = .ok (.invokevirtual 41, 3) := by decide +kernel
theorem dX8_thing_13 : decode cX8_thing 13 = .ok (.ireturn, 1) := by decide +kernel
theorem dX8_thing_14 : decode cX8_thing 14 = .ok (.iload_n 2, 1) := by decide +kernel
theorem dX8_thing_15 : decode cX8_thing 15 = .ok (.tableswitch 80 0 4 #[33, 42, 52, 62, 71], 33) := by decide +kernel
theorem dX8_thing_48 : decode cX8_thing 48 = .ok (.aload_n 0, 1) := by decide +kernel
theorem dX8_thing_49 : decode cX8_thing 49 = .ok (.getfield 9, 3) := by decide +kernel
theorem dX8_thing_52 : decode cX8_thing 52 = .ok (.iconst 4, 1) := by decide +kernel
theorem dX8_thing_53 : decode cX8_thing 53 = .ok (.iload_n 1, 1) := by decide +kernel
theorem dX8_thing_54 : decode cX8_thing 54 = .ok (.iadd, 1) := by decide +kernel
theorem dX8_thing_55 : decode cX8_thing 55 = .ok (.iaload, 1) := by decide +kernel
theorem dX8_thing_56 : decode cX8_thing 56 = .ok (.ireturn, 1) := by decide +kernel
theorem dX8_thing_57 : decode cX8_thing 57 = .ok (.aload_n 0, 1) := by decide +kernel
theorem dX8_thing_58 : decode cX8_thing 58 = .ok (.getfield 9, 3) := by decide +kernel
theorem dX8_thing_61 : decode cX8_thing 61 = .ok (.bipush 12, 2) := by decide +kernel
theorem dX8_thing_63 : decode cX8_thing 63 = .ok (.iload_n 1, 1) := by decide +kernel
theorem dX8_thing_64 : decode cX8_thing 64 = .ok (.iadd, 1) := by decide +kernel
theorem dX8_thing_65 : decode cX8_thing 65 = .ok (.iaload, 1) := by decide +kernel
theorem dX8_thing_66 : decode cX8_thing 66 = .ok (.ireturn, 1) := by decide +kernel
theorem dX8_thing_67 : decode cX8_thing 67 = .ok (.aload_n 0, 1) := by decide +kernel
theorem dX8_thing_68 : decode cX8_thing 68 = .ok (.getfield 9, 3) := by decide +kernel
theorem dX8_thing_71 : decode cX8_thing 71 = .ok (.bipush 20, 2) := by decide +kernel
theorem dX8_thing_73 : decode cX8_thing 73 = .ok (.iload_n 1, 1) := by decide +kernel
theorem dX8_thing_74 : decode cX8_thing 74 = .ok (.iadd, 1) := by decide +kernel
theorem dX8_thing_75 : decode cX8_thing 75 = .ok (.iaload, 1) := by decide +kernel
theorem dX8_thing_76 : decode cX8_thing 76 = .ok (.ireturn, 1) := by decide +kernel
theorem dX8_thing_77 : decode cX8_thing 77 = .ok (.aload_n 0, 1) := by decide +kernel
theorem dX8_thing_78 : decode cX8_thing 78 = .ok (.getfield 9, 3) := by decide +kernel
theorem dX8_thing_81 : decode cX8_thing 81 = .ok (.iload_n 1, 1) := by decide +kernel
theorem dX8_thing_82 : decode cX8_thing 82 = .ok (.invokestatic 69, 3) := by decide +kernel
theorem dX8_thing_85 : decode cX8_thing 85 = .ok (.ireturn, 1) := by decide +kernel
theorem dX8_thing_86 : decode cX8_thing 86 = .ok (.aload_n 0, 1) := by decide +kernel
theorem dX8_thing_87 : decode cX8_thing 87 = .ok (.getfield 9, 3) := by decide +kernel
theorem dX8_thing_90 : decode cX8_thing 90 = .ok (.iload_n 1, 1) := by decide +kernel
theorem dX8_thing_91 : decode cX8_thing 91 = .ok (.invokestatic 98, 3) := by decide +kernel
theorem dX8_thing_94 : decode cX8_thing 94 = .ok (.ireturn, 1) := by decide +kernel
theorem dX8_thing_95 : decode cX8_thing 95 = .ok (.aload_n 0, 1) := by decide +kernel
theorem dX8_thing_96 : decode cX8_thing 96 = .ok (.bipush (-2), 2) := by decide +kernel
theorem dX8_thing_98 : decode cX8_thing 98 = .ok (.invokevirtual 41, 3) := by decide +kernel
theorem dX8_thing_101 : decode cX8_thing 101 = .ok (.ireturn, 1) := by decide +kernel
theorem dX8_glad_0 : decode cX8_glad 0 = .ok (.aload_n 0, 1) := by decide +kernel
theorem dX8_glad_1 : decode cX8_glad 1 = .ok (.iload_n 1, 1) := by decide +kernel
theorem dX8_glad_2 : decode cX8_glad 2 = .ok (.invokevirtual 101, 3) := by decide +kernel
theorem dX8_glad_5 : decode cX8_glad 5 = .ok (.ifCond .eq 23, 3) := by decide +kernel
theorem dX8_glad_8 : decode cX8_glad 8 = .ok (.iload_n 2, 1) := by decide +kernel
theorem dX8_glad_9 : decode cX8_glad 9 = .ok (.invokestatic 105, 3) := by decide +kernel
theorem dX8_glad_12 : decode cX8_glad 12 = .ok (.ifCond .eq 16, 3) := by decide +kernel
theorem dX8_glad_15 : decode cX8_glad 15 = .ok (.aload_n 0, 1) := by decide +kernel
theorem dX8_glad_16 : decode cX8_glad 16 = .ok (.getfield 9, 3) := by decide +kernel
theorem dX8_glad_19 : decode cX8_glad 19 = .ok (.iload_n 1, 1) := by decide +kernel
theorem dX8_glad_20 : decode cX8_glad 20 = .ok (.iload_n 2, 1) := by decide +kernel
theorem dX8_glad_21 : decode cX8_glad 21 = .ok (.invokestatic 55, 3) := by decide +kernel
theorem dX8_glad_24 : decode cX8_glad 24 = .ok (.iaload, 1) := by decide +kernel
theorem dX8_glad_25 : decode cX8_glad 25 = .ok (.goto 8, 3) := by decide +kernel
theorem dX8_glad_28 : decode cX8_glad 28 = .ok (.aload_n 0, 1) := by decide +kernel
theorem dX8_glad_29 : decode cX8_glad 29 = .ok (.iconst (-1), 1) := by decide +kernel
theorem dX8_glad_30 : decode cX8_glad 30 = .ok (.invokevirtual 41, 3) := by decide +kernel
theorem dX8_glad_33 : decode cX8_glad 33 = .ok (.ireturn, 1) := by decide +kernel
theorem dX8_areTwo_0 : decode cX8_areTwo 0 = .ok (.aload_n 0, 1) := by decide +kernel
theorem dX8_areTwo_1 : decode cX8_areTwo 1 = .ok (.iload_n 1, 1) := by decide +kernel
theorem dX8_areTwo_2 : decode cX8_areTwo 2 = .ok (.invokevirtual 101, 3) := by decide +kernel
theorem dX8_areTwo_5 : decode cX8_areTwo 5 = .ok (.ifCond .eq 20, 3) := by decide +kernel
theorem dX8_areTwo_8 : decode cX8_areTwo 8 = .ok (.aload_n 0, 1) := by decide +kernel
theorem dX8_areTwo_9 : decode cX8_areTwo 9 = .ok (.iload_n 2, 1) := by decide +kernel
theorem dX8_areTwo_10 : decode cX8_areTwo 10 = .ok (.invokevirtual 101, 3) := by decide +kernel
theorem dX8_areTwo_13 : decode cX8_areTwo 13 = .ok (.ifCond .eq 12, 3) := by decide +kernel
theorem dX8_areTwo_16 : decode cX8_areTwo 16 = .ok (.iload_n 1, 1) := by decide +kernel
theorem dX8_areTwo_17 : decode cX8_areTwo 17 = .ok (.iload_n 2, 1) := by decide +kernel
theorem dX8_areTwo_18 : decode cX8_areTwo 18 = .ok (.if_icmp .eq 7, 3) := by decide +kernel
theorem dX8_areTwo_21 : decode cX8_areTwo 21 = .ok (.iconst 1, 1) := by decide +kernel
theorem dX8_areTwo_22 : decode cX8_areTwo 22 = .ok (.goto 4, 3) := by decide +kernel
theorem dX8_areTwo_25 : decode cX8_areTwo 25 = .ok (.iconst 0, 1) := by decide +kernel
theorem dX8_areTwo_26 : decode cX8_areTwo 26 = .ok (.ireturn, 1) := by decide +kernel
theorem dX8_halves_0 : decode cX8_halves 0 = .ok (.aload_n 0, 1) := by decide +kernel
theorem dX8_halves_1 : decode cX8_halves 1 = .ok (.iload_n 1, 1) := by decide +kernel
theorem dX8_halves_2 : decode cX8_halves 2 = .ok (.iload_n 2, 1) := by decide +kernel
theorem dX8_halves_3 : decode cX8_halves 3 = .ok (.invokevirtual 129, 3) := by decide +kernel
theorem dX8_halves_6 : decode cX8_halves 6 = .ok (.ifCond .eq 19, 3) := by decide +kernel
theorem dX8_halves_9 : decode cX8_halves 9 = .ok (.aload_n 0, 1) := by decide +kernel
theorem dX8_halves_10 : decode cX8_halves 10 = .ok (.getfield 9, 3) := by decide +kernel
theorem dX8_halves_13 : decode cX8_halves 13 = .ok (.bipush 124, 2) := by decide +kernel
theorem dX8_halves_15 : decode cX8_halves 15 = .ok (.iload_n 1, 1) := by decide +kernel
theorem dX8_halves_16 : decode cX8_halves 16 = .ok (.iadd, 1) := by decide +kernel
theorem dX8_halves_17 : decode cX8_halves 17 = .ok (.iaload, 1) := by decide +kernel
theorem dX8_halves_18 : decode cX8_halves 18 = .ok (.iload_n 2, 1) := by decide +kernel
theorem dX8_halves_19 : decode cX8_halves 19 = .ok (.ishr, 1) := by decide +kernel
theorem dX8_halves_20 : decode cX8_halves 20 = .ok (.iconst 1, 1) := by decide +kernel
theorem dX8_halves_21 : decode cX8_halves 21 = .ok (.iand, 1) := by decide +kernel
theorem dX8_halves_22 : decode cX8_halves 22 = .ok (.goto 8, 3) := by decide +kernel
theorem dX8_halves_25 : decode cX8_halves 25 = .ok (.aload_n 0, 1) := by decide +kernel
theorem dX8_halves_26 : decode cX8_halves 26 = .ok (.iconst (-1), 1) := by decide +kernel
theorem dX8_halves_27 : decode cX8_halves 27 = .ok (.invokevirtual 41, 3) := by decide +kernel
theorem dX8_halves_30 : decode cX8_halves 30 = .ok (.ireturn, 1) := by decide +kernel
theorem dX8_turn_0 : decode cX8_turn 0 = .ok (.aload_n 0, 1) := by decide +kernel
theorem dX8_turn_1 : decode cX8_turn 1 = .ok (.iload_n 1, 1) := by decide +kernel
theorem dX8_turn_2 : decode cX8_turn 2 = .ok (.invokevirtual 101, 3) := by decide +kernel
theorem dX8_turn_5 : decode cX8_turn 5 = .ok (.ifCond .ne 9, 3) := by decide +kernel
theorem dX8_turn_8 : decode cX8_turn 8 = .ok (.aload_n 0, 1) := by decide +kernel
theorem dX8_turn_9 : decode cX8_turn 9 = .ok (.iconst (-1), 1) := by decide +kernel
theorem dX8_turn_10 : decode cX8_turn 10 = .ok (.invokevirtual 41, 3) := by decide +kernel
theorem dX8_turn_13 : decode cX8_turn 13 = .ok (.ireturn, 1) := by decide +kernel
theorem dX8_turn_14 : decode cX8_turn 14 = .ok (.iload_n 2, 1) := by decide +kernel
theorem dX8_turn_15 : decode cX8_turn 15 = .ok (.iconst 0, 1) := by decide +kernel
theorem dX8_turn_16 : decode cX8_turn 16 = .ok (.iconst 5, 1) := by decide +kernel
theorem dX8_turn_17 : decode cX8_turn 17 = .ok (.invokestatic 47, 3) := by decide +kernel
theorem dX8_turn_20 : decode cX8_turn 20 = .ok (.ifCond .ne 10, 3) := by decide +kernel
theorem dX8_turn_23 : decode cX8_turn 23 = .ok (.aload_n 0, 1) := by decide +kernel
theorem dX8_turn_24 : decode cX8_turn 24 = .ok (.bipush (-2), 2) := by decide +kernel
theorem dX8_turn_26 : decode cX8_turn 26 = .ok (.invokevirtual 41, 3) := by decide +kernel
theorem dX8_turn_29 : decode cX8_turn 29 = .ok (.ireturn, 1) := by decide +kernel
theorem dX8_turn_30 : decode cX8_turn 30 = .ok (.iload_n 3, 1) := by decide +kernel
theorem dX8_turn_31 : decode cX8_turn 31 = .ok (.ifCond .ge 10, 3) := by decide +kernel
theorem dX8_turn_34 : decode cX8_turn 34 = .ok (.aload_n 0, 1) := by decide +kernel
theorem dX8_turn_35 : decode cX8_turn 35 = .ok (.bipush (-4), 2) := by decide +kernel
theorem dX8_turn_37 : decode cX8_turn 37 = .ok (.invokevirtual 41, 3) := by decide +kernel
theorem dX8_turn_40 : decode cX8_turn 40 = .ok (.ireturn, 1) := by decide +kernel
theorem dX8_turn_41 : decode cX8_turn 41 = .ok (.iload_n 3, 1) := by decide +kernel
theorem dX8_turn_42 : decode cX8_turn 42 = .ok (.bipush 9, 2) := by decide +kernel
theorem dX8_turn_44 : decode cX8_turn 44 = .ok (.if_icmp .le 10, 3) := by decide +kernel
theorem dX8_turn_47 : decode cX8_turn 47 = .ok (.aload_n 0, 1) := by decide +kernel
theorem dX8_turn_48 : decode cX8_turn 48 = .ok (.bipush (-6), 2) := by decide +kernel
theorem dX8_turn_50 : decode cX8_turn 50 = .ok (.invokevirtual 41, 3) := by decide +kernel
theorem dX8_turn_53 : decode cX8_turn 53 = .ok (.ireturn, 1) := by decide +kernel
theorem dX8_turn_54 : decode cX8_turn 54 = .ok (.bipush 10, 2) := by decide +kernel
theorem dX8_turn_56 : decode cX8_turn 56 = .ok (.aload_n 0, 1) := by decide +kernel
theorem dX8_turn_57 : decode cX8_turn 57 = .ok (.getfield 9, 3) := by decide +kernel
theorem dX8_turn_60 : decode cX8_turn 60 = .ok (.iconst 4, 1) := by decide +kernel
theorem dX8_turn_61 : decode cX8_turn 61 = .ok (.iload_n 1, 1) := by decide +kernel
theorem dX8_turn_62 : decode cX8_turn 62 = .ok (.iadd, 1) := by decide +kernel
theorem dX8_turn_63 : decode cX8_turn 63 = .ok (.iaload, 1) := by decide +kernel
theorem dX8_turn_64 : decode cX8_turn 64 = .ok (.imul, 1) := by decide +kernel
theorem dX8_turn_65 : decode cX8_turn 65 = .ok (.aload_n 0, 1) := by decide +kernel
theorem dX8_turn_66 : decode cX8_turn 66 = .ok (.getfield 9, 3) := by decide +kernel
theorem dX8_turn_69 : decode cX8_turn 69 = .ok (.bipush 12, 2) := by decide +kernel
theorem dX8_turn_71 : decode cX8_turn 71 = .ok (.iload_n 1, 1) := by decide +kernel
theorem dX8_turn_72 : decode cX8_turn 72 = .ok (.iadd, 1) := by decide +kernel
theorem dX8_turn_73 : decode cX8_turn 73 = .ok (.iaload, 1) := by decide +kernel
theorem dX8_turn_74 : decode cX8_turn 74 = .ok (.iadd, 1) := by decide +kernel
theorem dX8_turn_75 : decode cX8_turn 75 = .ok (.istore 4, 2) := by decide +kernel
theorem dX8_turn_77 : decode cX8_turn 77 = .ok (.aload_n 0, 1) := by decide +kernel
theorem dX8_turn_78 : decode cX8_turn 78 = .ok (.getfield 9, 3) := by decide +kernel
theorem dX8_turn_81 : decode cX8_turn 81 = .ok (.iconst 4, 1) := by decide +kernel
theorem dX8_turn_82 : decode cX8_turn 82 = .ok (.iload_n 1, 1) := by decide +kernel
theorem dX8_turn_83 : decode cX8_turn 83 = .ok (.iadd, 1) := by decide +kernel
theorem dX8_turn_84 : decode cX8_turn 84 = .ok (.iload_n 2, 1) := by decide +kernel
theorem dX8_turn_85 : decode cX8_turn 85 = .ok (.iastore, 1) := by decide +kernel
theorem dX8_turn_86 : decode cX8_turn 86 = .ok (.aload_n 0, 1) := by decide +kernel
theorem dX8_turn_87 : decode cX8_turn 87 = .ok (.getfield 9, 3) := by decide +kernel
theorem dX8_turn_90 : decode cX8_turn 90 = .ok (.bipush 12, 2) := by decide +kernel
theorem dX8_turn_92 : decode cX8_turn 92 = .ok (.iload_n 1, 1) := by decide +kernel
theorem dX8_turn_93 : decode cX8_turn 93 = .ok (.iadd, 1) := by decide +kernel
theorem dX8_turn_94 : decode cX8_turn 94 = .ok (.iload_n 3, 1) := by decide +kernel
theorem dX8_turn_95 : decode cX8_turn 95 = .ok (.iastore, 1) := by decide +kernel
theorem dX8_turn_96 : decode cX8_turn 96 = .ok (.iload 4, 2) := by decide +kernel
theorem dX8_turn_98 : decode cX8_turn 98 = .ok (.ireturn, 1) := by decide +kernel
theorem dX8_makes_0 : decode cX8_makes 0 = .ok (.aload_n 0, 1) := by decide +kernel
theorem dX8_makes_1 : decode cX8_makes 1 = .ok (.iload_n 1, 1) := by decide +kernel
theorem dX8_makes_2 : decode cX8_makes 2 = .ok (.invokevirtual 101, 3) := by decide +kernel
theorem dX8_makes_5 : decode cX8_makes 5 = .ok (.ifCond .eq 10, 3) := by decide +kernel
theorem dX8_makes_8 : decode cX8_makes 8 = .ok (.iload_n 2, 1) := by decide +kernel
theorem dX8_makes_9 : decode cX8_makes 9 = .ok (.invokestatic 105, 3) := by decide +kernel
theorem dX8_makes_12 : decode cX8_makes 12 = .ok (.ifCond .ne 9, 3) := by decide +kernel
theorem dX8_makes_15 : decode cX8_makes 15 = .ok (.aload_n 0, 1) := by decide +kernel
theorem dX8_makes_16 : decode cX8_makes 16 = .ok (.iconst (-1), 1) := by decide +kernel
theorem dX8_makes_17 : decode cX8_makes 17 = .ok (.invokevirtual 41, 3) := by decide +kernel
theorem dX8_makes_20 : decode cX8_makes 20 = .ok (.ireturn, 1) := by decide +kernel
theorem dX8_makes_21 : decode cX8_makes 21 = .ok (.iload_n 3, 1) := by decide +kernel
theorem dX8_makes_22 : decode cX8_makes 22 = .ok (.ifCond .ge 10, 3) := by decide +kernel
theorem dX8_makes_25 : decode cX8_makes 25 = .ok (.aload_n 0, 1) := by decide +kernel
theorem dX8_makes_26 : decode cX8_makes 26 = .ok (.bipush (-4), 2) := by decide +kernel
theorem dX8_makes_28 : decode cX8_makes 28 = .ok (.invokevirtual 41, 3) := by decide +kernel
theorem dX8_makes_31 : decode cX8_makes 31 = .ok (.ireturn, 1) := by decide +kernel
theorem dX8_makes_32 : decode cX8_makes 32 = .ok (.iload_n 3, 1) := by decide +kernel
theorem dX8_makes_33 : decode cX8_makes 33 = .ok (.bipush 99, 2) := by decide +kernel
theorem dX8_makes_35 : decode cX8_makes 35 = .ok (.if_icmp .le 10, 3) := by decide +kernel
theorem dX8_makes_38 : decode cX8_makes 38 = .ok (.aload_n 0, 1) := by decide +kernel
theorem dX8_makes_39 : decode cX8_makes 39 = .ok (.bipush (-6), 2) := by decide +kernel
theorem dX8_makes_41 : decode cX8_makes 41 = .ok (.invokevirtual 41, 3) := by decide +kernel
theorem dX8_makes_44 : decode cX8_makes 44 = .ok (.ireturn, 1) := by decide +kernel
theorem dX8_makes_45 : decode cX8_makes 45 = .ok (.aload_n 0, 1) := by decide +kernel
theorem dX8_makes_46 : decode cX8_makes 46 = .ok (.getfield 9, 3) := by decide +kernel
theorem dX8_makes_49 : decode cX8_makes 49 = .ok (.iload_n 1, 1) := by decide +kernel
theorem dX8_makes_50 : decode cX8_makes 50 = .ok (.iload_n 2, 1) := by decide +kernel
theorem dX8_makes_51 : decode cX8_makes 51 = .ok (.invokestatic 55, 3) := by decide +kernel
theorem dX8_makes_54 : decode cX8_makes 54 = .ok (.iaload, 1) := by decide +kernel
theorem dX8_makes_55 : decode cX8_makes 55 = .ok (.istore 4, 2) := by decide +kernel
theorem dX8_makes_57 : decode cX8_makes 57 = .ok (.aload_n 0, 1) := by decide +kernel
theorem dX8_makes_58 : decode cX8_makes 58 = .ok (.getfield 9, 3) := by decide +kernel
theorem dX8_makes_61 : decode cX8_makes 61 = .ok (.iload_n 1, 1) := by decide +kernel
theorem dX8_makes_62 : decode cX8_makes 62 = .ok (.iload_n 2, 1) := by decide +kernel
theorem dX8_makes_63 : decode cX8_makes 63 = .ok (.invokestatic 55, 3) := by decide +kernel
theorem dX8_makes_66 : decode cX8_makes 66 = .ok (.iload_n 3, 1) := by decide +kernel
theorem dX8_makes_67 : decode cX8_makes 67 = .ok (.iastore, 1) := by decide +kernel
theorem dX8_makes_68 : decode cX8_makes 68 = .ok (.iload 4, 2) := by decide +kernel
theorem dX8_makes_70 : decode cX8_makes 70 = .ok (.ireturn, 1) := by decide +kernel
theorem dX8_pairs_0 : decode cX8_pairs 0 = .ok (.aload_n 0, 1) := by decide +kernel
theorem dX8_pairs_1 : decode cX8_pairs 1 = .ok (.iload_n 1, 1) := by decide +kernel
theorem dX8_pairs_2 : decode cX8_pairs 2 = .ok (.iload_n 2, 1) := by decide +kernel
theorem dX8_pairs_3 : decode cX8_pairs 3 = .ok (.invokevirtual 129, 3) := by decide +kernel
theorem dX8_pairs_6 : decode cX8_pairs 6 = .ok (.ifCond .ne 9, 3) := by decide +kernel
theorem dX8_pairs_9 : decode cX8_pairs 9 = .ok (.aload_n 0, 1) := by decide +kernel
theorem dX8_pairs_10 : decode cX8_pairs 10 = .ok (.iconst (-1), 1) := by decide +kernel
theorem dX8_pairs_11 : decode cX8_pairs 11 = .ok (.invokevirtual 41, 3) := by decide +kernel
theorem dX8_pairs_14 : decode cX8_pairs 14 = .ok (.ireturn, 1) := by decide +kernel
theorem dX8_pairs_15 : decode cX8_pairs 15 = .ok (.aload_n 0, 1) := by decide +kernel
theorem dX8_pairs_16 : decode cX8_pairs 16 = .ok (.iload_n 1, 1) := by decide +kernel
theorem dX8_pairs_17 : decode cX8_pairs 17 = .ok (.iload_n 2, 1) := by decide +kernel
theorem dX8_pairs_18 : decode cX8_pairs 18 = .ok (.invokevirtual 108, 3) := by decide +kernel
theorem dX8_pairs_21 : decode cX8_pairs 21 = .ok (.aload_n 0, 1) := by decide +kernel
theorem dX8_pairs_22 : decode cX8_pairs 22 = .ok (.getfield 9, 3) := by decide +kernel
theorem dX8_pairs_25 : decode cX8_pairs 25 = .ok (.bipush 124, 2) := by decide +kernel
theorem dX8_pairs_27 : decode cX8_pairs 27 = .ok (.iload_n 1, 1) := by decide +kernel
theorem dX8_pairs_28 : decode cX8_pairs 28 = .ok (.iadd, 1) := by decide +kernel
theorem dX8_pairs_29 : decode cX8_pairs 29 = .ok (.iaload, 1) := by decide +kernel
theorem dX8_pairs_30 : decode cX8_pairs 30 = .ok (.iload_n 2, 1) := by decide +kernel
theorem dX8_pairs_31 : decode cX8_pairs 31 = .ok (.ishr, 1) := by decide +kernel
theorem dX8_pairs_32 : decode cX8_pairs 32 = .ok (.iconst 1, 1) := by decide +kernel
theorem dX8_pairs_33 : decode cX8_pairs 33 = .ok (.iand, 1) := by decide +kernel
theorem dX8_pairs_34 : decode cX8_pairs 34 = .ok (.ireturn, 1) := by decide +kernel
theorem dX8_now_0 : decode cX8_now 0 = .ok (.iload_n 1, 1) := by decide +kernel
theorem dX8_now_1 : decode cX8_now 1 = .ok (.invokestatic 105, 3) := by decide +kernel
theorem dX8_now_4 : decode cX8_now 4 = .ok (.ifCond .ne 9, 3) := by decide +kernel
theorem dX8_now_7 : decode cX8_now 7 = .ok (.aload_n 0, 1) := by decide +kernel
theorem dX8_now_8 : decode cX8_now 8 = .ok (.iconst (-1), 1) := by decide +kernel
theorem dX8_now_9 : decode cX8_now 9 = .ok (.invokevirtual 41, 3) := by decide +kernel
theorem dX8_now_12 : decode cX8_now 12 = .ok (.ireturn, 1) := by decide +kernel
theorem dX8_now_13 : decode cX8_now 13 = .ok (.aload_n 0, 1) := by decide +kernel
theorem dX8_now_14 : decode cX8_now 14 = .ok (.getfield 9, 3) := by decide +kernel
theorem dX8_now_17 : decode cX8_now 17 = .ok (.iconst 1, 1) := by decide +kernel
theorem dX8_now_18 : decode cX8_now 18 = .ok (.iaload, 1) := by decide +kernel
theorem dX8_now_19 : decode cX8_now 19 = .ok (.istore_n 2, 1) := by decide +kernel
theorem dX8_now_20 : decode cX8_now 20 = .ok (.aload_n 0, 1) := by decide +kernel
theorem dX8_now_21 : decode cX8_now 21 = .ok (.getfield 9, 3) := by decide +kernel
theorem dX8_now_24 : decode cX8_now 24 = .ok (.iconst 1, 1) := by decide +kernel
theorem dX8_now_25 : decode cX8_now 25 = .ok (.iload_n 1, 1) := by decide +kernel
theorem dX8_now_26 : decode cX8_now 26 = .ok (.iastore, 1) := by decide +kernel
theorem dX8_now_27 : decode cX8_now 27 = .ok (.iload_n 2, 1) := by decide +kernel
theorem dX8_now_28 : decode cX8_now 28 = .ok (.ireturn, 1) := by decide +kernel
theorem dX8_hands_0 : decode cX8_hands 0 = .ok (.iload_n 1, 1) := by decide +kernel
theorem dX8_hands_1 : decode cX8_hands 1 = .ok (.iconst 1, 1) := by decide +kernel
theorem dX8_hands_2 : decode cX8_hands 2 = .ok (.if_icmp .ge 10, 3) := by decide +kernel
theorem dX8_hands_5 : decode cX8_hands 5 = .ok (.aload_n 0, 1) := by decide +kernel
theorem dX8_hands_6 : decode cX8_hands 6 = .ok (.bipush (-4), 2) := by decide +kernel
theorem dX8_hands_8 : decode cX8_hands 8 = .ok (.invokevirtual 41, 3) := by decide +kernel
theorem dX8_hands_11 : decode cX8_hands 11 = .ok (.ireturn, 1) := by decide +kernel
theorem dX8_hands_12 : decode cX8_hands 12 = .ok (.iload_n 1, 1) := by decide +kernel
theorem dX8_hands_13 : decode cX8_hands 13 = .ok (.iconst 4, 1) := by decide +kernel
theorem dX8_hands_14 : decode cX8_hands 14 = .ok (.if_icmp .le 10, 3) := by decide +kernel
theorem dX8_hands_17 : decode cX8_hands 17 = .ok (.aload_n 0, 1) := by decide +kernel
theorem dX8_hands_18 : decode cX8_hands 18 = .ok (.bipush (-6), 2) := by decide +kernel
theorem dX8_hands_20 : decode cX8_hands 20 = .ok (.invokevirtual 41, 3) := by decide +kernel
theorem dX8_hands_23 : decode cX8_hands 23 = .ok (.ireturn, 1) := by decide +kernel
theorem dX8_hands_24 : decode cX8_hands 24 = .ok (.aload_n 0, 1) := by decide +kernel
theorem dX8_hands_25 : decode cX8_hands 25 = .ok (.getfield 9, 3) := by decide +kernel
theorem dX8_hands_28 : decode cX8_hands 28 = .ok (.iconst 3, 1) := by decide +kernel
theorem dX8_hands_29 : decode cX8_hands 29 = .ok (.iaload, 1) := by decide +kernel
theorem dX8_hands_30 : decode cX8_hands 30 = .ok (.istore_n 2, 1) := by decide +kernel
theorem dX8_hands_31 : decode cX8_hands 31 = .ok (.aload_n 0, 1) := by decide +kernel
theorem dX8_hands_32 : decode cX8_hands 32 = .ok (.getfield 9, 3) := by decide +kernel
theorem dX8_hands_35 : decode cX8_hands 35 = .ok (.iconst 3, 1) := by decide +kernel
theorem dX8_hands_36 : decode cX8_hands 36 = .ok (.iload_n 1, 1) := by decide +kernel
theorem dX8_hands_37 : decode cX8_hands 37 = .ok (.iastore, 1) := by decide +kernel
theorem dX8_hands_38 : decode cX8_hands 38 = .ok (.iload_n 2, 1) := by decide +kernel
theorem dX8_hands_39 : decode cX8_hands 39 = .ok (.ireturn, 1) := by decide +kernel
theorem dX8_pours_0 : decode cX8_pours 0 = .ok (.iload_n 1, 1) := by decide +kernel
theorem dX8_pours_1 : decode cX8_pours 1 = .ok (.ifCond .ge 10, 3) := by decide +kernel
theorem dX8_pours_4 : decode cX8_pours 4 = .ok (.aload_n 0, 1) := by decide +kernel
theorem dX8_pours_5 : decode cX8_pours 5 = .ok (.bipush (-4), 2) := by decide +kernel
theorem dX8_pours_7 : decode cX8_pours 7 = .ok (.invokevirtual 41, 3) := by decide +kernel
theorem dX8_pours_10 : decode cX8_pours 10 = .ok (.ireturn, 1) := by decide +kernel
theorem dX8_pours_11 : decode cX8_pours 11 = .ok (.iload_n 1, 1) := by decide +kernel
theorem dX8_pours_12 : decode cX8_pours 12 = .ok (.bipush 99, 2) := by decide +kernel
theorem dX8_pours_14 : decode cX8_pours 14 = .ok (.if_icmp .le 10, 3) := by decide +kernel
theorem dX8_pours_17 : decode cX8_pours 17 = .ok (.aload_n 0, 1) := by decide +kernel
theorem dX8_pours_18 : decode cX8_pours 18 = .ok (.bipush (-6), 2) := by decide +kernel
theorem dX8_pours_20 : decode cX8_pours 20 = .ok (.invokevirtual 41, 3) := by decide +kernel
theorem dX8_pours_23 : decode cX8_pours 23 = .ok (.ireturn, 1) := by decide +kernel
theorem dX8_pours_24 : decode cX8_pours 24 = .ok (.aload_n 0, 1) := by decide +kernel
theorem dX8_pours_25 : decode cX8_pours 25 = .ok (.getfield 9, 3) := by decide +kernel
theorem dX8_pours_28 : decode cX8_pours 28 = .ok (.iconst 2, 1) := by decide +kernel
theorem dX8_pours_29 : decode cX8_pours 29 = .ok (.iaload, 1) := by decide +kernel
theorem dX8_pours_30 : decode cX8_pours 30 = .ok (.istore_n 2, 1) := by decide +kernel
theorem dX8_pours_31 : decode cX8_pours 31 = .ok (.aload_n 0, 1) := by decide +kernel
theorem dX8_pours_32 : decode cX8_pours 32 = .ok (.getfield 9, 3) := by decide +kernel
theorem dX8_pours_35 : decode cX8_pours 35 = .ok (.iconst 2, 1) := by decide +kernel
theorem dX8_pours_36 : decode cX8_pours 36 = .ok (.iload_n 1, 1) := by decide +kernel
theorem dX8_pours_37 : decode cX8_pours 37 = .ok (.iastore, 1) := by decide +kernel
theorem dX8_pours_38 : decode cX8_pours 38 = .ok (.iload_n 2, 1) := by decide +kernel
theorem dX8_pours_39 : decode cX8_pours 39 = .ok (.ireturn, 1) := by decide +kernel
theorem dX8_wrongGlue_0 : decode cX8_wrongGlue 0 = .ok (.aload_n 0, 1) := by decide +kernel
theorem dX8_wrongGlue_1 : decode cX8_wrongGlue 1 = .ok (.iload_n 1, 1) := by decide +kernel
theorem dX8_wrongGlue_2 : decode cX8_wrongGlue 2 = .ok (.invokevirtual 101, 3) := by decide +kernel
theorem dX8_wrongGlue_5 : decode cX8_wrongGlue 5 = .ok (.ifCond .ne 7, 3) := by decide +kernel
theorem dX8_wrongGlue_8 : decode cX8_wrongGlue 8 = .ok (.iconst (-1), 1) := by decide +kernel
theorem dX8_wrongGlue_9 : decode cX8_wrongGlue 9 = .ok (.goto 34, 3) := by decide +kernel
theorem dX8_wrongGlue_12 : decode cX8_wrongGlue 12 = .ok (.iload_n 2, 1) := by decide +kernel
theorem dX8_wrongGlue_13 : decode cX8_wrongGlue 13 = .ok (.ifCond .lt 7, 3) := by decide +kernel
theorem dX8_wrongGlue_16 : decode cX8_wrongGlue 16 = .ok (.iload_n 3, 1) := by decide +kernel
theorem dX8_wrongGlue_17 : decode cX8_wrongGlue 17 = .ok (.ifCond .ge 8, 3) := by decide +kernel
theorem dX8_wrongGlue_20 : decode cX8_wrongGlue 20 = .ok (.bipush (-4), 2) := by decide +kernel
theorem dX8_wrongGlue_22 : decode cX8_wrongGlue 22 = .ok (.goto 21, 3) := by decide +kernel
theorem dX8_wrongGlue_25 : decode cX8_wrongGlue 25 = .ok (.iload_n 2, 1) := by decide +kernel
theorem dX8_wrongGlue_26 : decode cX8_wrongGlue 26 = .ok (.bipush 99, 2) := by decide +kernel
theorem dX8_wrongGlue_28 : decode cX8_wrongGlue 28 = .ok (.if_icmp .gt 9, 3) := by decide +kernel
theorem dX8_wrongGlue_31 : decode cX8_wrongGlue 31 = .ok (.iload_n 3, 1) := by decide +kernel
theorem dX8_wrongGlue_32 : decode cX8_wrongGlue 32 = .ok (.bipush 9, 2) := by decide +kernel
theorem dX8_wrongGlue_34 : decode cX8_wrongGlue 34 = .ok (.if_icmp .le 8, 3) := by decide +kernel
theorem dX8_wrongGlue_37 : decode cX8_wrongGlue 37 = .ok (.bipush (-6), 2) := by decide +kernel
theorem dX8_wrongGlue_39 : decode cX8_wrongGlue 39 = .ok (.goto 4, 3) := by decide +kernel
theorem dX8_wrongGlue_42 : decode cX8_wrongGlue 42 = .ok (.iconst 0, 1) := by decide +kernel
theorem dX8_wrongGlue_43 : decode cX8_wrongGlue 43 = .ok (.ireturn, 1) := by decide +kernel
theorem dX8_glues_0 : decode cX8_glues 0 = .ok (.aload_n 0, 1) := by decide +kernel
theorem dX8_glues_1 : decode cX8_glues 1 = .ok (.iload_n 1, 1) := by decide +kernel
theorem dX8_glues_2 : decode cX8_glues 2 = .ok (.iload_n 2, 1) := by decide +kernel
theorem dX8_glues_3 : decode cX8_glues 3 = .ok (.iload_n 3, 1) := by decide +kernel
theorem dX8_glues_4 : decode cX8_glues 4 = .ok (.invokevirtual 132, 3) := by decide +kernel
theorem dX8_glues_7 : decode cX8_glues 7 = .ok (.istore 4, 2) := by decide +kernel
theorem dX8_glues_9 : decode cX8_glues 9 = .ok (.iload 4, 2) := by decide +kernel
theorem dX8_glues_11 : decode cX8_glues 11 = .ok (.ifCond .ne 15, 3) := by decide +kernel
theorem dX8_glues_14 : decode cX8_glues 14 = .ok (.aload_n 0, 1) := by decide +kernel
theorem dX8_glues_15 : decode cX8_glues 15 = .ok (.iload_n 1, 1) := by decide +kernel
theorem dX8_glues_16 : decode cX8_glues 16 = .ok (.invokevirtual 112, 3) := by decide +kernel
theorem dX8_glues_19 : decode cX8_glues 19 = .ok (.ifCond .ne 7, 3) := by decide +kernel
theorem dX8_glues_22 : decode cX8_glues 22 = .ok (.bipush (-3), 2) := by decide +kernel
theorem dX8_glues_24 : decode cX8_glues 24 = .ok (.istore 4, 2) := by decide +kernel
theorem dX8_glues_26 : decode cX8_glues 26 = .ok (.iload 4, 2) := by decide +kernel
theorem dX8_glues_28 : decode cX8_glues 28 = .ok (.ifCond .eq 12, 3) := by decide +kernel
theorem dX8_glues_31 : decode cX8_glues 31 = .ok (.aload_n 0, 1) := by decide +kernel
theorem dX8_glues_32 : decode cX8_glues 32 = .ok (.iload 4, 2) := by decide +kernel
theorem dX8_glues_34 : decode cX8_glues 34 = .ok (.invokevirtual 41, 3) := by decide +kernel
theorem dX8_glues_37 : decode cX8_glues 37 = .ok (.goto 10, 3) := by decide +kernel
theorem dX8_glues_40 : decode cX8_glues 40 = .ok (.aload_n 0, 1) := by decide +kernel
theorem dX8_glues_41 : decode cX8_glues 41 = .ok (.iload_n 1, 1) := by decide +kernel
theorem dX8_glues_42 : decode cX8_glues 42 = .ok (.iload_n 2, 1) := by decide +kernel
theorem dX8_glues_43 : decode cX8_glues 43 = .ok (.iload_n 3, 1) := by decide +kernel
theorem dX8_glues_44 : decode cX8_glues 44 = .ok (.invokevirtual 115, 3) := by decide +kernel
theorem dX8_glues_47 : decode cX8_glues 47 = .ok (.ireturn, 1) := by decide +kernel
theorem dX8_washes_0 : decode cX8_washes 0 = .ok (.aload_n 0, 1) := by decide +kernel
theorem dX8_washes_1 : decode cX8_washes 1 = .ok (.iload_n 1, 1) := by decide +kernel
theorem dX8_washes_2 : decode cX8_washes 2 = .ok (.invokevirtual 101, 3) := by decide +kernel
theorem dX8_washes_5 : decode cX8_washes 5 = .ok (.ifCond .ne 9, 3) := by decide +kernel
theorem dX8_washes_8 : decode cX8_washes 8 = .ok (.aload_n 0, 1) := by decide +kernel
theorem dX8_washes_9 : decode cX8_washes 9 = .ok (.iconst (-1), 1) := by decide +kernel
theorem dX8_washes_10 : decode cX8_washes 10 = .ok (.invokevirtual 41, 3) := by decide +kernel
theorem dX8_washes_13 : decode cX8_washes 13 = .ok (.ireturn, 1) := by decide +kernel
theorem dX8_washes_14 : decode cX8_washes 14 = .ok (.aload_n 0, 1) := by decide +kernel
theorem dX8_washes_15 : decode cX8_washes 15 = .ok (.getfield 9, 3) := by decide +kernel
theorem dX8_washes_18 : decode cX8_washes 18 = .ok (.bipush 20, 2) := by decide +kernel
theorem dX8_washes_20 : decode cX8_washes 20 = .ok (.iload_n 1, 1) := by decide +kernel
theorem dX8_washes_21 : decode cX8_washes 21 = .ok (.iadd, 1) := by decide +kernel
theorem dX8_washes_22 : decode cX8_washes 22 = .ok (.iaload, 1) := by decide +kernel
theorem dX8_washes_23 : decode cX8_washes 23 = .ok (.istore_n 2, 1) := by decide +kernel
theorem dX8_washes_24 : decode cX8_washes 24 = .ok (.iload_n 2, 1) := by decide +kernel
theorem dX8_washes_25 : decode cX8_washes 25 = .ok (.ifCond .ge 10, 3) := by decide +kernel
theorem dX8_washes_28 : decode cX8_washes 28 = .ok (.aload_n 0, 1) := by decide +kernel
theorem dX8_washes_29 : decode cX8_washes 29 = .ok (.bipush (-3), 2) := by decide +kernel
theorem dX8_washes_31 : decode cX8_washes 31 = .ok (.invokevirtual 41, 3) := by decide +kernel
theorem dX8_washes_34 : decode cX8_washes 34 = .ok (.ireturn, 1) := by decide +kernel
theorem dX8_washes_35 : decode cX8_washes 35 = .ok (.aload_n 0, 1) := by decide +kernel
theorem dX8_washes_36 : decode cX8_washes 36 = .ok (.getfield 9, 3) := by decide +kernel
theorem dX8_washes_39 : decode cX8_washes 39 = .ok (.bipush 20, 2) := by decide +kernel
theorem dX8_washes_41 : decode cX8_washes 41 = .ok (.iload_n 1, 1) := by decide +kernel
theorem dX8_washes_42 : decode cX8_washes 42 = .ok (.iadd, 1) := by decide +kernel
theorem dX8_washes_43 : decode cX8_washes 43 = .ok (.bipush (-9), 2) := by decide +kernel
theorem dX8_washes_45 : decode cX8_washes 45 = .ok (.iastore, 1) := by decide +kernel
theorem dX8_washes_46 : decode cX8_washes 46 = .ok (.iload_n 2, 1) := by decide +kernel
theorem dX8_washes_47 : decode cX8_washes 47 = .ok (.ireturn, 1) := by decide +kernel
theorem dX8_would_0 : decode cX8_would 0 = .ok (.aload_n 0, 1) := by decide +kernel
theorem dX8_would_1 : decode cX8_would 1 = .ok (.iload_n 1, 1) := by decide +kernel
theorem dX8_would_2 : decode cX8_would 2 = .ok (.iload_n 2, 1) := by decide +kernel
theorem dX8_would_3 : decode cX8_would 3 = .ok (.iload_n 3, 1) := by decide +kernel
theorem dX8_would_4 : decode cX8_would 4 = .ok (.invokevirtual 132, 3) := by decide +kernel
theorem dX8_would_7 : decode cX8_would 7 = .ok (.istore 5, 2) := by decide +kernel
theorem dX8_would_9 : decode cX8_would 9 = .ok (.iload 5, 2) := by decide +kernel
theorem dX8_would_11 : decode cX8_would 11 = .ok (.ifCond .ne 17, 3) := by decide +kernel
theorem dX8_would_14 : decode cX8_would 14 = .ok (.iload 4, 2) := by decide +kernel
theorem dX8_would_16 : decode cX8_would 16 = .ok (.iconst 0, 1) := by decide +kernel
theorem dX8_would_17 : decode cX8_would 17 = .ok (.iconst 2, 1) := by decide +kernel
theorem dX8_would_18 : decode cX8_would 18 = .ok (.invokestatic 47, 3) := by decide +kernel
theorem dX8_would_21 : decode cX8_would 21 = .ok (.ifCond .ne 7, 3) := by decide +kernel
theorem dX8_would_24 : decode cX8_would 24 = .ok (.bipush (-2), 2) := by decide +kernel
theorem dX8_would_26 : decode cX8_would 26 = .ok (.istore 5, 2) := by decide +kernel
theorem dX8_would_28 : decode cX8_would 28 = .ok (.iload 5, 2) := by decide +kernel
theorem dX8_would_30 : decode cX8_would 30 = .ok (.ifCond .eq 10, 3) := by decide +kernel
theorem dX8_would_33 : decode cX8_would 33 = .ok (.aload_n 0, 1) := by decide +kernel
theorem dX8_would_34 : decode cX8_would 34 = .ok (.iload 5, 2) := by decide +kernel
theorem dX8_would_36 : decode cX8_would 36 = .ok (.invokevirtual 41, 3) := by decide +kernel
theorem dX8_would_39 : decode cX8_would 39 = .ok (.ireturn, 1) := by decide +kernel
theorem dX8_would_40 : decode cX8_would 40 = .ok (.aload_n 0, 1) := by decide +kernel
theorem dX8_would_41 : decode cX8_would 41 = .ok (.getfield 9, 3) := by decide +kernel
theorem dX8_would_44 : decode cX8_would 44 = .ok (.iload_n 1, 1) := by decide +kernel
theorem dX8_would_45 : decode cX8_would 45 = .ok (.iload_n 2, 1) := by decide +kernel
theorem dX8_would_46 : decode cX8_would 46 = .ok (.iload_n 3, 1) := by decide +kernel
theorem dX8_would_47 : decode cX8_would 47 = .ok (.invokestatic 73, 3) := by decide +kernel
theorem dX8_would_50 : decode cX8_would 50 = .ok (.istore 6, 2) := by decide +kernel
theorem dX8_would_52 : decode cX8_would 52 = .ok (.iload 4, 2) := by decide +kernel
theorem dX8_would_54 : decode cX8_would 54 = .ok (.ifCond .ne 8, 3) := by decide +kernel
theorem dX8_would_57 : decode cX8_would 57 = .ok (.iload 6, 2) := by decide +kernel
theorem dX8_would_59 : decode cX8_would 59 = .ok (.goto 33, 3) := by decide +kernel
theorem dX8_would_62 : decode cX8_would 62 = .ok (.iload 4, 2) := by decide +kernel
theorem dX8_would_64 : decode cX8_would 64 = .ok (.iconst 1, 1) := by decide +kernel
theorem dX8_would_65 : decode cX8_would 65 = .ok (.if_icmp .ne 16, 3) := by decide +kernel
theorem dX8_would_68 : decode cX8_would 68 = .ok (.aload_n 0, 1) := by decide +kernel
theorem dX8_would_69 : decode cX8_would 69 = .ok (.getfield 9, 3) := by decide +kernel
theorem dX8_would_72 : decode cX8_would 72 = .ok (.iload_n 1, 1) := by decide +kernel
theorem dX8_would_73 : decode cX8_would 73 = .ok (.iload_n 2, 1) := by decide +kernel
theorem dX8_would_74 : decode cX8_would 74 = .ok (.iload_n 3, 1) := by decide +kernel
theorem dX8_would_75 : decode cX8_would 75 = .ok (.invokestatic 62, 3) := by decide +kernel
theorem dX8_would_78 : decode cX8_would 78 = .ok (.goto 14, 3) := by decide +kernel
theorem dX8_would_81 : decode cX8_would 81 = .ok (.aload_n 0, 1) := by decide +kernel
theorem dX8_would_82 : decode cX8_would 82 = .ok (.getfield 9, 3) := by decide +kernel
theorem dX8_would_85 : decode cX8_would 85 = .ok (.iload_n 1, 1) := by decide +kernel
theorem dX8_would_86 : decode cX8_would 86 = .ok (.iload 6, 2) := by decide +kernel
theorem dX8_would_88 : decode cX8_would 88 = .ok (.invokestatic 55, 3) := by decide +kernel
theorem dX8_would_91 : decode cX8_would 91 = .ok (.iaload, 1) := by decide +kernel
theorem dX8_would_92 : decode cX8_would 92 = .ok (.ireturn, 1) := by decide +kernel
theorem dX8_canOf_0 : decode cX8_canOf 0 = .ok (.iconst 0, 1) := by decide +kernel
theorem dX8_canOf_1 : decode cX8_canOf 1 = .ok (.istore_n 2, 1) := by decide +kernel
theorem dX8_canOf_2 : decode cX8_canOf 2 = .ok (.iconst 0, 1) := by decide +kernel
theorem dX8_canOf_3 : decode cX8_canOf 3 = .ok (.istore_n 3, 1) := by decide +kernel
theorem dX8_canOf_4 : decode cX8_canOf 4 = .ok (.iload_n 3, 1) := by decide +kernel
theorem dX8_canOf_5 : decode cX8_canOf 5 = .ok (.bipush 99, 2) := by decide +kernel
theorem dX8_canOf_7 : decode cX8_canOf 7 = .ok (.if_icmp .gt 21, 3) := by decide +kernel
theorem dX8_canOf_10 : decode cX8_canOf 10 = .ok (.iload_n 2, 1) := by decide +kernel
theorem dX8_canOf_11 : decode cX8_canOf 11 = .ok (.iconst 1, 1) := by decide +kernel
theorem dX8_canOf_12 : decode cX8_canOf 12 = .ok (.aload_n 0, 1) := by decide +kernel
theorem dX8_canOf_13 : decode cX8_canOf 13 = .ok (.iload_n 1, 1) := by decide +kernel
theorem dX8_canOf_14 : decode cX8_canOf 14 = .ok (.iload_n 3, 1) := by decide +kernel
theorem dX8_canOf_15 : decode cX8_canOf 15 = .ok (.iconst 0, 1) := by decide +kernel
theorem dX8_canOf_16 : decode cX8_canOf 16 = .ok (.invokestatic 73, 3) := by decide +kernel
theorem dX8_canOf_19 : decode cX8_canOf 19 = .ok (.ishl, 1) := by decide +kernel
theorem dX8_canOf_20 : decode cX8_canOf 20 = .ok (.ior, 1) := by decide +kernel
theorem dX8_canOf_21 : decode cX8_canOf 21 = .ok (.istore_n 2, 1) := by decide +kernel
theorem dX8_canOf_22 : decode cX8_canOf 22 = .ok (.iinc 3 5, 3) := by decide +kernel
theorem dX8_canOf_25 : decode cX8_canOf 25 = .ok (.goto (-21), 3) := by decide +kernel
theorem dX8_canOf_28 : decode cX8_canOf 28 = .ok (.iload_n 2, 1) := by decide +kernel
theorem dX8_canOf_29 : decode cX8_canOf 29 = .ok (.ireturn, 1) := by decide +kernel
theorem dX8_can_0 : decode cX8_can 0 = .ok (.aload_n 0, 1) := by decide +kernel
theorem dX8_can_1 : decode cX8_can 1 = .ok (.iload_n 1, 1) := by decide +kernel
theorem dX8_can_2 : decode cX8_can 2 = .ok (.invokevirtual 101, 3) := by decide +kernel
theorem dX8_can_5 : decode cX8_can 5 = .ok (.ifCond .eq 14, 3) := by decide +kernel
theorem dX8_can_8 : decode cX8_can 8 = .ok (.aload_n 0, 1) := by decide +kernel
theorem dX8_can_9 : decode cX8_can 9 = .ok (.getfield 9, 3) := by decide +kernel
theorem dX8_can_12 : decode cX8_can 12 = .ok (.iload_n 1, 1) := by decide +kernel
theorem dX8_can_13 : decode cX8_can 13 = .ok (.invokestatic 135, 3) := by decide +kernel
theorem dX8_can_16 : decode cX8_can 16 = .ok (.goto 8, 3) := by decide +kernel
theorem dX8_can_19 : decode cX8_can 19 = .ok (.aload_n 0, 1) := by decide +kernel
theorem dX8_can_20 : decode cX8_can 20 = .ok (.iconst (-1), 1) := by decide +kernel
theorem dX8_can_21 : decode cX8_can 21 = .ok (.invokevirtual 41, 3) := by decide +kernel
theorem dX8_can_24 : decode cX8_can 24 = .ok (.ireturn, 1) := by decide +kernel
theorem dX8_fewest_0 : decode cX8_fewest 0 = .ok (.aload_n 0, 1) := by decide +kernel
theorem dX8_fewest_1 : decode cX8_fewest 1 = .ok (.iload_n 1, 1) := by decide +kernel
theorem dX8_fewest_2 : decode cX8_fewest 2 = .ok (.invokevirtual 101, 3) := by decide +kernel
theorem dX8_fewest_5 : decode cX8_fewest 5 = .ok (.ifCond .eq 22, 3) := by decide +kernel
theorem dX8_fewest_8 : decode cX8_fewest 8 = .ok (.iload_n 2, 1) := by decide +kernel
theorem dX8_fewest_9 : decode cX8_fewest 9 = .ok (.invokestatic 105, 3) := by decide +kernel
theorem dX8_fewest_12 : decode cX8_fewest 12 = .ok (.ifCond .eq 15, 3) := by decide +kernel
theorem dX8_fewest_15 : decode cX8_fewest 15 = .ok (.aload_n 0, 1) := by decide +kernel
theorem dX8_fewest_16 : decode cX8_fewest 16 = .ok (.getfield 9, 3) := by decide +kernel
theorem dX8_fewest_19 : decode cX8_fewest 19 = .ok (.iload_n 1, 1) := by decide +kernel
theorem dX8_fewest_20 : decode cX8_fewest 20 = .ok (.iload_n 2, 1) := by decide +kernel
theorem dX8_fewest_21 : decode cX8_fewest 21 = .ok (.invokestatic 138, 3) := by decide +kernel
theorem dX8_fewest_24 : decode cX8_fewest 24 = .ok (.goto 8, 3) := by decide +kernel
theorem dX8_fewest_27 : decode cX8_fewest 27 = .ok (.aload_n 0, 1) := by decide +kernel
theorem dX8_fewest_28 : decode cX8_fewest 28 = .ok (.iconst (-1), 1) := by decide +kernel
theorem dX8_fewest_29 : decode cX8_fewest 29 = .ok (.invokevirtual 41, 3) := by decide +kernel
theorem dX8_fewest_32 : decode cX8_fewest 32 = .ok (.ireturn, 1) := by decide +kernel
theorem dX8_gladness_0 : decode cX8_gladness 0 = .ok (.aload_n 0, 1) := by decide +kernel
theorem dX8_gladness_1 : decode cX8_gladness 1 = .ok (.getfield 9, 3) := by decide +kernel
theorem dX8_gladness_4 : decode cX8_gladness 4 = .ok (.invokestatic 141, 3) := by decide +kernel
theorem dX8_gladness_7 : decode cX8_gladness 7 = .ok (.ireturn, 1) := by decide +kernel
theorem dX8_doAgree_0 : decode cX8_doAgree 0 = .ok (.aload_n 1, 1) := by decide +kernel
theorem dX8_doAgree_1 : decode cX8_doAgree 1 = .ok (.bipush 20, 2) := by decide +kernel
theorem dX8_doAgree_3 : decode cX8_doAgree 3 = .ok (.iload_n 2, 1) := by decide +kernel
theorem dX8_doAgree_4 : decode cX8_doAgree 4 = .ok (.iadd, 1) := by decide +kernel
theorem dX8_doAgree_5 : decode cX8_doAgree 5 = .ok (.iaload, 1) := by decide +kernel
theorem dX8_doAgree_6 : decode cX8_doAgree 6 = .ok (.ifCond .lt 22, 3) := by decide +kernel
theorem dX8_doAgree_9 : decode cX8_doAgree 9 = .ok (.aload_n 1, 1) := by decide +kernel
theorem dX8_doAgree_10 : decode cX8_doAgree 10 = .ok (.bipush 20, 2) := by decide +kernel
theorem dX8_doAgree_12 : decode cX8_doAgree 12 = .ok (.iload_n 2, 1) := by decide +kernel
theorem dX8_doAgree_13 : decode cX8_doAgree 13 = .ok (.iadd, 1) := by decide +kernel
theorem dX8_doAgree_14 : decode cX8_doAgree 14 = .ok (.iaload, 1) := by decide +kernel
theorem dX8_doAgree_15 : decode cX8_doAgree 15 = .ok (.aload_n 1, 1) := by decide +kernel
theorem dX8_doAgree_16 : decode cX8_doAgree 16 = .ok (.bipush 20, 2) := by decide +kernel
theorem dX8_doAgree_18 : decode cX8_doAgree 18 = .ok (.iload_n 3, 1) := by decide +kernel
theorem dX8_doAgree_19 : decode cX8_doAgree 19 = .ok (.iadd, 1) := by decide +kernel
theorem dX8_doAgree_20 : decode cX8_doAgree 20 = .ok (.iaload, 1) := by decide +kernel
theorem dX8_doAgree_21 : decode cX8_doAgree 21 = .ok (.if_icmp .ne 7, 3) := by decide +kernel
theorem dX8_doAgree_24 : decode cX8_doAgree 24 = .ok (.iconst 1, 1) := by decide +kernel
theorem dX8_doAgree_25 : decode cX8_doAgree 25 = .ok (.goto 4, 3) := by decide +kernel
theorem dX8_doAgree_28 : decode cX8_doAgree 28 = .ok (.iconst 0, 1) := by decide +kernel
theorem dX8_doAgree_29 : decode cX8_doAgree 29 = .ok (.ireturn, 1) := by decide +kernel
theorem dX8_agreeMany_0 : decode cX8_agreeMany 0 = .ok (.iconst 0, 1) := by decide +kernel
theorem dX8_agreeMany_1 : decode cX8_agreeMany 1 = .ok (.istore_n 2, 1) := by decide +kernel
theorem dX8_agreeMany_2 : decode cX8_agreeMany 2 = .ok (.iconst 0, 1) := by decide +kernel
theorem dX8_agreeMany_3 : decode cX8_agreeMany 3 = .ok (.istore_n 3, 1) := by decide +kernel
theorem dX8_agreeMany_4 : decode cX8_agreeMany 4 = .ok (.iload_n 3, 1) := by decide +kernel
theorem dX8_agreeMany_5 : decode cX8_agreeMany 5 = .ok (.aload_n 1, 1) := by decide +kernel
theorem dX8_agreeMany_6 : decode cX8_agreeMany 6 = .ok (.iconst 0, 1) := by decide +kernel
theorem dX8_agreeMany_7 : decode cX8_agreeMany 7 = .ok (.iaload, 1) := by decide +kernel
theorem dX8_agreeMany_8 : decode cX8_agreeMany 8 = .ok (.if_icmp .ge 62, 3) := by decide +kernel
theorem dX8_agreeMany_11 : decode cX8_agreeMany 11 = .ok (.iload_n 3, 1) := by decide +kernel
theorem dX8_agreeMany_12 : decode cX8_agreeMany 12 = .ok (.iconst 1, 1) := by decide +kernel
theorem dX8_agreeMany_13 : decode cX8_agreeMany 13 = .ok (.iadd, 1) := by decide +kernel
theorem dX8_agreeMany_14 : decode cX8_agreeMany 14 = .ok (.istore 4, 2) := by decide +kernel
theorem dX8_agreeMany_16 : decode cX8_agreeMany 16 = .ok (.iload 4, 2) := by decide +kernel
theorem dX8_agreeMany_18 : decode cX8_agreeMany 18 = .ok (.aload_n 1, 1) := by decide +kernel
theorem dX8_agreeMany_19 : decode cX8_agreeMany 19 = .ok (.iconst 0, 1) := by decide +kernel
theorem dX8_agreeMany_20 : decode cX8_agreeMany 20 = .ok (.iaload, 1) := by decide +kernel
theorem dX8_agreeMany_21 : decode cX8_agreeMany 21 = .ok (.if_icmp .ge 43, 3) := by decide +kernel
theorem dX8_agreeMany_24 : decode cX8_agreeMany 24 = .ok (.iload_n 2, 1) := by decide +kernel
theorem dX8_agreeMany_25 : decode cX8_agreeMany 25 = .ok (.aload_n 1, 1) := by decide +kernel
theorem dX8_agreeMany_26 : decode cX8_agreeMany 26 = .ok (.bipush 124, 2) := by decide +kernel
theorem dX8_agreeMany_28 : decode cX8_agreeMany 28 = .ok (.iload_n 3, 1) := by decide +kernel
theorem dX8_agreeMany_29 : decode cX8_agreeMany 29 = .ok (.iadd, 1) := by decide +kernel
theorem dX8_agreeMany_30 : decode cX8_agreeMany 30 = .ok (.iaload, 1) := by decide +kernel
theorem dX8_agreeMany_31 : decode cX8_agreeMany 31 = .ok (.iload 4, 2) := by decide +kernel
theorem dX8_agreeMany_33 : decode cX8_agreeMany 33 = .ok (.ishr, 1) := by decide +kernel
theorem dX8_agreeMany_34 : decode cX8_agreeMany 34 = .ok (.iconst 1, 1) := by decide +kernel
theorem dX8_agreeMany_35 : decode cX8_agreeMany 35 = .ok (.iand, 1) := by decide +kernel
theorem dX8_agreeMany_36 : decode cX8_agreeMany 36 = .ok (.iconst 1, 1) := by decide +kernel
theorem dX8_agreeMany_37 : decode cX8_agreeMany 37 = .ok (.if_icmp .ne 18, 3) := by decide +kernel
theorem dX8_agreeMany_40 : decode cX8_agreeMany 40 = .ok (.aload_n 0, 1) := by decide +kernel
theorem dX8_agreeMany_41 : decode cX8_agreeMany 41 = .ok (.aload_n 1, 1) := by decide +kernel
theorem dX8_agreeMany_42 : decode cX8_agreeMany 42 = .ok (.iload_n 3, 1) := by decide +kernel
theorem dX8_agreeMany_43 : decode cX8_agreeMany 43 = .ok (.iload 4, 2) := by decide +kernel
theorem dX8_agreeMany_45 : decode cX8_agreeMany 45 = .ok (.invokevirtual 145, 3) := by decide +kernel
theorem dX8_agreeMany_48 : decode cX8_agreeMany 48 = .ok (.ifCond .eq 7, 3) := by decide +kernel
theorem dX8_agreeMany_51 : decode cX8_agreeMany 51 = .ok (.iconst 1, 1) := by decide +kernel
theorem dX8_agreeMany_52 : decode cX8_agreeMany 52 = .ok (.goto 4, 3) := by decide +kernel
theorem dX8_agreeMany_55 : decode cX8_agreeMany 55 = .ok (.iconst 0, 1) := by decide +kernel
theorem dX8_agreeMany_56 : decode cX8_agreeMany 56 = .ok (.iadd, 1) := by decide +kernel
theorem dX8_agreeMany_57 : decode cX8_agreeMany 57 = .ok (.istore_n 2, 1) := by decide +kernel
theorem dX8_agreeMany_58 : decode cX8_agreeMany 58 = .ok (.iinc 4 1, 3) := by decide +kernel
theorem dX8_agreeMany_61 : decode cX8_agreeMany 61 = .ok (.goto (-45), 3) := by decide +kernel
theorem dX8_agreeMany_64 : decode cX8_agreeMany 64 = .ok (.iinc 3 1, 3) := by decide +kernel
theorem dX8_agreeMany_67 : decode cX8_agreeMany 67 = .ok (.goto (-63), 3) := by decide +kernel
theorem dX8_agreeMany_70 : decode cX8_agreeMany 70 = .ok (.iload_n 2, 1) := by decide +kernel
theorem dX8_agreeMany_71 : decode cX8_agreeMany 71 = .ok (.ireturn, 1) := by decide +kernel
theorem dX8_agree_0 : decode cX8_agree 0 = .ok (.iload_n 1, 1) := by decide +kernel
theorem dX8_agree_1 : decode cX8_agree 1 = .ok (.iconst 0, 1) := by decide +kernel
theorem dX8_agree_2 : decode cX8_agree 2 = .ok (.iconst 1, 1) := by decide +kernel
theorem dX8_agree_3 : decode cX8_agree 3 = .ok (.invokestatic 47, 3) := by decide +kernel
theorem dX8_agree_6 : decode cX8_agree 6 = .ok (.ifCond .ne 10, 3) := by decide +kernel
theorem dX8_agree_9 : decode cX8_agree 9 = .ok (.aload_n 0, 1) := by decide +kernel
theorem dX8_agree_10 : decode cX8_agree 10 = .ok (.bipush (-2), 2) := by decide +kernel
theorem dX8_agree_12 : decode cX8_agree 12 = .ok (.invokevirtual 41, 3) := by decide +kernel
theorem dX8_agree_15 : decode cX8_agree 15 = .ok (.ireturn, 1) := by decide +kernel
theorem dX8_agree_16 : decode cX8_agree 16 = .ok (.iload_n 1, 1) := by decide +kernel
theorem dX8_agree_17 : decode cX8_agree 17 = .ok (.ifCond .ne 12, 3) := by decide +kernel
theorem dX8_agree_20 : decode cX8_agree 20 = .ok (.aload_n 0, 1) := by decide +kernel
theorem dX8_agree_21 : decode cX8_agree 21 = .ok (.aload_n 0, 1) := by decide +kernel
theorem dX8_agree_22 : decode cX8_agree 22 = .ok (.getfield 9, 3) := by decide +kernel
theorem dX8_agree_25 : decode cX8_agree 25 = .ok (.invokevirtual 149, 3) := by decide +kernel
theorem dX8_agree_28 : decode cX8_agree 28 = .ok (.ireturn, 1) := by decide +kernel
theorem dX8_agree_29 : decode cX8_agree 29 = .ok (.iconst 0, 1) := by decide +kernel
theorem dX8_agree_30 : decode cX8_agree 30 = .ok (.istore_n 2, 1) := by decide +kernel
theorem dX8_agree_31 : decode cX8_agree 31 = .ok (.iload_n 2, 1) := by decide +kernel
theorem dX8_agree_32 : decode cX8_agree 32 = .ok (.aload_n 0, 1) := by decide +kernel
theorem dX8_agree_33 : decode cX8_agree 33 = .ok (.getfield 9, 3) := by decide +kernel
theorem dX8_agree_36 : decode cX8_agree 36 = .ok (.iconst 0, 1) := by decide +kernel
theorem dX8_agree_37 : decode cX8_agree 37 = .ok (.iaload, 1) := by decide +kernel
theorem dX8_agree_38 : decode cX8_agree 38 = .ok (.if_icmp .ge 66, 3) := by decide +kernel
theorem dX8_agree_41 : decode cX8_agree 41 = .ok (.iload_n 2, 1) := by decide +kernel
theorem dX8_agree_42 : decode cX8_agree 42 = .ok (.iconst 1, 1) := by decide +kernel
theorem dX8_agree_43 : decode cX8_agree 43 = .ok (.iadd, 1) := by decide +kernel
theorem dX8_agree_44 : decode cX8_agree 44 = .ok (.istore_n 3, 1) := by decide +kernel
theorem dX8_agree_45 : decode cX8_agree 45 = .ok (.iload_n 3, 1) := by decide +kernel
theorem dX8_agree_46 : decode cX8_agree 46 = .ok (.aload_n 0, 1) := by decide +kernel
theorem dX8_agree_47 : decode cX8_agree 47 = .ok (.getfield 9, 3) := by decide +kernel
theorem dX8_agree_50 : decode cX8_agree 50 = .ok (.iconst 0, 1) := by decide +kernel
theorem dX8_agree_51 : decode cX8_agree 51 = .ok (.iaload, 1) := by decide +kernel
theorem dX8_agree_52 : decode cX8_agree 52 = .ok (.if_icmp .ge 46, 3) := by decide +kernel
theorem dX8_agree_55 : decode cX8_agree 55 = .ok (.aload_n 0, 1) := by decide +kernel
theorem dX8_agree_56 : decode cX8_agree 56 = .ok (.getfield 9, 3) := by decide +kernel
theorem dX8_agree_59 : decode cX8_agree 59 = .ok (.bipush 124, 2) := by decide +kernel
theorem dX8_agree_61 : decode cX8_agree 61 = .ok (.iload_n 2, 1) := by decide +kernel
theorem dX8_agree_62 : decode cX8_agree 62 = .ok (.iadd, 1) := by decide +kernel
theorem dX8_agree_63 : decode cX8_agree 63 = .ok (.iaload, 1) := by decide +kernel
theorem dX8_agree_64 : decode cX8_agree 64 = .ok (.iload_n 3, 1) := by decide +kernel
theorem dX8_agree_65 : decode cX8_agree 65 = .ok (.ishr, 1) := by decide +kernel
theorem dX8_agree_66 : decode cX8_agree 66 = .ok (.iconst 1, 1) := by decide +kernel
theorem dX8_agree_67 : decode cX8_agree 67 = .ok (.iand, 1) := by decide +kernel
theorem dX8_agree_68 : decode cX8_agree 68 = .ok (.iconst 1, 1) := by decide +kernel
theorem dX8_agree_69 : decode cX8_agree 69 = .ok (.if_icmp .ne 23, 3) := by decide +kernel
theorem dX8_agree_72 : decode cX8_agree 72 = .ok (.aload_n 0, 1) := by decide +kernel
theorem dX8_agree_73 : decode cX8_agree 73 = .ok (.aload_n 0, 1) := by decide +kernel
theorem dX8_agree_74 : decode cX8_agree 74 = .ok (.getfield 9, 3) := by decide +kernel
theorem dX8_agree_77 : decode cX8_agree 77 = .ok (.iload_n 2, 1) := by decide +kernel
theorem dX8_agree_78 : decode cX8_agree 78 = .ok (.iload_n 3, 1) := by decide +kernel
theorem dX8_agree_79 : decode cX8_agree 79 = .ok (.invokevirtual 145, 3) := by decide +kernel
theorem dX8_agree_82 : decode cX8_agree 82 = .ok (.ifCond .ne 10, 3) := by decide +kernel
theorem dX8_agree_85 : decode cX8_agree 85 = .ok (.bipush 10, 2) := by decide +kernel
theorem dX8_agree_87 : decode cX8_agree 87 = .ok (.iload_n 2, 1) := by decide +kernel
theorem dX8_agree_88 : decode cX8_agree 88 = .ok (.imul, 1) := by decide +kernel
theorem dX8_agree_89 : decode cX8_agree 89 = .ok (.iload_n 3, 1) := by decide +kernel
theorem dX8_agree_90 : decode cX8_agree 90 = .ok (.iadd, 1) := by decide +kernel
theorem dX8_agree_91 : decode cX8_agree 91 = .ok (.ireturn, 1) := by decide +kernel
theorem dX8_agree_92 : decode cX8_agree 92 = .ok (.iinc 3 1, 3) := by decide +kernel
theorem dX8_agree_95 : decode cX8_agree 95 = .ok (.goto (-50), 3) := by decide +kernel
theorem dX8_agree_98 : decode cX8_agree 98 = .ok (.iinc 2 1, 3) := by decide +kernel
theorem dX8_agree_101 : decode cX8_agree 101 = .ok (.goto (-70), 3) := by decide +kernel
theorem dX8_agree_104 : decode cX8_agree 104 = .ok (.bipush (-9), 2) := by decide +kernel
theorem dX8_agree_106 : decode cX8_agree 106 = .ok (.ireturn, 1) := by decide +kernel
theorem dX8_mostBy_0 : decode cX8_mostBy 0 = .ok (.iconst (-1), 1) := by decide +kernel
theorem dX8_mostBy_1 : decode cX8_mostBy 1 = .ok (.istore_n 3, 1) := by decide +kernel
theorem dX8_mostBy_2 : decode cX8_mostBy 2 = .ok (.iconst 0, 1) := by decide +kernel
theorem dX8_mostBy_3 : decode cX8_mostBy 3 = .ok (.istore 4, 2) := by decide +kernel
theorem dX8_mostBy_5 : decode cX8_mostBy 5 = .ok (.iload 4, 2) := by decide +kernel
theorem dX8_mostBy_7 : decode cX8_mostBy 7 = .ok (.iconst 1, 1) := by decide +kernel
theorem dX8_mostBy_8 : decode cX8_mostBy 8 = .ok (.aload_n 1, 1) := by decide +kernel
theorem dX8_mostBy_9 : decode cX8_mostBy 9 = .ok (.iconst 0, 1) := by decide +kernel
theorem dX8_mostBy_10 : decode cX8_mostBy 10 = .ok (.iaload, 1) := by decide +kernel
theorem dX8_mostBy_11 : decode cX8_mostBy 11 = .ok (.ishl, 1) := by decide +kernel
theorem dX8_mostBy_12 : decode cX8_mostBy 12 = .ok (.if_icmp .ge 184, 3) := by decide +kernel
theorem dX8_mostBy_15 : decode cX8_mostBy 15 = .ok (.iload_n 2, 1) := by decide +kernel
theorem dX8_mostBy_16 : decode cX8_mostBy 16 = .ok (.istore 5, 2) := by decide +kernel
theorem dX8_mostBy_18 : decode cX8_mostBy 18 = .ok (.iconst 0, 1) := by decide +kernel
theorem dX8_mostBy_19 : decode cX8_mostBy 19 = .ok (.istore 6, 2) := by decide +kernel
theorem dX8_mostBy_21 : decode cX8_mostBy 21 = .ok (.iconst 1, 1) := by decide +kernel
theorem dX8_mostBy_22 : decode cX8_mostBy 22 = .ok (.istore 7, 2) := by decide +kernel
theorem dX8_mostBy_24 : decode cX8_mostBy 24 = .ok (.iconst 0, 1) := by decide +kernel
theorem dX8_mostBy_25 : decode cX8_mostBy 25 = .ok (.istore 8, 2) := by decide +kernel
theorem dX8_mostBy_27 : decode cX8_mostBy 27 = .ok (.iload 8, 2) := by decide +kernel
theorem dX8_mostBy_29 : decode cX8_mostBy 29 = .ok (.aload_n 1, 1) := by decide +kernel
theorem dX8_mostBy_30 : decode cX8_mostBy 30 = .ok (.iconst 0, 1) := by decide +kernel
theorem dX8_mostBy_31 : decode cX8_mostBy 31 = .ok (.iaload, 1) := by decide +kernel
theorem dX8_mostBy_32 : decode cX8_mostBy 32 = .ok (.if_icmp .ge 130, 3) := by decide +kernel
theorem dX8_mostBy_35 : decode cX8_mostBy 35 = .ok (.iload 4, 2) := by decide +kernel
theorem dX8_mostBy_37 : decode cX8_mostBy 37 = .ok (.iload 8, 2) := by decide +kernel
theorem dX8_mostBy_39 : decode cX8_mostBy 39 = .ok (.ishr, 1) := by decide +kernel
theorem dX8_mostBy_40 : decode cX8_mostBy 40 = .ok (.iconst 1, 1) := by decide +kernel
theorem dX8_mostBy_41 : decode cX8_mostBy 41 = .ok (.iand, 1) := by decide +kernel
theorem dX8_mostBy_42 : decode cX8_mostBy 42 = .ok (.ifCond .ne 17, 3) := by decide +kernel
theorem dX8_mostBy_45 : decode cX8_mostBy 45 = .ok (.iload 6, 2) := by decide +kernel
theorem dX8_mostBy_47 : decode cX8_mostBy 47 = .ok (.aload_n 1, 1) := by decide +kernel
theorem dX8_mostBy_48 : decode cX8_mostBy 48 = .ok (.iload 8, 2) := by decide +kernel
theorem dX8_mostBy_50 : decode cX8_mostBy 50 = .ok (.invokestatic 69, 3) := by decide +kernel
theorem dX8_mostBy_53 : decode cX8_mostBy 53 = .ok (.iadd, 1) := by decide +kernel
theorem dX8_mostBy_54 : decode cX8_mostBy 54 = .ok (.istore 6, 2) := by decide +kernel
theorem dX8_mostBy_56 : decode cX8_mostBy 56 = .ok (.goto 100, 3) := by decide +kernel
theorem dX8_mostBy_59 : decode cX8_mostBy 59 = .ok (.iload 7, 2) := by decide +kernel
theorem dX8_mostBy_61 : decode cX8_mostBy 61 = .ok (.aload_n 1, 1) := by decide +kernel
theorem dX8_mostBy_62 : decode cX8_mostBy 62 = .ok (.bipush 20, 2) := by decide +kernel
theorem dX8_mostBy_64 : decode cX8_mostBy 64 = .ok (.iload 8, 2) := by decide +kernel
theorem dX8_mostBy_66 : decode cX8_mostBy 66 = .ok (.iadd, 1) := by decide +kernel
theorem dX8_mostBy_67 : decode cX8_mostBy 67 = .ok (.iaload, 1) := by decide +kernel
theorem dX8_mostBy_68 : decode cX8_mostBy 68 = .ok (.ifCond .ge 7, 3) := by decide +kernel
theorem dX8_mostBy_71 : decode cX8_mostBy 71 = .ok (.iconst 1, 1) := by decide +kernel
theorem dX8_mostBy_72 : decode cX8_mostBy 72 = .ok (.goto 4, 3) := by decide +kernel
theorem dX8_mostBy_75 : decode cX8_mostBy 75 = .ok (.iconst 0, 1) := by decide +kernel
theorem dX8_mostBy_76 : decode cX8_mostBy 76 = .ok (.iand, 1) := by decide +kernel
theorem dX8_mostBy_77 : decode cX8_mostBy 77 = .ok (.istore 7, 2) := by decide +kernel
theorem dX8_mostBy_79 : decode cX8_mostBy 79 = .ok (.iload 5, 2) := by decide +kernel
theorem dX8_mostBy_81 : decode cX8_mostBy 81 = .ok (.aload_n 1, 1) := by decide +kernel
theorem dX8_mostBy_82 : decode cX8_mostBy 82 = .ok (.iload 8, 2) := by decide +kernel
theorem dX8_mostBy_84 : decode cX8_mostBy 84 = .ok (.invokestatic 98, 3) := by decide +kernel
theorem dX8_mostBy_87 : decode cX8_mostBy 87 = .ok (.isub, 1) := by decide +kernel
theorem dX8_mostBy_88 : decode cX8_mostBy 88 = .ok (.istore 5, 2) := by decide +kernel
theorem dX8_mostBy_90 : decode cX8_mostBy 90 = .ok (.aload_n 1, 1) := by decide +kernel
theorem dX8_mostBy_91 : decode cX8_mostBy 91 = .ok (.iload 8, 2) := by decide +kernel
theorem dX8_mostBy_93 : decode cX8_mostBy 93 = .ok (.invokestatic 135, 3) := by decide +kernel
theorem dX8_mostBy_96 : decode cX8_mostBy 96 = .ok (.istore 9, 2) := by decide +kernel
theorem dX8_mostBy_98 : decode cX8_mostBy 98 = .ok (.iconst 0, 1) := by decide +kernel
theorem dX8_mostBy_99 : decode cX8_mostBy 99 = .ok (.istore 10, 2) := by decide +kernel
theorem dX8_mostBy_101 : decode cX8_mostBy 101 = .ok (.iconst 0, 1) := by decide +kernel
theorem dX8_mostBy_102 : decode cX8_mostBy 102 = .ok (.istore 11, 2) := by decide +kernel
theorem dX8_mostBy_104 : decode cX8_mostBy 104 = .ok (.iload 11, 2) := by decide +kernel
theorem dX8_mostBy_106 : decode cX8_mostBy 106 = .ok (.bipush 12, 2) := by decide +kernel
theorem dX8_mostBy_108 : decode cX8_mostBy 108 = .ok (.if_icmp .ge 41, 3) := by decide +kernel
theorem dX8_mostBy_111 : decode cX8_mostBy 111 = .ok (.iload 9, 2) := by decide +kernel
theorem dX8_mostBy_113 : decode cX8_mostBy 113 = .ok (.iload 11, 2) := by decide +kernel
theorem dX8_mostBy_115 : decode cX8_mostBy 115 = .ok (.ishr, 1) := by decide +kernel
theorem dX8_mostBy_116 : decode cX8_mostBy 116 = .ok (.iconst 1, 1) := by decide +kernel
theorem dX8_mostBy_117 : decode cX8_mostBy 117 = .ok (.iand, 1) := by decide +kernel
theorem dX8_mostBy_118 : decode cX8_mostBy 118 = .ok (.iconst 1, 1) := by decide +kernel
theorem dX8_mostBy_119 : decode cX8_mostBy 119 = .ok (.if_icmp .ne 20, 3) := by decide +kernel
theorem dX8_mostBy_122 : decode cX8_mostBy 122 = .ok (.iload 10, 2) := by decide +kernel
theorem dX8_mostBy_124 : decode cX8_mostBy 124 = .ok (.aload_n 1, 1) := by decide +kernel
theorem dX8_mostBy_125 : decode cX8_mostBy 125 = .ok (.iload 8, 2) := by decide +kernel
theorem dX8_mostBy_127 : decode cX8_mostBy 127 = .ok (.iload 11, 2) := by decide +kernel
theorem dX8_mostBy_129 : decode cX8_mostBy 129 = .ok (.invokestatic 55, 3) := by decide +kernel
theorem dX8_mostBy_132 : decode cX8_mostBy 132 = .ok (.iaload, 1) := by decide +kernel
theorem dX8_mostBy_133 : decode cX8_mostBy 133 = .ok (.invokestatic 51, 3) := by decide +kernel
theorem dX8_mostBy_136 : decode cX8_mostBy 136 = .ok (.goto 5, 3) := by decide +kernel
theorem dX8_mostBy_139 : decode cX8_mostBy 139 = .ok (.iload 10, 2) := by decide +kernel
theorem dX8_mostBy_141 : decode cX8_mostBy 141 = .ok (.istore 10, 2) := by decide +kernel
theorem dX8_mostBy_143 : decode cX8_mostBy 143 = .ok (.iinc 11 1, 3) := by decide +kernel
theorem dX8_mostBy_146 : decode cX8_mostBy 146 = .ok (.goto (-42), 3) := by decide +kernel
theorem dX8_mostBy_149 : decode cX8_mostBy 149 = .ok (.iload 6, 2) := by decide +kernel
theorem dX8_mostBy_151 : decode cX8_mostBy 151 = .ok (.iload 10, 2) := by decide +kernel
theorem dX8_mostBy_153 : decode cX8_mostBy 153 = .ok (.iadd, 1) := by decide +kernel
theorem dX8_mostBy_154 : decode cX8_mostBy 154 = .ok (.istore 6, 2) := by decide +kernel
theorem dX8_mostBy_156 : decode cX8_mostBy 156 = .ok (.iinc 8 1, 3) := by decide +kernel
theorem dX8_mostBy_159 : decode cX8_mostBy 159 = .ok (.goto (-132), 3) := by decide +kernel
theorem dX8_mostBy_162 : decode cX8_mostBy 162 = .ok (.iload 7, 2) := by decide +kernel
theorem dX8_mostBy_164 : decode cX8_mostBy 164 = .ok (.ifCond .eq 26, 3) := by decide +kernel
theorem dX8_mostBy_167 : decode cX8_mostBy 167 = .ok (.iload 5, 2) := by decide +kernel
theorem dX8_mostBy_169 : decode cX8_mostBy 169 = .ok (.ifCond .lt 21, 3) := by decide +kernel
theorem dX8_mostBy_172 : decode cX8_mostBy 172 = .ok (.iload 6, 2) := by decide +kernel
theorem dX8_mostBy_174 : decode cX8_mostBy 174 = .ok (.iload_n 3, 1) := by decide +kernel
theorem dX8_mostBy_175 : decode cX8_mostBy 175 = .ok (.if_icmp .gt 6, 3) := by decide +kernel
theorem dX8_mostBy_178 : decode cX8_mostBy 178 = .ok (.goto 12, 3) := by decide +kernel
theorem dX8_mostBy_181 : decode cX8_mostBy 181 = .ok (.iload 6, 2) := by decide +kernel
theorem dX8_mostBy_183 : decode cX8_mostBy 183 = .ok (.istore_n 3, 1) := by decide +kernel
theorem dX8_mostBy_184 : decode cX8_mostBy 184 = .ok (.aload_n 0, 1) := by decide +kernel
theorem dX8_mostBy_185 : decode cX8_mostBy 185 = .ok (.iload 4, 2) := by decide +kernel
theorem dX8_mostBy_187 : decode cX8_mostBy 187 = .ok (.putfield 152, 3) := by decide +kernel
theorem dX8_mostBy_190 : decode cX8_mostBy 190 = .ok (.iinc 4 1, 3) := by decide +kernel
theorem dX8_mostBy_193 : decode cX8_mostBy 193 = .ok (.goto (-188), 3) := by decide +kernel
theorem dX8_mostBy_196 : decode cX8_mostBy 196 = .ok (.iload_n 3, 1) := by decide +kernel
theorem dX8_mostBy_197 : decode cX8_mostBy 197 = .ok (.ireturn, 1) := by decide +kernel
theorem dX8_most__0 : decode cX8_most_ 0 = .ok (.iload_n 1, 1) := by decide +kernel
theorem dX8_most__1 : decode cX8_most_ 1 = .ok (.iconst 0, 1) := by decide +kernel
theorem dX8_most__2 : decode cX8_most_ 2 = .ok (.iconst 1, 1) := by decide +kernel
theorem dX8_most__3 : decode cX8_most_ 3 = .ok (.invokestatic 47, 3) := by decide +kernel
theorem dX8_most__6 : decode cX8_most_ 6 = .ok (.ifCond .ne 10, 3) := by decide +kernel
theorem dX8_most__9 : decode cX8_most_ 9 = .ok (.aload_n 0, 1) := by decide +kernel
theorem dX8_most__10 : decode cX8_most_ 10 = .ok (.bipush (-2), 2) := by decide +kernel
theorem dX8_most__12 : decode cX8_most_ 12 = .ok (.invokevirtual 41, 3) := by decide +kernel
theorem dX8_most__15 : decode cX8_most_ 15 = .ok (.ireturn, 1) := by decide +kernel
theorem dX8_most__16 : decode cX8_most_ 16 = .ok (.aload_n 0, 1) := by decide +kernel
theorem dX8_most__17 : decode cX8_most_ 17 = .ok (.aload_n 0, 1) := by decide +kernel
theorem dX8_most__18 : decode cX8_most_ 18 = .ok (.getfield 9, 3) := by decide +kernel
theorem dX8_most__21 : decode cX8_most_ 21 = .ok (.aload_n 0, 1) := by decide +kernel
theorem dX8_most__22 : decode cX8_most_ 22 = .ok (.getfield 9, 3) := by decide +kernel
theorem dX8_most__25 : decode cX8_most_ 25 = .ok (.iconst 2, 1) := by decide +kernel
theorem dX8_most__26 : decode cX8_most_ 26 = .ok (.iaload, 1) := by decide +kernel
theorem dX8_most__27 : decode cX8_most_ 27 = .ok (.invokevirtual 155, 3) := by decide +kernel
theorem dX8_most__30 : decode cX8_most_ 30 = .ok (.istore_n 2, 1) := by decide +kernel
theorem dX8_most__31 : decode cX8_most_ 31 = .ok (.iload_n 1, 1) := by decide +kernel
theorem dX8_most__32 : decode cX8_most_ 32 = .ok (.ifCond .ne 7, 3) := by decide +kernel
theorem dX8_most__35 : decode cX8_most_ 35 = .ok (.iload_n 2, 1) := by decide +kernel
theorem dX8_most__36 : decode cX8_most_ 36 = .ok (.goto 7, 3) := by decide +kernel
theorem dX8_most__39 : decode cX8_most_ 39 = .ok (.aload_n 0, 1) := by decide +kernel
theorem dX8_most__40 : decode cX8_most_ 40 = .ok (.getfield 152, 3) := by decide +kernel
theorem dX8_most__43 : decode cX8_most_ 43 = .ok (.ireturn, 1) := by decide +kernel
theorem dX8_byMinutes_0 : decode cX8_byMinutes 0 = .ok (.iload_n 1, 1) := by decide +kernel
theorem dX8_byMinutes_1 : decode cX8_byMinutes 1 = .ok (.ifCond .ge 10, 3) := by decide +kernel
theorem dX8_byMinutes_4 : decode cX8_byMinutes 4 = .ok (.aload_n 0, 1) := by decide +kernel
theorem dX8_byMinutes_5 : decode cX8_byMinutes 5 = .ok (.bipush (-4), 2) := by decide +kernel
theorem dX8_byMinutes_7 : decode cX8_byMinutes 7 = .ok (.invokevirtual 41, 3) := by decide +kernel
theorem dX8_byMinutes_10 : decode cX8_byMinutes 10 = .ok (.ireturn, 1) := by decide +kernel
theorem dX8_byMinutes_11 : decode cX8_byMinutes 11 = .ok (.iload_n 1, 1) := by decide +kernel
theorem dX8_byMinutes_12 : decode cX8_byMinutes 12 = .ok (.bipush 99, 2) := by decide +kernel
theorem dX8_byMinutes_14 : decode cX8_byMinutes 14 = .ok (.if_icmp .le 10, 3) := by decide +kernel
theorem dX8_byMinutes_17 : decode cX8_byMinutes 17 = .ok (.aload_n 0, 1) := by decide +kernel
theorem dX8_byMinutes_18 : decode cX8_byMinutes 18 = .ok (.bipush (-6), 2) := by decide +kernel
theorem dX8_byMinutes_20 : decode cX8_byMinutes 20 = .ok (.invokevirtual 41, 3) := by decide +kernel
theorem dX8_byMinutes_23 : decode cX8_byMinutes 23 = .ok (.ireturn, 1) := by decide +kernel
theorem dX8_byMinutes_24 : decode cX8_byMinutes 24 = .ok (.iconst 0, 1) := by decide +kernel
theorem dX8_byMinutes_25 : decode cX8_byMinutes 25 = .ok (.istore_n 2, 1) := by decide +kernel
theorem dX8_byMinutes_26 : decode cX8_byMinutes 26 = .ok (.iload_n 2, 1) := by decide +kernel
theorem dX8_byMinutes_27 : decode cX8_byMinutes 27 = .ok (.iload_n 1, 1) := by decide +kernel
theorem dX8_byMinutes_28 : decode cX8_byMinutes 28 = .ok (.if_icmp .gt 16, 3) := by decide +kernel
theorem dX8_byMinutes_31 : decode cX8_byMinutes 31 = .ok (.aload_n 0, 1) := by decide +kernel
theorem dX8_byMinutes_32 : decode cX8_byMinutes 32 = .ok (.getfield 34, 3) := by decide +kernel
theorem dX8_byMinutes_35 : decode cX8_byMinutes 35 = .ok (.iload_n 2, 1) := by decide +kernel
theorem dX8_byMinutes_36 : decode cX8_byMinutes 36 = .ok (.iconst 0, 1) := by decide +kernel
theorem dX8_byMinutes_37 : decode cX8_byMinutes 37 = .ok (.iastore, 1) := by decide +kernel
theorem dX8_byMinutes_38 : decode cX8_byMinutes 38 = .ok (.iinc 2 1, 3) := by decide +kernel
theorem dX8_byMinutes_41 : decode cX8_byMinutes 41 = .ok (.goto (-15), 3) := by decide +kernel
theorem dX8_byMinutes_44 : decode cX8_byMinutes 44 = .ok (.iconst 0, 1) := by decide +kernel
theorem dX8_byMinutes_45 : decode cX8_byMinutes 45 = .ok (.istore_n 2, 1) := by decide +kernel
theorem dX8_byMinutes_46 : decode cX8_byMinutes 46 = .ok (.iload_n 2, 1) := by decide +kernel
theorem dX8_byMinutes_47 : decode cX8_byMinutes 47 = .ok (.aload_n 0, 1) := by decide +kernel
theorem dX8_byMinutes_48 : decode cX8_byMinutes 48 = .ok (.getfield 9, 3) := by decide +kernel
theorem dX8_byMinutes_51 : decode cX8_byMinutes 51 = .ok (.iconst 0, 1) := by decide +kernel
theorem dX8_byMinutes_52 : decode cX8_byMinutes 52 = .ok (.iaload, 1) := by decide +kernel
theorem dX8_byMinutes_53 : decode cX8_byMinutes 53 = .ok (.if_icmp .ge 140, 3) := by decide +kernel
theorem dX8_byMinutes_56 : decode cX8_byMinutes 56 = .ok (.iconst 0, 1) := by decide +kernel
theorem dX8_byMinutes_57 : decode cX8_byMinutes 57 = .ok (.istore_n 3, 1) := by decide +kernel
theorem dX8_byMinutes_58 : decode cX8_byMinutes 58 = .ok (.iload_n 3, 1) := by decide +kernel
theorem dX8_byMinutes_59 : decode cX8_byMinutes 59 = .ok (.iload_n 1, 1) := by decide +kernel
theorem dX8_byMinutes_60 : decode cX8_byMinutes 60 = .ok (.if_icmp .gt 102, 3) := by decide +kernel
theorem dX8_byMinutes_63 : decode cX8_byMinutes 63 = .ok (.aload_n 0, 1) := by decide +kernel
theorem dX8_byMinutes_64 : decode cX8_byMinutes 64 = .ok (.getfield 37, 3) := by decide +kernel
theorem dX8_byMinutes_67 : decode cX8_byMinutes 67 = .ok (.iload_n 3, 1) := by decide +kernel
theorem dX8_byMinutes_68 : decode cX8_byMinutes 68 = .ok (.aload_n 0, 1) := by decide +kernel
theorem dX8_byMinutes_69 : decode cX8_byMinutes 69 = .ok (.getfield 34, 3) := by decide +kernel
theorem dX8_byMinutes_72 : decode cX8_byMinutes 72 = .ok (.iload_n 3, 1) := by decide +kernel
theorem dX8_byMinutes_73 : decode cX8_byMinutes 73 = .ok (.iaload, 1) := by decide +kernel
theorem dX8_byMinutes_74 : decode cX8_byMinutes 74 = .ok (.aload_n 0, 1) := by decide +kernel
theorem dX8_byMinutes_75 : decode cX8_byMinutes 75 = .ok (.getfield 9, 3) := by decide +kernel
theorem dX8_byMinutes_78 : decode cX8_byMinutes 78 = .ok (.iload_n 2, 1) := by decide +kernel
theorem dX8_byMinutes_79 : decode cX8_byMinutes 79 = .ok (.invokestatic 69, 3) := by decide +kernel
theorem dX8_byMinutes_82 : decode cX8_byMinutes 82 = .ok (.iadd, 1) := by decide +kernel
theorem dX8_byMinutes_83 : decode cX8_byMinutes 83 = .ok (.iastore, 1) := by decide +kernel
theorem dX8_byMinutes_84 : decode cX8_byMinutes 84 = .ok (.iconst 0, 1) := by decide +kernel
theorem dX8_byMinutes_85 : decode cX8_byMinutes 85 = .ok (.istore 4, 2) := by decide +kernel
theorem dX8_byMinutes_87 : decode cX8_byMinutes 87 = .ok (.iload 4, 2) := by decide +kernel
theorem dX8_byMinutes_89 : decode cX8_byMinutes 89 = .ok (.iload_n 3, 1) := by decide +kernel
theorem dX8_byMinutes_90 : decode cX8_byMinutes 90 = .ok (.if_icmp .gt 66, 3) := by decide +kernel
theorem dX8_byMinutes_93 : decode cX8_byMinutes 93 = .ok (.aload_n 0, 1) := by decide +kernel
theorem dX8_byMinutes_94 : decode cX8_byMinutes 94 = .ok (.getfield 9, 3) := by decide +kernel
theorem dX8_byMinutes_97 : decode cX8_byMinutes 97 = .ok (.bipush 20, 2) := by decide +kernel
theorem dX8_byMinutes_99 : decode cX8_byMinutes 99 = .ok (.iload_n 2, 1) := by decide +kernel
theorem dX8_byMinutes_100 : decode cX8_byMinutes 100 = .ok (.iadd, 1) := by decide +kernel
theorem dX8_byMinutes_101 : decode cX8_byMinutes 101 = .ok (.iaload, 1) := by decide +kernel
theorem dX8_byMinutes_102 : decode cX8_byMinutes 102 = .ok (.ifCond .ge 54, 3) := by decide +kernel
theorem dX8_byMinutes_105 : decode cX8_byMinutes 105 = .ok (.aload_n 0, 1) := by decide +kernel
theorem dX8_byMinutes_106 : decode cX8_byMinutes 106 = .ok (.getfield 37, 3) := by decide +kernel
theorem dX8_byMinutes_109 : decode cX8_byMinutes 109 = .ok (.iload_n 3, 1) := by decide +kernel
theorem dX8_byMinutes_110 : decode cX8_byMinutes 110 = .ok (.aload_n 0, 1) := by decide +kernel
theorem dX8_byMinutes_111 : decode cX8_byMinutes 111 = .ok (.getfield 37, 3) := by decide +kernel
theorem dX8_byMinutes_114 : decode cX8_byMinutes 114 = .ok (.iload_n 3, 1) := by decide +kernel
theorem dX8_byMinutes_115 : decode cX8_byMinutes 115 = .ok (.iaload, 1) := by decide +kernel
theorem dX8_byMinutes_116 : decode cX8_byMinutes 116 = .ok (.aload_n 0, 1) := by decide +kernel
theorem dX8_byMinutes_117 : decode cX8_byMinutes 117 = .ok (.getfield 34, 3) := by decide +kernel
theorem dX8_byMinutes_120 : decode cX8_byMinutes 120 = .ok (.iload_n 3, 1) := by decide +kernel
theorem dX8_byMinutes_121 : decode cX8_byMinutes 121 = .ok (.iload 4, 2) := by decide +kernel
theorem dX8_byMinutes_123 : decode cX8_byMinutes 123 = .ok (.isub, 1) := by decide +kernel
theorem dX8_byMinutes_124 : decode cX8_byMinutes 124 = .ok (.iaload, 1) := by decide +kernel
theorem dX8_byMinutes_125 : decode cX8_byMinutes 125 = .ok (.aload_n 0, 1) := by decide +kernel
theorem dX8_byMinutes_126 : decode cX8_byMinutes 126 = .ok (.getfield 9, 3) := by decide +kernel
theorem dX8_byMinutes_129 : decode cX8_byMinutes 129 = .ok (.iload_n 2, 1) := by decide +kernel
theorem dX8_byMinutes_130 : decode cX8_byMinutes 130 = .ok (.aload_n 0, 1) := by decide +kernel
theorem dX8_byMinutes_131 : decode cX8_byMinutes 131 = .ok (.getfield 9, 3) := by decide +kernel
theorem dX8_byMinutes_134 : decode cX8_byMinutes 134 = .ok (.iload_n 2, 1) := by decide +kernel
theorem dX8_byMinutes_135 : decode cX8_byMinutes 135 = .ok (.iload 4, 2) := by decide +kernel
theorem dX8_byMinutes_137 : decode cX8_byMinutes 137 = .ok (.iconst 0, 1) := by decide +kernel
theorem dX8_byMinutes_138 : decode cX8_byMinutes 138 = .ok (.invokestatic 73, 3) := by decide +kernel
theorem dX8_byMinutes_141 : decode cX8_byMinutes 141 = .ok (.invokestatic 55, 3) := by decide +kernel
theorem dX8_byMinutes_144 : decode cX8_byMinutes 144 = .ok (.iaload, 1) := by decide +kernel
theorem dX8_byMinutes_145 : decode cX8_byMinutes 145 = .ok (.iadd, 1) := by decide +kernel
theorem dX8_byMinutes_146 : decode cX8_byMinutes 146 = .ok (.invokestatic 51, 3) := by decide +kernel
theorem dX8_byMinutes_149 : decode cX8_byMinutes 149 = .ok (.iastore, 1) := by decide +kernel
theorem dX8_byMinutes_150 : decode cX8_byMinutes 150 = .ok (.iinc 4 1, 3) := by decide +kernel
theorem dX8_byMinutes_153 : decode cX8_byMinutes 153 = .ok (.goto (-66), 3) := by decide +kernel
theorem dX8_byMinutes_156 : decode cX8_byMinutes 156 = .ok (.iinc 3 1, 3) := by decide +kernel
theorem dX8_byMinutes_159 : decode cX8_byMinutes 159 = .ok (.goto (-101), 3) := by decide +kernel
theorem dX8_byMinutes_162 : decode cX8_byMinutes 162 = .ok (.iconst 0, 1) := by decide +kernel
theorem dX8_byMinutes_163 : decode cX8_byMinutes 163 = .ok (.istore_n 3, 1) := by decide +kernel
theorem dX8_byMinutes_164 : decode cX8_byMinutes 164 = .ok (.iload_n 3, 1) := by decide +kernel
theorem dX8_byMinutes_165 : decode cX8_byMinutes 165 = .ok (.iload_n 1, 1) := by decide +kernel
theorem dX8_byMinutes_166 : decode cX8_byMinutes 166 = .ok (.if_icmp .gt 21, 3) := by decide +kernel
theorem dX8_byMinutes_169 : decode cX8_byMinutes 169 = .ok (.aload_n 0, 1) := by decide +kernel
theorem dX8_byMinutes_170 : decode cX8_byMinutes 170 = .ok (.getfield 34, 3) := by decide +kernel
theorem dX8_byMinutes_173 : decode cX8_byMinutes 173 = .ok (.iload_n 3, 1) := by decide +kernel
theorem dX8_byMinutes_174 : decode cX8_byMinutes 174 = .ok (.aload_n 0, 1) := by decide +kernel
theorem dX8_byMinutes_175 : decode cX8_byMinutes 175 = .ok (.getfield 37, 3) := by decide +kernel
theorem dX8_byMinutes_178 : decode cX8_byMinutes 178 = .ok (.iload_n 3, 1) := by decide +kernel
theorem dX8_byMinutes_179 : decode cX8_byMinutes 179 = .ok (.iaload, 1) := by decide +kernel
theorem dX8_byMinutes_180 : decode cX8_byMinutes 180 = .ok (.iastore, 1) := by decide +kernel
theorem dX8_byMinutes_181 : decode cX8_byMinutes 181 = .ok (.iinc 3 1, 3) := by decide +kernel
theorem dX8_byMinutes_184 : decode cX8_byMinutes 184 = .ok (.goto (-20), 3) := by decide +kernel
theorem dX8_byMinutes_187 : decode cX8_byMinutes 187 = .ok (.iinc 2 1, 3) := by decide +kernel
theorem dX8_byMinutes_190 : decode cX8_byMinutes 190 = .ok (.goto (-144), 3) := by decide +kernel
theorem dX8_byMinutes_193 : decode cX8_byMinutes 193 = .ok (.aload_n 0, 1) := by decide +kernel
theorem dX8_byMinutes_194 : decode cX8_byMinutes 194 = .ok (.getfield 34, 3) := by decide +kernel
theorem dX8_byMinutes_197 : decode cX8_byMinutes 197 = .ok (.iload_n 1, 1) := by decide +kernel
theorem dX8_byMinutes_198 : decode cX8_byMinutes 198 = .ok (.iaload, 1) := by decide +kernel
theorem dX8_byMinutes_199 : decode cX8_byMinutes 199 = .ok (.ireturn, 1) := by decide +kernel
theorem dX8_fewDrops_0 : decode cX8_fewDrops 0 = .ok (.aload_n 0, 1) := by decide +kernel
theorem dX8_fewDrops_1 : decode cX8_fewDrops 1 = .ok (.aload_n 0, 1) := by decide +kernel
theorem dX8_fewDrops_2 : decode cX8_fewDrops 2 = .ok (.getfield 9, 3) := by decide +kernel
theorem dX8_fewDrops_5 : decode cX8_fewDrops 5 = .ok (.bipush 99, 2) := by decide +kernel
theorem dX8_fewDrops_7 : decode cX8_fewDrops 7 = .ok (.invokevirtual 155, 3) := by decide +kernel
theorem dX8_fewDrops_10 : decode cX8_fewDrops 10 = .ok (.istore_n 1, 1) := by decide +kernel
theorem dX8_fewDrops_11 : decode cX8_fewDrops 11 = .ok (.iconst 0, 1) := by decide +kernel
theorem dX8_fewDrops_12 : decode cX8_fewDrops 12 = .ok (.istore_n 2, 1) := by decide +kernel
theorem dX8_fewDrops_13 : decode cX8_fewDrops 13 = .ok (.iload_n 2, 1) := by decide +kernel
theorem dX8_fewDrops_14 : decode cX8_fewDrops 14 = .ok (.bipush 99, 2) := by decide +kernel
theorem dX8_fewDrops_16 : decode cX8_fewDrops 16 = .ok (.if_icmp .gt 24, 3) := by decide +kernel
theorem dX8_fewDrops_19 : decode cX8_fewDrops 19 = .ok (.aload_n 0, 1) := by decide +kernel
theorem dX8_fewDrops_20 : decode cX8_fewDrops 20 = .ok (.aload_n 0, 1) := by decide +kernel
theorem dX8_fewDrops_21 : decode cX8_fewDrops 21 = .ok (.getfield 9, 3) := by decide +kernel
theorem dX8_fewDrops_24 : decode cX8_fewDrops 24 = .ok (.iload_n 2, 1) := by decide +kernel
theorem dX8_fewDrops_25 : decode cX8_fewDrops 25 = .ok (.invokevirtual 155, 3) := by decide +kernel
theorem dX8_fewDrops_28 : decode cX8_fewDrops 28 = .ok (.iload_n 1, 1) := by decide +kernel
theorem dX8_fewDrops_29 : decode cX8_fewDrops 29 = .ok (.if_icmp .ne 5, 3) := by decide +kernel
theorem dX8_fewDrops_32 : decode cX8_fewDrops 32 = .ok (.iload_n 2, 1) := by decide +kernel
theorem dX8_fewDrops_33 : decode cX8_fewDrops 33 = .ok (.ireturn, 1) := by decide +kernel
theorem dX8_fewDrops_34 : decode cX8_fewDrops 34 = .ok (.iinc 2 1, 3) := by decide +kernel
theorem dX8_fewDrops_37 : decode cX8_fewDrops 37 = .ok (.goto (-24), 3) := by decide +kernel
theorem dX8_fewDrops_40 : decode cX8_fewDrops 40 = .ok (.bipush (-9), 2) := by decide +kernel
theorem dX8_fewDrops_42 : decode cX8_fewDrops 42 = .ok (.ireturn, 1) := by decide +kernel
theorem dX8_together_0 : decode cX8_together 0 = .ok (.aload_n 0, 1) := by decide +kernel
theorem dX8_together_1 : decode cX8_together 1 = .ok (.iload_n 1, 1) := by decide +kernel
theorem dX8_together_2 : decode cX8_together 2 = .ok (.iload_n 2, 1) := by decide +kernel
theorem dX8_together_3 : decode cX8_together 3 = .ok (.invokevirtual 129, 3) := by decide +kernel
theorem dX8_together_6 : decode cX8_together 6 = .ok (.ifCond .ne 9, 3) := by decide +kernel
theorem dX8_together_9 : decode cX8_together 9 = .ok (.aload_n 0, 1) := by decide +kernel
theorem dX8_together_10 : decode cX8_together 10 = .ok (.iconst (-1), 1) := by decide +kernel
theorem dX8_together_11 : decode cX8_together 11 = .ok (.invokevirtual 41, 3) := by decide +kernel
theorem dX8_together_14 : decode cX8_together 14 = .ok (.ireturn, 1) := by decide +kernel
theorem dX8_together_15 : decode cX8_together 15 = .ok (.iload_n 3, 1) := by decide +kernel
theorem dX8_together_16 : decode cX8_together 16 = .ok (.iconst 0, 1) := by decide +kernel
theorem dX8_together_17 : decode cX8_together 17 = .ok (.iconst 1, 1) := by decide +kernel
theorem dX8_together_18 : decode cX8_together 18 = .ok (.invokestatic 47, 3) := by decide +kernel
theorem dX8_together_21 : decode cX8_together 21 = .ok (.ifCond .ne 10, 3) := by decide +kernel
theorem dX8_together_24 : decode cX8_together 24 = .ok (.aload_n 0, 1) := by decide +kernel
theorem dX8_together_25 : decode cX8_together 25 = .ok (.bipush (-2), 2) := by decide +kernel
theorem dX8_together_27 : decode cX8_together 27 = .ok (.invokevirtual 41, 3) := by decide +kernel
theorem dX8_together_30 : decode cX8_together 30 = .ok (.ireturn, 1) := by decide +kernel
theorem dX8_together_31 : decode cX8_together 31 = .ok (.aload_n 0, 1) := by decide +kernel
theorem dX8_together_32 : decode cX8_together 32 = .ok (.getfield 9, 3) := by decide +kernel
theorem dX8_together_35 : decode cX8_together 35 = .ok (.bipush 20, 2) := by decide +kernel
theorem dX8_together_37 : decode cX8_together 37 = .ok (.iload_n 1, 1) := by decide +kernel
theorem dX8_together_38 : decode cX8_together 38 = .ok (.iadd, 1) := by decide +kernel
theorem dX8_together_39 : decode cX8_together 39 = .ok (.iaload, 1) := by decide +kernel
theorem dX8_together_40 : decode cX8_together 40 = .ok (.ifCond .ge 15, 3) := by decide +kernel
theorem dX8_together_43 : decode cX8_together 43 = .ok (.aload_n 0, 1) := by decide +kernel
theorem dX8_together_44 : decode cX8_together 44 = .ok (.getfield 9, 3) := by decide +kernel
theorem dX8_together_47 : decode cX8_together 47 = .ok (.bipush 20, 2) := by decide +kernel
theorem dX8_together_49 : decode cX8_together 49 = .ok (.iload_n 2, 1) := by decide +kernel
theorem dX8_together_50 : decode cX8_together 50 = .ok (.iadd, 1) := by decide +kernel
theorem dX8_together_51 : decode cX8_together 51 = .ok (.iaload, 1) := by decide +kernel
theorem dX8_together_52 : decode cX8_together 52 = .ok (.ifCond .lt 10, 3) := by decide +kernel
theorem dX8_together_55 : decode cX8_together 55 = .ok (.aload_n 0, 1) := by decide +kernel
theorem dX8_together_56 : decode cX8_together 56 = .ok (.bipush (-3), 2) := by decide +kernel
theorem dX8_together_58 : decode cX8_together 58 = .ok (.invokevirtual 41, 3) := by decide +kernel
theorem dX8_together_61 : decode cX8_together 61 = .ok (.ireturn, 1) := by decide +kernel
theorem dX8_together_62 : decode cX8_together 62 = .ok (.bipush (-9), 2) := by decide +kernel
theorem dX8_together_64 : decode cX8_together 64 = .ok (.istore 4, 2) := by decide +kernel
theorem dX8_together_66 : decode cX8_together 66 = .ok (.ldc 40, 2) := by decide +kernel
theorem dX8_together_68 : decode cX8_together 68 = .ok (.istore 5, 2) := by decide +kernel
theorem dX8_together_70 : decode cX8_together 70 = .ok (.iconst 0, 1) := by decide +kernel
theorem dX8_together_71 : decode cX8_together 71 = .ok (.istore 6, 2) := by decide +kernel
theorem dX8_together_73 : decode cX8_together 73 = .ok (.iload 6, 2) := by decide +kernel
theorem dX8_together_75 : decode cX8_together 75 = .ok (.bipush 12, 2) := by decide +kernel
theorem dX8_together_77 : decode cX8_together 77 = .ok (.if_icmp .ge 67, 3) := by decide +kernel
theorem dX8_together_80 : decode cX8_together 80 = .ok (.aload_n 0, 1) := by decide +kernel
theorem dX8_together_81 : decode cX8_together 81 = .ok (.getfield 9, 3) := by decide +kernel
theorem dX8_together_84 : decode cX8_together 84 = .ok (.iload_n 1, 1) := by decide +kernel
theorem dX8_together_85 : decode cX8_together 85 = .ok (.iload 6, 2) := by decide +kernel
theorem dX8_together_87 : decode cX8_together 87 = .ok (.invokestatic 138, 3) := by decide +kernel
theorem dX8_together_90 : decode cX8_together 90 = .ok (.istore 7, 2) := by decide +kernel
theorem dX8_together_92 : decode cX8_together 92 = .ok (.aload_n 0, 1) := by decide +kernel
theorem dX8_together_93 : decode cX8_together 93 = .ok (.getfield 9, 3) := by decide +kernel
theorem dX8_together_96 : decode cX8_together 96 = .ok (.iload_n 2, 1) := by decide +kernel
theorem dX8_together_97 : decode cX8_together 97 = .ok (.iload 6, 2) := by decide +kernel
theorem dX8_together_99 : decode cX8_together 99 = .ok (.invokestatic 138, 3) := by decide +kernel
theorem dX8_together_102 : decode cX8_together 102 = .ok (.istore 8, 2) := by decide +kernel
theorem dX8_together_104 : decode cX8_together 104 = .ok (.iload 7, 2) := by decide +kernel
theorem dX8_together_106 : decode cX8_together 106 = .ok (.ifCond .lt 32, 3) := by decide +kernel
theorem dX8_together_109 : decode cX8_together 109 = .ok (.iload 8, 2) := by decide +kernel
theorem dX8_together_111 : decode cX8_together 111 = .ok (.ifCond .lt 27, 3) := by decide +kernel
theorem dX8_together_114 : decode cX8_together 114 = .ok (.iload 7, 2) := by decide +kernel
theorem dX8_together_116 : decode cX8_together 116 = .ok (.iload 8, 2) := by decide +kernel
theorem dX8_together_118 : decode cX8_together 118 = .ok (.iadd, 1) := by decide +kernel
theorem dX8_together_119 : decode cX8_together 119 = .ok (.iload 5, 2) := by decide +kernel
theorem dX8_together_121 : decode cX8_together 121 = .ok (.if_icmp .lt 6, 3) := by decide +kernel
theorem dX8_together_124 : decode cX8_together 124 = .ok (.goto 14, 3) := by decide +kernel
theorem dX8_together_127 : decode cX8_together 127 = .ok (.iload 6, 2) := by decide +kernel
theorem dX8_together_129 : decode cX8_together 129 = .ok (.istore 4, 2) := by decide +kernel
theorem dX8_together_131 : decode cX8_together 131 = .ok (.iload 7, 2) := by decide +kernel
theorem dX8_together_133 : decode cX8_together 133 = .ok (.iload 8, 2) := by decide +kernel
theorem dX8_together_135 : decode cX8_together 135 = .ok (.iadd, 1) := by decide +kernel
theorem dX8_together_136 : decode cX8_together 136 = .ok (.istore 5, 2) := by decide +kernel
theorem dX8_together_138 : decode cX8_together 138 = .ok (.iinc 6 1, 3) := by decide +kernel
theorem dX8_together_141 : decode cX8_together 141 = .ok (.goto (-68), 3) := by decide +kernel
theorem dX8_together_144 : decode cX8_together 144 = .ok (.iload 4, 2) := by decide +kernel
theorem dX8_together_146 : decode cX8_together 146 = .ok (.ifCond .lt 8, 3) := by decide +kernel
theorem dX8_together_149 : decode cX8_together 149 = .ok (.iload_n 3, 1) := by decide +kernel
theorem dX8_together_150 : decode cX8_together 150 = .ok (.iconst 1, 1) := by decide +kernel
theorem dX8_together_151 : decode cX8_together 151 = .ok (.if_icmp .ne 8, 3) := by decide +kernel
theorem dX8_together_154 : decode cX8_together 154 = .ok (.iload 4, 2) := by decide +kernel
theorem dX8_together_156 : decode cX8_together 156 = .ok (.goto 5, 3) := by decide +kernel
theorem dX8_together_159 : decode cX8_together 159 = .ok (.iload 5, 2) := by decide +kernel
theorem dX8_together_161 : decode cX8_together 161 = .ok (.ireturn, 1) := by decide +kernel
theorem dX8_gladdest_0 : decode cX8_gladdest 0 = .ok (.aload_n 0, 1) := by decide +kernel
theorem dX8_gladdest_1 : decode cX8_gladdest 1 = .ok (.getfield 9, 3) := by decide +kernel
theorem dX8_gladdest_4 : decode cX8_gladdest 4 = .ok (.iconst 1, 1) := by decide +kernel
theorem dX8_gladdest_5 : decode cX8_gladdest 5 = .ok (.iaload, 1) := by decide +kernel
theorem dX8_gladdest_6 : decode cX8_gladdest 6 = .ok (.istore_n 2, 1) := by decide +kernel
theorem dX8_gladdest_7 : decode cX8_gladdest 7 = .ok (.aload_n 0, 1) := by decide +kernel
theorem dX8_gladdest_8 : decode cX8_gladdest 8 = .ok (.getfield 9, 3) := by decide +kernel
theorem dX8_gladdest_11 : decode cX8_gladdest 11 = .ok (.iconst 1, 1) := by decide +kernel
theorem dX8_gladdest_12 : decode cX8_gladdest 12 = .ok (.iaload, 1) := by decide +kernel
theorem dX8_gladdest_13 : decode cX8_gladdest 13 = .ok (.istore_n 3, 1) := by decide +kernel
theorem dX8_gladdest_14 : decode cX8_gladdest 14 = .ok (.iload_n 3, 1) := by decide +kernel
theorem dX8_gladdest_15 : decode cX8_gladdest 15 = .ok (.ifCond .lt 34, 3) := by decide +kernel
theorem dX8_gladdest_18 : decode cX8_gladdest 18 = .ok (.aload_n 0, 1) := by decide +kernel
theorem dX8_gladdest_19 : decode cX8_gladdest 19 = .ok (.getfield 9, 3) := by decide +kernel
theorem dX8_gladdest_22 : decode cX8_gladdest 22 = .ok (.iload_n 1, 1) := by decide +kernel
theorem dX8_gladdest_23 : decode cX8_gladdest 23 = .ok (.iload_n 3, 1) := by decide +kernel
theorem dX8_gladdest_24 : decode cX8_gladdest 24 = .ok (.invokestatic 55, 3) := by decide +kernel
theorem dX8_gladdest_27 : decode cX8_gladdest 27 = .ok (.iaload, 1) := by decide +kernel
theorem dX8_gladdest_28 : decode cX8_gladdest 28 = .ok (.aload_n 0, 1) := by decide +kernel
theorem dX8_gladdest_29 : decode cX8_gladdest 29 = .ok (.getfield 9, 3) := by decide +kernel
theorem dX8_gladdest_32 : decode cX8_gladdest 32 = .ok (.iload_n 1, 1) := by decide +kernel
theorem dX8_gladdest_33 : decode cX8_gladdest 33 = .ok (.iload_n 2, 1) := by decide +kernel
theorem dX8_gladdest_34 : decode cX8_gladdest 34 = .ok (.invokestatic 55, 3) := by decide +kernel
theorem dX8_gladdest_37 : decode cX8_gladdest 37 = .ok (.iaload, 1) := by decide +kernel
theorem dX8_gladdest_38 : decode cX8_gladdest 38 = .ok (.if_icmp .le 5, 3) := by decide +kernel
theorem dX8_gladdest_41 : decode cX8_gladdest 41 = .ok (.iload_n 3, 1) := by decide +kernel
theorem dX8_gladdest_42 : decode cX8_gladdest 42 = .ok (.istore_n 2, 1) := by decide +kernel
theorem dX8_gladdest_43 : decode cX8_gladdest 43 = .ok (.iinc 3 (-1), 3) := by decide +kernel
theorem dX8_gladdest_46 : decode cX8_gladdest 46 = .ok (.goto (-32), 3) := by decide +kernel
theorem dX8_gladdest_49 : decode cX8_gladdest 49 = .ok (.iload_n 2, 1) := by decide +kernel
theorem dX8_gladdest_50 : decode cX8_gladdest 50 = .ok (.ireturn, 1) := by decide +kernel
theorem dX8_queue_0 : decode cX8_queue 0 = .ok (.iload_n 1, 1) := by decide +kernel
theorem dX8_queue_1 : decode cX8_queue 1 = .ok (.iconst (-1), 1) := by decide +kernel
theorem dX8_queue_2 : decode cX8_queue 2 = .ok (.if_icmp .eq 17, 3) := by decide +kernel
theorem dX8_queue_5 : decode cX8_queue 5 = .ok (.aload_n 0, 1) := by decide +kernel
theorem dX8_queue_6 : decode cX8_queue 6 = .ok (.iload_n 1, 1) := by decide +kernel
theorem dX8_queue_7 : decode cX8_queue 7 = .ok (.invokevirtual 101, 3) := by decide +kernel
theorem dX8_queue_10 : decode cX8_queue 10 = .ok (.ifCond .ne 9, 3) := by decide +kernel
theorem dX8_queue_13 : decode cX8_queue 13 = .ok (.aload_n 0, 1) := by decide +kernel
theorem dX8_queue_14 : decode cX8_queue 14 = .ok (.iconst (-1), 1) := by decide +kernel
theorem dX8_queue_15 : decode cX8_queue 15 = .ok (.invokevirtual 41, 3) := by decide +kernel
theorem dX8_queue_18 : decode cX8_queue 18 = .ok (.ireturn, 1) := by decide +kernel
theorem dX8_queue_19 : decode cX8_queue 19 = .ok (.aload_n 0, 1) := by decide +kernel
theorem dX8_queue_20 : decode cX8_queue 20 = .ok (.getfield 34, 3) := by decide +kernel
theorem dX8_queue_23 : decode cX8_queue 23 = .ok (.astore_n 2, 1) := by decide +kernel
theorem dX8_queue_24 : decode cX8_queue 24 = .ok (.iconst 0, 1) := by decide +kernel
theorem dX8_queue_25 : decode cX8_queue 25 = .ok (.istore_n 3, 1) := by decide +kernel
theorem dX8_queue_26 : decode cX8_queue 26 = .ok (.iload_n 3, 1) := by decide +kernel
theorem dX8_queue_27 : decode cX8_queue 27 = .ok (.iconst 4, 1) := by decide +kernel
theorem dX8_queue_28 : decode cX8_queue 28 = .ok (.if_icmp .ge 13, 3) := by decide +kernel
theorem dX8_queue_31 : decode cX8_queue 31 = .ok (.aload_n 2, 1) := by decide +kernel
theorem dX8_queue_32 : decode cX8_queue 32 = .ok (.iload_n 3, 1) := by decide +kernel
theorem dX8_queue_33 : decode cX8_queue 33 = .ok (.iconst 0, 1) := by decide +kernel
theorem dX8_queue_34 : decode cX8_queue 34 = .ok (.iastore, 1) := by decide +kernel
theorem dX8_queue_35 : decode cX8_queue 35 = .ok (.iinc 3 1, 3) := by decide +kernel
theorem dX8_queue_38 : decode cX8_queue 38 = .ok (.goto (-12), 3) := by decide +kernel
theorem dX8_queue_41 : decode cX8_queue 41 = .ok (.iconst 0, 1) := by decide +kernel
theorem dX8_queue_42 : decode cX8_queue 42 = .ok (.istore_n 3, 1) := by decide +kernel
theorem dX8_queue_43 : decode cX8_queue 43 = .ok (.bipush (-9), 2) := by decide +kernel
theorem dX8_queue_45 : decode cX8_queue 45 = .ok (.istore 4, 2) := by decide +kernel
theorem dX8_queue_47 : decode cX8_queue 47 = .ok (.iconst 0, 1) := by decide +kernel
theorem dX8_queue_48 : decode cX8_queue 48 = .ok (.istore 5, 2) := by decide +kernel
theorem dX8_queue_50 : decode cX8_queue 50 = .ok (.iload 5, 2) := by decide +kernel
theorem dX8_queue_52 : decode cX8_queue 52 = .ok (.aload_n 0, 1) := by decide +kernel
theorem dX8_queue_53 : decode cX8_queue 53 = .ok (.getfield 9, 3) := by decide +kernel
theorem dX8_queue_56 : decode cX8_queue 56 = .ok (.iconst 0, 1) := by decide +kernel
theorem dX8_queue_57 : decode cX8_queue 57 = .ok (.iaload, 1) := by decide +kernel
theorem dX8_queue_58 : decode cX8_queue 58 = .ok (.if_icmp .ge 120, 3) := by decide +kernel
theorem dX8_queue_61 : decode cX8_queue 61 = .ok (.aload_n 0, 1) := by decide +kernel
theorem dX8_queue_62 : decode cX8_queue 62 = .ok (.getfield 9, 3) := by decide +kernel
theorem dX8_queue_65 : decode cX8_queue 65 = .ok (.bipush 20, 2) := by decide +kernel
theorem dX8_queue_67 : decode cX8_queue 67 = .ok (.iload 5, 2) := by decide +kernel
theorem dX8_queue_69 : decode cX8_queue 69 = .ok (.iadd, 1) := by decide +kernel
theorem dX8_queue_70 : decode cX8_queue 70 = .ok (.iaload, 1) := by decide +kernel
theorem dX8_queue_71 : decode cX8_queue 71 = .ok (.ifCond .lt 8, 3) := by decide +kernel
theorem dX8_queue_74 : decode cX8_queue 74 = .ok (.bipush (-9), 2) := by decide +kernel
theorem dX8_queue_76 : decode cX8_queue 76 = .ok (.goto 18, 3) := by decide +kernel
theorem dX8_queue_79 : decode cX8_queue 79 = .ok (.aload_n 0, 1) := by decide +kernel
theorem dX8_queue_80 : decode cX8_queue 80 = .ok (.getfield 9, 3) := by decide +kernel
theorem dX8_queue_83 : decode cX8_queue 83 = .ok (.iload 5, 2) := by decide +kernel
theorem dX8_queue_85 : decode cX8_queue 85 = .ok (.aload_n 0, 1) := by decide +kernel
theorem dX8_queue_86 : decode cX8_queue 86 = .ok (.iload 5, 2) := by decide +kernel
theorem dX8_queue_88 : decode cX8_queue 88 = .ok (.invokevirtual 158, 3) := by decide +kernel
theorem dX8_queue_91 : decode cX8_queue 91 = .ok (.invokestatic 138, 3) := by decide +kernel
theorem dX8_queue_94 : decode cX8_queue 94 = .ok (.istore 6, 2) := by decide +kernel
theorem dX8_queue_96 : decode cX8_queue 96 = .ok (.iload 6, 2) := by decide +kernel
theorem dX8_queue_98 : decode cX8_queue 98 = .ok (.ifCond .ge 6, 3) := by decide +kernel
theorem dX8_queue_101 : decode cX8_queue 101 = .ok (.goto 71, 3) := by decide +kernel
theorem dX8_queue_104 : decode cX8_queue 104 = .ok (.iconst 0, 1) := by decide +kernel
theorem dX8_queue_105 : decode cX8_queue 105 = .ok (.istore 7, 2) := by decide +kernel
theorem dX8_queue_107 : decode cX8_queue 107 = .ok (.iconst 1, 1) := by decide +kernel
theorem dX8_queue_108 : decode cX8_queue 108 = .ok (.istore 8, 2) := by decide +kernel
theorem dX8_queue_110 : decode cX8_queue 110 = .ok (.iload 8, 2) := by decide +kernel
theorem dX8_queue_112 : decode cX8_queue 112 = .ok (.aload_n 0, 1) := by decide +kernel
theorem dX8_queue_113 : decode cX8_queue 113 = .ok (.getfield 9, 3) := by decide +kernel
theorem dX8_queue_116 : decode cX8_queue 116 = .ok (.iconst 3, 1) := by decide +kernel
theorem dX8_queue_117 : decode cX8_queue 117 = .ok (.iaload, 1) := by decide +kernel
theorem dX8_queue_118 : decode cX8_queue 118 = .ok (.if_icmp .ge 24, 3) := by decide +kernel
theorem dX8_queue_121 : decode cX8_queue 121 = .ok (.aload_n 2, 1) := by decide +kernel
theorem dX8_queue_122 : decode cX8_queue 122 = .ok (.iload 8, 2) := by decide +kernel
theorem dX8_queue_124 : decode cX8_queue 124 = .ok (.iaload, 1) := by decide +kernel
theorem dX8_queue_125 : decode cX8_queue 125 = .ok (.aload_n 2, 1) := by decide +kernel
theorem dX8_queue_126 : decode cX8_queue 126 = .ok (.iload 7, 2) := by decide +kernel
theorem dX8_queue_128 : decode cX8_queue 128 = .ok (.iaload, 1) := by decide +kernel
theorem dX8_queue_129 : decode cX8_queue 129 = .ok (.if_icmp .ge 7, 3) := by decide +kernel
theorem dX8_queue_132 : decode cX8_queue 132 = .ok (.iload 8, 2) := by decide +kernel
theorem dX8_queue_134 : decode cX8_queue 134 = .ok (.istore 7, 2) := by decide +kernel
theorem dX8_queue_136 : decode cX8_queue 136 = .ok (.iinc 8 1, 3) := by decide +kernel
theorem dX8_queue_139 : decode cX8_queue 139 = .ok (.goto (-29), 3) := by decide +kernel
theorem dX8_queue_142 : decode cX8_queue 142 = .ok (.iload 5, 2) := by decide +kernel
theorem dX8_queue_144 : decode cX8_queue 144 = .ok (.iload_n 1, 1) := by decide +kernel
theorem dX8_queue_145 : decode cX8_queue 145 = .ok (.if_icmp .ne 9, 3) := by decide +kernel
theorem dX8_queue_148 : decode cX8_queue 148 = .ok (.aload_n 2, 1) := by decide +kernel
theorem dX8_queue_149 : decode cX8_queue 149 = .ok (.iload 7, 2) := by decide +kernel
theorem dX8_queue_151 : decode cX8_queue 151 = .ok (.iaload, 1) := by decide +kernel
theorem dX8_queue_152 : decode cX8_queue 152 = .ok (.istore 4, 2) := by decide +kernel
theorem dX8_queue_154 : decode cX8_queue 154 = .ok (.aload_n 2, 1) := by decide +kernel
theorem dX8_queue_155 : decode cX8_queue 155 = .ok (.iload 7, 2) := by decide +kernel
theorem dX8_queue_157 : decode cX8_queue 157 = .ok (.dup2, 1) := by decide +kernel
theorem dX8_queue_158 : decode cX8_queue 158 = .ok (.iaload, 1) := by decide +kernel
theorem dX8_queue_159 : decode cX8_queue 159 = .ok (.iload 6, 2) := by decide +kernel
theorem dX8_queue_161 : decode cX8_queue 161 = .ok (.iadd, 1) := by decide +kernel
theorem dX8_queue_162 : decode cX8_queue 162 = .ok (.iastore, 1) := by decide +kernel
theorem dX8_queue_163 : decode cX8_queue 163 = .ok (.iload_n 3, 1) := by decide +kernel
theorem dX8_queue_164 : decode cX8_queue 164 = .ok (.aload_n 2, 1) := by decide +kernel
theorem dX8_queue_165 : decode cX8_queue 165 = .ok (.iload 7, 2) := by decide +kernel
theorem dX8_queue_167 : decode cX8_queue 167 = .ok (.iaload, 1) := by decide +kernel
theorem dX8_queue_168 : decode cX8_queue 168 = .ok (.invokestatic 51, 3) := by decide +kernel
theorem dX8_queue_171 : decode cX8_queue 171 = .ok (.istore_n 3, 1) := by decide +kernel
theorem dX8_queue_172 : decode cX8_queue 172 = .ok (.iinc 5 1, 3) := by decide +kernel
theorem dX8_queue_175 : decode cX8_queue 175 = .ok (.goto (-125), 3) := by decide +kernel
theorem dX8_queue_178 : decode cX8_queue 178 = .ok (.iload_n 1, 1) := by decide +kernel
theorem dX8_queue_179 : decode cX8_queue 179 = .ok (.ifCond .ge 7, 3) := by decide +kernel
theorem dX8_queue_182 : decode cX8_queue 182 = .ok (.iload_n 3, 1) := by decide +kernel
theorem dX8_queue_183 : decode cX8_queue 183 = .ok (.goto 5, 3) := by decide +kernel
theorem dX8_queue_186 : decode cX8_queue 186 = .ok (.iload 4, 2) := by decide +kernel
theorem dX8_queue_188 : decode cX8_queue 188 = .ok (.ireturn, 1) := by decide +kernel
theorem dX8_oneMore_0 : decode cX8_oneMore 0 = .ok (.aload_n 0, 1) := by decide +kernel
theorem dX8_oneMore_1 : decode cX8_oneMore 1 = .ok (.getfield 9, 3) := by decide +kernel
theorem dX8_oneMore_4 : decode cX8_oneMore 4 = .ok (.aload_n 0, 1) := by decide +kernel
theorem dX8_oneMore_5 : decode cX8_oneMore 5 = .ok (.getfield 13, 3) := by decide +kernel
theorem dX8_oneMore_8 : decode cX8_oneMore 8 = .ok (.invokestatic 122, 3) := by decide +kernel
theorem dX8_oneMore_11 : decode cX8_oneMore 11 = .ok (.aload_n 0, 1) := by decide +kernel
theorem dX8_oneMore_12 : decode cX8_oneMore 12 = .ok (.getfield 13, 3) := by decide +kernel
theorem dX8_oneMore_15 : decode cX8_oneMore 15 = .ok (.iconst 1, 1) := by decide +kernel
theorem dX8_oneMore_16 : decode cX8_oneMore 16 = .ok (.bipush 11, 2) := by decide +kernel
theorem dX8_oneMore_18 : decode cX8_oneMore 18 = .ok (.aload_n 0, 1) := by decide +kernel
theorem dX8_oneMore_19 : decode cX8_oneMore 19 = .ok (.getfield 9, 3) := by decide +kernel
theorem dX8_oneMore_22 : decode cX8_oneMore 22 = .ok (.iconst 1, 1) := by decide +kernel
theorem dX8_oneMore_23 : decode cX8_oneMore 23 = .ok (.iaload, 1) := by decide +kernel
theorem dX8_oneMore_24 : decode cX8_oneMore 24 = .ok (.iconst 1, 1) := by decide +kernel
theorem dX8_oneMore_25 : decode cX8_oneMore 25 = .ok (.iadd, 1) := by decide +kernel
theorem dX8_oneMore_26 : decode cX8_oneMore 26 = .ok (.invokestatic 161, 3) := by decide +kernel
theorem dX8_oneMore_29 : decode cX8_oneMore 29 = .ok (.iastore, 1) := by decide +kernel
theorem dX8_oneMore_30 : decode cX8_oneMore 30 = .ok (.aload_n 0, 1) := by decide +kernel
theorem dX8_oneMore_31 : decode cX8_oneMore 31 = .ok (.getfield 13, 3) := by decide +kernel
theorem dX8_oneMore_34 : decode cX8_oneMore 34 = .ok (.invokestatic 141, 3) := by decide +kernel
theorem dX8_oneMore_37 : decode cX8_oneMore 37 = .ok (.ireturn, 1) := by decide +kernel
theorem dX8_bestYear_0 : decode cX8_bestYear 0 = .ok (.iconst 0, 1) := by decide +kernel
theorem dX8_bestYear_1 : decode cX8_bestYear 1 = .ok (.istore_n 1, 1) := by decide +kernel
theorem dX8_bestYear_2 : decode cX8_bestYear 2 = .ok (.iconst (-1), 1) := by decide +kernel
theorem dX8_bestYear_3 : decode cX8_bestYear 3 = .ok (.istore_n 2, 1) := by decide +kernel
theorem dX8_bestYear_4 : decode cX8_bestYear 4 = .ok (.iconst 0, 1) := by decide +kernel
theorem dX8_bestYear_5 : decode cX8_bestYear 5 = .ok (.istore_n 3, 1) := by decide +kernel
theorem dX8_bestYear_6 : decode cX8_bestYear 6 = .ok (.iload_n 3, 1) := by decide +kernel
theorem dX8_bestYear_7 : decode cX8_bestYear 7 = .ok (.bipush 12, 2) := by decide +kernel
theorem dX8_bestYear_9 : decode cX8_bestYear 9 = .ok (.if_icmp .ge 57, 3) := by decide +kernel
theorem dX8_bestYear_12 : decode cX8_bestYear 12 = .ok (.aload_n 0, 1) := by decide +kernel
theorem dX8_bestYear_13 : decode cX8_bestYear 13 = .ok (.getfield 9, 3) := by decide +kernel
theorem dX8_bestYear_16 : decode cX8_bestYear 16 = .ok (.aload_n 0, 1) := by decide +kernel
theorem dX8_bestYear_17 : decode cX8_bestYear 17 = .ok (.getfield 13, 3) := by decide +kernel
theorem dX8_bestYear_20 : decode cX8_bestYear 20 = .ok (.invokestatic 122, 3) := by decide +kernel
theorem dX8_bestYear_23 : decode cX8_bestYear 23 = .ok (.aload_n 0, 1) := by decide +kernel
theorem dX8_bestYear_24 : decode cX8_bestYear 24 = .ok (.getfield 13, 3) := by decide +kernel
theorem dX8_bestYear_27 : decode cX8_bestYear 27 = .ok (.iconst 1, 1) := by decide +kernel
theorem dX8_bestYear_28 : decode cX8_bestYear 28 = .ok (.iload_n 3, 1) := by decide +kernel
theorem dX8_bestYear_29 : decode cX8_bestYear 29 = .ok (.iastore, 1) := by decide +kernel
theorem dX8_bestYear_30 : decode cX8_bestYear 30 = .ok (.aload_n 0, 1) := by decide +kernel
theorem dX8_bestYear_31 : decode cX8_bestYear 31 = .ok (.aload_n 0, 1) := by decide +kernel
theorem dX8_bestYear_32 : decode cX8_bestYear 32 = .ok (.getfield 13, 3) := by decide +kernel
theorem dX8_bestYear_35 : decode cX8_bestYear 35 = .ok (.aload_n 0, 1) := by decide +kernel
theorem dX8_bestYear_36 : decode cX8_bestYear 36 = .ok (.getfield 13, 3) := by decide +kernel
theorem dX8_bestYear_39 : decode cX8_bestYear 39 = .ok (.iconst 2, 1) := by decide +kernel
theorem dX8_bestYear_40 : decode cX8_bestYear 40 = .ok (.iaload, 1) := by decide +kernel
theorem dX8_bestYear_41 : decode cX8_bestYear 41 = .ok (.invokevirtual 155, 3) := by decide +kernel
theorem dX8_bestYear_44 : decode cX8_bestYear 44 = .ok (.istore 4, 2) := by decide +kernel
theorem dX8_bestYear_46 : decode cX8_bestYear 46 = .ok (.iload 4, 2) := by decide +kernel
theorem dX8_bestYear_48 : decode cX8_bestYear 48 = .ok (.iload_n 2, 1) := by decide +kernel
theorem dX8_bestYear_49 : decode cX8_bestYear 49 = .ok (.if_icmp .gt 6, 3) := by decide +kernel
theorem dX8_bestYear_52 : decode cX8_bestYear 52 = .ok (.goto 8, 3) := by decide +kernel
theorem dX8_bestYear_55 : decode cX8_bestYear 55 = .ok (.iload_n 3, 1) := by decide +kernel
theorem dX8_bestYear_56 : decode cX8_bestYear 56 = .ok (.istore_n 1, 1) := by decide +kernel
theorem dX8_bestYear_57 : decode cX8_bestYear 57 = .ok (.iload 4, 2) := by decide +kernel
theorem dX8_bestYear_59 : decode cX8_bestYear 59 = .ok (.istore_n 2, 1) := by decide +kernel
theorem dX8_bestYear_60 : decode cX8_bestYear 60 = .ok (.iinc 3 1, 3) := by decide +kernel
theorem dX8_bestYear_63 : decode cX8_bestYear 63 = .ok (.goto (-57), 3) := by decide +kernel
theorem dX8_bestYear_66 : decode cX8_bestYear 66 = .ok (.iload_n 1, 1) := by decide +kernel
theorem dX8_bestYear_67 : decode cX8_bestYear 67 = .ok (.ireturn, 1) := by decide +kernel
theorem dX8_waterOf_0 : decode cX8_waterOf 0 = .ok (.aload_n 0, 1) := by decide +kernel
theorem dX8_waterOf_1 : decode cX8_waterOf 1 = .ok (.getfield 9, 3) := by decide +kernel
theorem dX8_waterOf_4 : decode cX8_waterOf 4 = .ok (.iload_n 1, 1) := by decide +kernel
theorem dX8_waterOf_5 : decode cX8_waterOf 5 = .ok (.aload_n 0, 1) := by decide +kernel
theorem dX8_waterOf_6 : decode cX8_waterOf 6 = .ok (.getfield 9, 3) := by decide +kernel
theorem dX8_waterOf_9 : decode cX8_waterOf 9 = .ok (.iconst 1, 1) := by decide +kernel
theorem dX8_waterOf_10 : decode cX8_waterOf 10 = .ok (.iaload, 1) := by decide +kernel
theorem dX8_waterOf_11 : decode cX8_waterOf 11 = .ok (.invokestatic 55, 3) := by decide +kernel
theorem dX8_waterOf_14 : decode cX8_waterOf 14 = .ok (.iaload, 1) := by decide +kernel
theorem dX8_waterOf_15 : decode cX8_waterOf 15 = .ok (.aload_n 0, 1) := by decide +kernel
theorem dX8_waterOf_16 : decode cX8_waterOf 16 = .ok (.getfield 9, 3) := by decide +kernel
theorem dX8_waterOf_19 : decode cX8_waterOf 19 = .ok (.iload_n 1, 1) := by decide +kernel
theorem dX8_waterOf_20 : decode cX8_waterOf 20 = .ok (.invokestatic 69, 3) := by decide +kernel
theorem dX8_waterOf_23 : decode cX8_waterOf 23 = .ok (.isub, 1) := by decide +kernel
theorem dX8_waterOf_24 : decode cX8_waterOf 24 = .ok (.ireturn, 1) := by decide +kernel
theorem dX8_water_0 : decode cX8_water 0 = .ok (.aload_n 0, 1) := by decide +kernel
theorem dX8_water_1 : decode cX8_water 1 = .ok (.iload_n 1, 1) := by decide +kernel
theorem dX8_water_2 : decode cX8_water 2 = .ok (.invokevirtual 101, 3) := by decide +kernel
theorem dX8_water_5 : decode cX8_water 5 = .ok (.ifCond .ne 9, 3) := by decide +kernel
theorem dX8_water_8 : decode cX8_water 8 = .ok (.aload_n 0, 1) := by decide +kernel
theorem dX8_water_9 : decode cX8_water 9 = .ok (.iconst (-1), 1) := by decide +kernel
theorem dX8_water_10 : decode cX8_water 10 = .ok (.invokevirtual 164, 3) := by decide +kernel
theorem dX8_water_13 : decode cX8_water 13 = .ok (.ireturn, 1) := by decide +kernel
theorem dX8_water_14 : decode cX8_water 14 = .ok (.aload_n 0, 1) := by decide +kernel
theorem dX8_water_15 : decode cX8_water 15 = .ok (.getfield 9, 3) := by decide +kernel
theorem dX8_water_18 : decode cX8_water 18 = .ok (.bipush 20, 2) := by decide +kernel
theorem dX8_water_20 : decode cX8_water 20 = .ok (.iload_n 1, 1) := by decide +kernel
theorem dX8_water_21 : decode cX8_water 21 = .ok (.iadd, 1) := by decide +kernel
theorem dX8_water_22 : decode cX8_water 22 = .ok (.iaload, 1) := by decide +kernel
theorem dX8_water_23 : decode cX8_water 23 = .ok (.ifCond .ge 12, 3) := by decide +kernel
theorem dX8_water_26 : decode cX8_water 26 = .ok (.aload_n 0, 1) := by decide +kernel
theorem dX8_water_27 : decode cX8_water 27 = .ok (.bipush (-3), 2) := by decide +kernel
theorem dX8_water_29 : decode cX8_water 29 = .ok (.invokevirtual 164, 3) := by decide +kernel
theorem dX8_water_32 : decode cX8_water 32 = .ok (.goto 8, 3) := by decide +kernel
theorem dX8_water_35 : decode cX8_water 35 = .ok (.aload_n 0, 1) := by decide +kernel
theorem dX8_water_36 : decode cX8_water 36 = .ok (.iload_n 1, 1) := by decide +kernel
theorem dX8_water_37 : decode cX8_water 37 = .ok (.invokevirtual 167, 3) := by decide +kernel
theorem dX8_water_40 : decode cX8_water 40 = .ok (.ireturn, 1) := by decide +kernel
theorem dX8_bestWash_0 : decode cX8_bestWash 0 = .ok (.bipush (-9), 2) := by decide +kernel
theorem dX8_bestWash_2 : decode cX8_bestWash 2 = .ok (.istore_n 1, 1) := by decide +kernel
theorem dX8_bestWash_3 : decode cX8_bestWash 3 = .ok (.iconst 0, 1) := by decide +kernel
theorem dX8_bestWash_4 : decode cX8_bestWash 4 = .ok (.istore_n 2, 1) := by decide +kernel
theorem dX8_bestWash_5 : decode cX8_bestWash 5 = .ok (.iconst 0, 1) := by decide +kernel
theorem dX8_bestWash_6 : decode cX8_bestWash 6 = .ok (.istore_n 3, 1) := by decide +kernel
theorem dX8_bestWash_7 : decode cX8_bestWash 7 = .ok (.iload_n 3, 1) := by decide +kernel
theorem dX8_bestWash_8 : decode cX8_bestWash 8 = .ok (.aload_n 0, 1) := by decide +kernel
theorem dX8_bestWash_9 : decode cX8_bestWash 9 = .ok (.getfield 9, 3) := by decide +kernel
theorem dX8_bestWash_12 : decode cX8_bestWash 12 = .ok (.iconst 0, 1) := by decide +kernel
theorem dX8_bestWash_13 : decode cX8_bestWash 13 = .ok (.iaload, 1) := by decide +kernel
theorem dX8_bestWash_14 : decode cX8_bestWash 14 = .ok (.if_icmp .ge 29, 3) := by decide +kernel
theorem dX8_bestWash_17 : decode cX8_bestWash 17 = .ok (.aload_n 0, 1) := by decide +kernel
theorem dX8_bestWash_18 : decode cX8_bestWash 18 = .ok (.iload_n 3, 1) := by decide +kernel
theorem dX8_bestWash_19 : decode cX8_bestWash 19 = .ok (.invokevirtual 167, 3) := by decide +kernel
theorem dX8_bestWash_22 : decode cX8_bestWash 22 = .ok (.iload_n 2, 1) := by decide +kernel
theorem dX8_bestWash_23 : decode cX8_bestWash 23 = .ok (.if_icmp .gt 6, 3) := by decide +kernel
theorem dX8_bestWash_26 : decode cX8_bestWash 26 = .ok (.goto 11, 3) := by decide +kernel
theorem dX8_bestWash_29 : decode cX8_bestWash 29 = .ok (.iload_n 3, 1) := by decide +kernel
theorem dX8_bestWash_30 : decode cX8_bestWash 30 = .ok (.istore_n 1, 1) := by decide +kernel
theorem dX8_bestWash_31 : decode cX8_bestWash 31 = .ok (.aload_n 0, 1) := by decide +kernel
theorem dX8_bestWash_32 : decode cX8_bestWash 32 = .ok (.iload_n 3, 1) := by decide +kernel
theorem dX8_bestWash_33 : decode cX8_bestWash 33 = .ok (.invokevirtual 167, 3) := by decide +kernel
theorem dX8_bestWash_36 : decode cX8_bestWash 36 = .ok (.istore_n 2, 1) := by decide +kernel
theorem dX8_bestWash_37 : decode cX8_bestWash 37 = .ok (.iinc 3 1, 3) := by decide +kernel
theorem dX8_bestWash_40 : decode cX8_bestWash 40 = .ok (.goto (-33), 3) := by decide +kernel
theorem dX8_bestWash_43 : decode cX8_bestWash 43 = .ok (.iload_n 1, 1) := by decide +kernel
theorem dX8_bestWash_44 : decode cX8_bestWash 44 = .ok (.ireturn, 1) := by decide +kernel
theorem dX8_sour_0 : decode cX8_sour 0 = .ok (.iconst 0, 1) := by decide +kernel
theorem dX8_sour_1 : decode cX8_sour 1 = .ok (.istore_n 1, 1) := by decide +kernel
theorem dX8_sour_2 : decode cX8_sour 2 = .ok (.iconst 0, 1) := by decide +kernel
theorem dX8_sour_3 : decode cX8_sour 3 = .ok (.istore_n 2, 1) := by decide +kernel
theorem dX8_sour_4 : decode cX8_sour 4 = .ok (.iload_n 2, 1) := by decide +kernel
theorem dX8_sour_5 : decode cX8_sour 5 = .ok (.aload_n 0, 1) := by decide +kernel
theorem dX8_sour_6 : decode cX8_sour 6 = .ok (.getfield 9, 3) := by decide +kernel
theorem dX8_sour_9 : decode cX8_sour 9 = .ok (.iconst 0, 1) := by decide +kernel
theorem dX8_sour_10 : decode cX8_sour 10 = .ok (.iaload, 1) := by decide +kernel
theorem dX8_sour_11 : decode cX8_sour 11 = .ok (.if_icmp .ge 27, 3) := by decide +kernel
theorem dX8_sour_14 : decode cX8_sour 14 = .ok (.iload_n 1, 1) := by decide +kernel
theorem dX8_sour_15 : decode cX8_sour 15 = .ok (.aload_n 0, 1) := by decide +kernel
theorem dX8_sour_16 : decode cX8_sour 16 = .ok (.iload_n 2, 1) := by decide +kernel
theorem dX8_sour_17 : decode cX8_sour 17 = .ok (.invokevirtual 167, 3) := by decide +kernel
theorem dX8_sour_20 : decode cX8_sour 20 = .ok (.ifCond .le 9, 3) := by decide +kernel
theorem dX8_sour_23 : decode cX8_sour 23 = .ok (.iconst 1, 1) := by decide +kernel
theorem dX8_sour_24 : decode cX8_sour 24 = .ok (.iload_n 2, 1) := by decide +kernel
theorem dX8_sour_25 : decode cX8_sour 25 = .ok (.ishl, 1) := by decide +kernel
theorem dX8_sour_26 : decode cX8_sour 26 = .ok (.goto 4, 3) := by decide +kernel
theorem dX8_sour_29 : decode cX8_sour 29 = .ok (.iconst 0, 1) := by decide +kernel
theorem dX8_sour_30 : decode cX8_sour 30 = .ok (.ior, 1) := by decide +kernel
theorem dX8_sour_31 : decode cX8_sour 31 = .ok (.istore_n 1, 1) := by decide +kernel
theorem dX8_sour_32 : decode cX8_sour 32 = .ok (.iinc 2 1, 3) := by decide +kernel
theorem dX8_sour_35 : decode cX8_sour 35 = .ok (.goto (-31), 3) := by decide +kernel
theorem dX8_sour_38 : decode cX8_sour 38 = .ok (.iload_n 1, 1) := by decide +kernel
theorem dX8_sour_39 : decode cX8_sour 39 = .ok (.ireturn, 1) := by decide +kernel
theorem dX8_regret_0 : decode cX8_regret 0 = .ok (.aload_n 0, 1) := by decide +kernel
theorem dX8_regret_1 : decode cX8_regret 1 = .ok (.iload_n 1, 1) := by decide +kernel
theorem dX8_regret_2 : decode cX8_regret 2 = .ok (.invokevirtual 101, 3) := by decide +kernel
theorem dX8_regret_5 : decode cX8_regret 5 = .ok (.ifCond .eq 33, 3) := by decide +kernel
theorem dX8_regret_8 : decode cX8_regret 8 = .ok (.iconst 0, 1) := by decide +kernel
theorem dX8_regret_9 : decode cX8_regret 9 = .ok (.aload_n 0, 1) := by decide +kernel
theorem dX8_regret_10 : decode cX8_regret 10 = .ok (.getfield 9, 3) := by decide +kernel
theorem dX8_regret_13 : decode cX8_regret 13 = .ok (.iload_n 1, 1) := by decide +kernel
theorem dX8_regret_14 : decode cX8_regret 14 = .ok (.aload_n 0, 1) := by decide +kernel
theorem dX8_regret_15 : decode cX8_regret 15 = .ok (.iload_n 1, 1) := by decide +kernel
theorem dX8_regret_16 : decode cX8_regret 16 = .ok (.invokevirtual 158, 3) := by decide +kernel
theorem dX8_regret_19 : decode cX8_regret 19 = .ok (.invokestatic 55, 3) := by decide +kernel
theorem dX8_regret_22 : decode cX8_regret 22 = .ok (.iaload, 1) := by decide +kernel
theorem dX8_regret_23 : decode cX8_regret 23 = .ok (.aload_n 0, 1) := by decide +kernel
theorem dX8_regret_24 : decode cX8_regret 24 = .ok (.getfield 9, 3) := by decide +kernel
theorem dX8_regret_27 : decode cX8_regret 27 = .ok (.iload_n 1, 1) := by decide +kernel
theorem dX8_regret_28 : decode cX8_regret 28 = .ok (.invokestatic 69, 3) := by decide +kernel
theorem dX8_regret_31 : decode cX8_regret 31 = .ok (.isub, 1) := by decide +kernel
theorem dX8_regret_32 : decode cX8_regret 32 = .ok (.invokestatic 51, 3) := by decide +kernel
theorem dX8_regret_35 : decode cX8_regret 35 = .ok (.goto 8, 3) := by decide +kernel
theorem dX8_regret_38 : decode cX8_regret 38 = .ok (.aload_n 0, 1) := by decide +kernel
theorem dX8_regret_39 : decode cX8_regret 39 = .ok (.iconst (-1), 1) := by decide +kernel
theorem dX8_regret_40 : decode cX8_regret 40 = .ok (.invokevirtual 41, 3) := by decide +kernel
theorem dX8_regret_43 : decode cX8_regret 43 = .ok (.ireturn, 1) := by decide +kernel
theorem dX8_two_0 : decode cX8_two 0 = .ok (.aload_n 0, 1) := by decide +kernel
theorem dX8_two_1 : decode cX8_two 1 = .ok (.iload_n 1, 1) := by decide +kernel
theorem dX8_two_2 : decode cX8_two 2 = .ok (.iload_n 2, 1) := by decide +kernel
theorem dX8_two_3 : decode cX8_two 3 = .ok (.iconst 0, 1) := by decide +kernel
theorem dX8_two_4 : decode cX8_two 4 = .ok (.invokevirtual 132, 3) := by decide +kernel
theorem dX8_two_7 : decode cX8_two 7 = .ok (.istore_n 3, 1) := by decide +kernel
theorem dX8_two_8 : decode cX8_two 8 = .ok (.iload_n 3, 1) := by decide +kernel
theorem dX8_two_9 : decode cX8_two 9 = .ok (.ifCond .eq 9, 3) := by decide +kernel
theorem dX8_two_12 : decode cX8_two 12 = .ok (.aload_n 0, 1) := by decide +kernel
theorem dX8_two_13 : decode cX8_two 13 = .ok (.iload_n 3, 1) := by decide +kernel
theorem dX8_two_14 : decode cX8_two 14 = .ok (.invokevirtual 41, 3) := by decide +kernel
theorem dX8_two_17 : decode cX8_two 17 = .ok (.ireturn, 1) := by decide +kernel
theorem dX8_two_18 : decode cX8_two 18 = .ok (.iconst 0, 1) := by decide +kernel
theorem dX8_two_19 : decode cX8_two 19 = .ok (.istore 4, 2) := by decide +kernel
theorem dX8_two_21 : decode cX8_two 21 = .ok (.iload 4, 2) := by decide +kernel
theorem dX8_two_23 : decode cX8_two 23 = .ok (.iconst 5, 1) := by decide +kernel
theorem dX8_two_24 : decode cX8_two 24 = .ok (.if_icmp .ge 120, 3) := by decide +kernel
theorem dX8_two_27 : decode cX8_two 27 = .ok (.iconst 0, 1) := by decide +kernel
theorem dX8_two_28 : decode cX8_two 28 = .ok (.istore 5, 2) := by decide +kernel
theorem dX8_two_30 : decode cX8_two 30 = .ok (.iload 5, 2) := by decide +kernel
theorem dX8_two_32 : decode cX8_two 32 = .ok (.iconst 5, 1) := by decide +kernel
theorem dX8_two_33 : decode cX8_two 33 = .ok (.if_icmp .ge 105, 3) := by decide +kernel
theorem dX8_two_36 : decode cX8_two 36 = .ok (.aload_n 0, 1) := by decide +kernel
theorem dX8_two_37 : decode cX8_two 37 = .ok (.getfield 9, 3) := by decide +kernel
theorem dX8_two_40 : decode cX8_two 40 = .ok (.iload_n 1, 1) := by decide +kernel
theorem dX8_two_41 : decode cX8_two 41 = .ok (.iload_n 2, 1) := by decide +kernel
theorem dX8_two_42 : decode cX8_two 42 = .ok (.iload 4, 2) := by decide +kernel
theorem dX8_two_44 : decode cX8_two 44 = .ok (.iload 5, 2) := by decide +kernel
theorem dX8_two_46 : decode cX8_two 46 = .ok (.iadd, 1) := by decide +kernel
theorem dX8_two_47 : decode cX8_two 47 = .ok (.invokestatic 73, 3) := by decide +kernel
theorem dX8_two_50 : decode cX8_two 50 = .ok (.istore 6, 2) := by decide +kernel
theorem dX8_two_52 : decode cX8_two 52 = .ok (.iconst 1, 1) := by decide +kernel
theorem dX8_two_53 : decode cX8_two 53 = .ok (.istore 7, 2) := by decide +kernel
theorem dX8_two_55 : decode cX8_two 55 = .ok (.iconst 0, 1) := by decide +kernel
theorem dX8_two_56 : decode cX8_two 56 = .ok (.istore 8, 2) := by decide +kernel
theorem dX8_two_58 : decode cX8_two 58 = .ok (.iload 8, 2) := by decide +kernel
theorem dX8_two_60 : decode cX8_two 60 = .ok (.iconst 5, 1) := by decide +kernel
theorem dX8_two_61 : decode cX8_two 61 = .ok (.if_icmp .ge 57, 3) := by decide +kernel
theorem dX8_two_64 : decode cX8_two 64 = .ok (.iload 7, 2) := by decide +kernel
theorem dX8_two_66 : decode cX8_two 66 = .ok (.aload_n 0, 1) := by decide +kernel
theorem dX8_two_67 : decode cX8_two 67 = .ok (.getfield 9, 3) := by decide +kernel
theorem dX8_two_70 : decode cX8_two 70 = .ok (.iload_n 1, 1) := by decide +kernel
theorem dX8_two_71 : decode cX8_two 71 = .ok (.iload_n 2, 1) := by decide +kernel
theorem dX8_two_72 : decode cX8_two 72 = .ok (.iload 8, 2) := by decide +kernel
theorem dX8_two_74 : decode cX8_two 74 = .ok (.iload 5, 2) := by decide +kernel
theorem dX8_two_76 : decode cX8_two 76 = .ok (.iadd, 1) := by decide +kernel
theorem dX8_two_77 : decode cX8_two 77 = .ok (.invokestatic 73, 3) := by decide +kernel
theorem dX8_two_80 : decode cX8_two 80 = .ok (.iload 6, 2) := by decide +kernel
theorem dX8_two_82 : decode cX8_two 82 = .ok (.if_icmp .gt 26, 3) := by decide +kernel
theorem dX8_two_85 : decode cX8_two 85 = .ok (.aload_n 0, 1) := by decide +kernel
theorem dX8_two_86 : decode cX8_two 86 = .ok (.getfield 9, 3) := by decide +kernel
theorem dX8_two_89 : decode cX8_two 89 = .ok (.iload_n 1, 1) := by decide +kernel
theorem dX8_two_90 : decode cX8_two 90 = .ok (.iload_n 2, 1) := by decide +kernel
theorem dX8_two_91 : decode cX8_two 91 = .ok (.iload 4, 2) := by decide +kernel
theorem dX8_two_93 : decode cX8_two 93 = .ok (.iload 8, 2) := by decide +kernel
theorem dX8_two_95 : decode cX8_two 95 = .ok (.iadd, 1) := by decide +kernel
theorem dX8_two_96 : decode cX8_two 96 = .ok (.invokestatic 73, 3) := by decide +kernel
theorem dX8_two_99 : decode cX8_two 99 = .ok (.iload 6, 2) := by decide +kernel
theorem dX8_two_101 : decode cX8_two 101 = .ok (.if_icmp .lt 7, 3) := by decide +kernel
theorem dX8_two_104 : decode cX8_two 104 = .ok (.iconst 1, 1) := by decide +kernel
theorem dX8_two_105 : decode cX8_two 105 = .ok (.goto 4, 3) := by decide +kernel
theorem dX8_two_108 : decode cX8_two 108 = .ok (.iconst 0, 1) := by decide +kernel
theorem dX8_two_109 : decode cX8_two 109 = .ok (.iand, 1) := by decide +kernel
theorem dX8_two_110 : decode cX8_two 110 = .ok (.istore 7, 2) := by decide +kernel
theorem dX8_two_112 : decode cX8_two 112 = .ok (.iinc 8 1, 3) := by decide +kernel
theorem dX8_two_115 : decode cX8_two 115 = .ok (.goto (-57), 3) := by decide +kernel
theorem dX8_two_118 : decode cX8_two 118 = .ok (.iload 7, 2) := by decide +kernel
theorem dX8_two_120 : decode cX8_two 120 = .ok (.ifCond .eq 12, 3) := by decide +kernel
theorem dX8_two_123 : decode cX8_two 123 = .ok (.bipush 10, 2) := by decide +kernel
theorem dX8_two_125 : decode cX8_two 125 = .ok (.iload 4, 2) := by decide +kernel
theorem dX8_two_127 : decode cX8_two 127 = .ok (.imul, 1) := by decide +kernel
theorem dX8_two_128 : decode cX8_two 128 = .ok (.iload 5, 2) := by decide +kernel
theorem dX8_two_130 : decode cX8_two 130 = .ok (.iadd, 1) := by decide +kernel
theorem dX8_two_131 : decode cX8_two 131 = .ok (.ireturn, 1) := by decide +kernel
theorem dX8_two_132 : decode cX8_two 132 = .ok (.iinc 5 1, 3) := by decide +kernel
theorem dX8_two_135 : decode cX8_two 135 = .ok (.goto (-105), 3) := by decide +kernel
theorem dX8_two_138 : decode cX8_two 138 = .ok (.iinc 4 1, 3) := by decide +kernel
theorem dX8_two_141 : decode cX8_two 141 = .ok (.goto (-120), 3) := by decide +kernel
theorem dX8_two_144 : decode cX8_two 144 = .ok (.bipush (-9), 2) := by decide +kernel
theorem dX8_two_146 : decode cX8_two 146 = .ok (.ireturn, 1) := by decide +kernel
theorem dX8_gcd_0 : decode cX8_gcd 0 = .ok (.lload_n 0, 1) := by decide +kernel
theorem dX8_gcd_1 : decode cX8_gcd 1 = .ok (.lstore 4, 2) := by decide +kernel
theorem dX8_gcd_3 : decode cX8_gcd 3 = .ok (.lload_n 2, 1) := by decide +kernel
theorem dX8_gcd_4 : decode cX8_gcd 4 = .ok (.lstore 6, 2) := by decide +kernel
theorem dX8_gcd_6 : decode cX8_gcd 6 = .ok (.lload 6, 2) := by decide +kernel
theorem dX8_gcd_8 : decode cX8_gcd 8 = .ok (.lconst 0, 1) := by decide +kernel
theorem dX8_gcd_9 : decode cX8_gcd 9 = .ok (.lcmp, 1) := by decide +kernel
theorem dX8_gcd_10 : decode cX8_gcd 10 = .ok (.ifCond .eq 21, 3) := by decide +kernel
theorem dX8_gcd_13 : decode cX8_gcd 13 = .ok (.lload 4, 2) := by decide +kernel
theorem dX8_gcd_15 : decode cX8_gcd 15 = .ok (.lload 6, 2) := by decide +kernel
theorem dX8_gcd_17 : decode cX8_gcd 17 = .ok (.lrem, 1) := by decide +kernel
theorem dX8_gcd_18 : decode cX8_gcd 18 = .ok (.lstore 8, 2) := by decide +kernel
theorem dX8_gcd_20 : decode cX8_gcd 20 = .ok (.lload 6, 2) := by decide +kernel
theorem dX8_gcd_22 : decode cX8_gcd 22 = .ok (.lstore 4, 2) := by decide +kernel
theorem dX8_gcd_24 : decode cX8_gcd 24 = .ok (.lload 8, 2) := by decide +kernel
theorem dX8_gcd_26 : decode cX8_gcd 26 = .ok (.lstore 6, 2) := by decide +kernel
theorem dX8_gcd_28 : decode cX8_gcd 28 = .ok (.goto (-22), 3) := by decide +kernel
theorem dX8_gcd_31 : decode cX8_gcd 31 = .ok (.lload 4, 2) := by decide +kernel
theorem dX8_gcd_33 : decode cX8_gcd 33 = .ok (.lreturn, 1) := by decide +kernel
theorem dX8_partOf_0 : decode cX8_partOf 0 = .ok (.lload_n 0, 1) := by decide +kernel
theorem dX8_partOf_1 : decode cX8_partOf 1 = .ok (.lconst 0, 1) := by decide +kernel
theorem dX8_partOf_2 : decode cX8_partOf 2 = .ok (.lcmp, 1) := by decide +kernel
theorem dX8_partOf_3 : decode cX8_partOf 3 = .ok (.ifCond .ne 7, 3) := by decide +kernel
theorem dX8_partOf_6 : decode cX8_partOf 6 = .ok (.iload 4, 2) := by decide +kernel
theorem dX8_partOf_8 : decode cX8_partOf 8 = .ok (.i2l, 1) := by decide +kernel
theorem dX8_partOf_9 : decode cX8_partOf 9 = .ok (.lreturn, 1) := by decide +kernel
theorem dX8_partOf_10 : decode cX8_partOf 10 = .ok (.iload 4, 2) := by decide +kernel
theorem dX8_partOf_12 : decode cX8_partOf 12 = .ok (.ifCond .ne 7, 3) := by decide +kernel
theorem dX8_partOf_15 : decode cX8_partOf 15 = .ok (.lload_n 0, 1) := by decide +kernel
theorem dX8_partOf_16 : decode cX8_partOf 16 = .ok (.goto 4, 3) := by decide +kernel
theorem dX8_partOf_19 : decode cX8_partOf 19 = .ok (.lload_n 2, 1) := by decide +kernel
theorem dX8_partOf_20 : decode cX8_partOf 20 = .ok (.lload_n 0, 1) := by decide +kernel
theorem dX8_partOf_21 : decode cX8_partOf 21 = .ok (.lload_n 2, 1) := by decide +kernel
theorem dX8_partOf_22 : decode cX8_partOf 22 = .ok (.invokestatic 170, 3) := by decide +kernel
theorem dX8_partOf_25 : decode cX8_partOf 25 = .ok (.ldiv, 1) := by decide +kernel
theorem dX8_partOf_26 : decode cX8_partOf 26 = .ok (.lreturn, 1) := by decide +kernel
theorem dX8_slips_0 : decode cX8_slips 0 = .ok (.lconst 0, 1) := by decide +kernel
theorem dX8_slips_1 : decode cX8_slips 1 = .ok (.lstore 5, 2) := by decide +kernel
theorem dX8_slips_3 : decode cX8_slips 3 = .ok (.iconst 0, 1) := by decide +kernel
theorem dX8_slips_4 : decode cX8_slips 4 = .ok (.istore 7, 2) := by decide +kernel
theorem dX8_slips_6 : decode cX8_slips 6 = .ok (.iload 7, 2) := by decide +kernel
theorem dX8_slips_8 : decode cX8_slips 8 = .ok (.iconst 1, 1) := by decide +kernel
theorem dX8_slips_9 : decode cX8_slips 9 = .ok (.iload_n 2, 1) := by decide +kernel
theorem dX8_slips_10 : decode cX8_slips 10 = .ok (.ishl, 1) := by decide +kernel
theorem dX8_slips_11 : decode cX8_slips 11 = .ok (.if_icmp .ge 101, 3) := by decide +kernel
theorem dX8_slips_14 : decode cX8_slips 14 = .ok (.lconst 1, 1) := by decide +kernel
theorem dX8_slips_15 : decode cX8_slips 15 = .ok (.lstore 8, 2) := by decide +kernel
theorem dX8_slips_17 : decode cX8_slips 17 = .ok (.iload 7, 2) := by decide +kernel
theorem dX8_slips_19 : decode cX8_slips 19 = .ok (.invokestatic 174, 3) := by decide +kernel
theorem dX8_slips_22 : decode cX8_slips 22 = .ok (.istore 10, 2) := by decide +kernel
theorem dX8_slips_24 : decode cX8_slips 24 = .ok (.iload 10, 2) := by decide +kernel
theorem dX8_slips_26 : decode cX8_slips 26 = .ok (.iload_n 2, 1) := by decide +kernel
theorem dX8_slips_27 : decode cX8_slips 27 = .ok (.if_icmp .ge 18, 3) := by decide +kernel
theorem dX8_slips_30 : decode cX8_slips 30 = .ok (.lload 8, 2) := by decide +kernel
theorem dX8_slips_32 : decode cX8_slips 32 = .ok (.iload_n 3, 1) := by decide +kernel
theorem dX8_slips_33 : decode cX8_slips 33 = .ok (.iconst 1, 1) := by decide +kernel
theorem dX8_slips_34 : decode cX8_slips 34 = .ok (.isub, 1) := by decide +kernel
theorem dX8_slips_35 : decode cX8_slips 35 = .ok (.i2l, 1) := by decide +kernel
theorem dX8_slips_36 : decode cX8_slips 36 = .ok (.lmul, 1) := by decide +kernel
theorem dX8_slips_37 : decode cX8_slips 37 = .ok (.lstore 8, 2) := by decide +kernel
theorem dX8_slips_39 : decode cX8_slips 39 = .ok (.iinc 10 1, 3) := by decide +kernel
theorem dX8_slips_42 : decode cX8_slips 42 = .ok (.goto (-18), 3) := by decide +kernel
theorem dX8_slips_45 : decode cX8_slips 45 = .ok (.aload_n 0, 1) := by decide +kernel
theorem dX8_slips_46 : decode cX8_slips 46 = .ok (.getfield 9, 3) := by decide +kernel
theorem dX8_slips_49 : decode cX8_slips 49 = .ok (.iload_n 1, 1) := by decide +kernel
theorem dX8_slips_50 : decode cX8_slips 50 = .ok (.iconst 5, 1) := by decide +kernel
theorem dX8_slips_51 : decode cX8_slips 51 = .ok (.iload_n 2, 1) := by decide +kernel
theorem dX8_slips_52 : decode cX8_slips 52 = .ok (.iload 7, 2) := by decide +kernel
theorem dX8_slips_54 : decode cX8_slips 54 = .ok (.invokestatic 174, 3) := by decide +kernel
theorem dX8_slips_57 : decode cX8_slips 57 = .ok (.isub, 1) := by decide +kernel
theorem dX8_slips_58 : decode cX8_slips 58 = .ok (.imul, 1) := by decide +kernel
theorem dX8_slips_59 : decode cX8_slips 59 = .ok (.iconst 0, 1) := by decide +kernel
theorem dX8_slips_60 : decode cX8_slips 60 = .ok (.invokestatic 73, 3) := by decide +kernel
theorem dX8_slips_63 : decode cX8_slips 63 = .ok (.istore 10, 2) := by decide +kernel
theorem dX8_slips_65 : decode cX8_slips 65 = .ok (.lload 5, 2) := by decide +kernel
theorem dX8_slips_67 : decode cX8_slips 67 = .ok (.iload 4, 2) := by decide +kernel
theorem dX8_slips_69 : decode cX8_slips 69 = .ok (.ifCond .ge 21, 3) := by decide +kernel
theorem dX8_slips_72 : decode cX8_slips 72 = .ok (.lload 8, 2) := by decide +kernel
theorem dX8_slips_74 : decode cX8_slips 74 = .ok (.aload_n 0, 1) := by decide +kernel
theorem dX8_slips_75 : decode cX8_slips 75 = .ok (.getfield 9, 3) := by decide +kernel
theorem dX8_slips_78 : decode cX8_slips 78 = .ok (.iload_n 1, 1) := by decide +kernel
theorem dX8_slips_79 : decode cX8_slips 79 = .ok (.iload 10, 2) := by decide +kernel
theorem dX8_slips_81 : decode cX8_slips 81 = .ok (.invokestatic 55, 3) := by decide +kernel
theorem dX8_slips_84 : decode cX8_slips 84 = .ok (.iaload, 1) := by decide +kernel
theorem dX8_slips_85 : decode cX8_slips 85 = .ok (.i2l, 1) := by decide +kernel
theorem dX8_slips_86 : decode cX8_slips 86 = .ok (.lmul, 1) := by decide +kernel
theorem dX8_slips_87 : decode cX8_slips 87 = .ok (.goto 16, 3) := by decide +kernel
theorem dX8_slips_90 : decode cX8_slips 90 = .ok (.iload 10, 2) := by decide +kernel
theorem dX8_slips_92 : decode cX8_slips 92 = .ok (.iload 4, 2) := by decide +kernel
theorem dX8_slips_94 : decode cX8_slips 94 = .ok (.if_icmp .ne 8, 3) := by decide +kernel
theorem dX8_slips_97 : decode cX8_slips 97 = .ok (.lload 8, 2) := by decide +kernel
theorem dX8_slips_99 : decode cX8_slips 99 = .ok (.goto 4, 3) := by decide +kernel
theorem dX8_slips_102 : decode cX8_slips 102 = .ok (.lconst 0, 1) := by decide +kernel
theorem dX8_slips_103 : decode cX8_slips 103 = .ok (.ladd, 1) := by decide +kernel
theorem dX8_slips_104 : decode cX8_slips 104 = .ok (.lstore 5, 2) := by decide +kernel
theorem dX8_slips_106 : decode cX8_slips 106 = .ok (.iinc 7 1, 3) := by decide +kernel
theorem dX8_slips_109 : decode cX8_slips 109 = .ok (.goto (-103), 3) := by decide +kernel
theorem dX8_slips_112 : decode cX8_slips 112 = .ok (.lload 5, 2) := by decide +kernel
theorem dX8_slips_114 : decode cX8_slips 114 = .ok (.lreturn, 1) := by decide +kernel
theorem dX8_power_0 : decode cX8_power 0 = .ok (.lconst 1, 1) := by decide +kernel
theorem dX8_power_1 : decode cX8_power 1 = .ok (.lstore_n 2, 1) := by decide +kernel
theorem dX8_power_2 : decode cX8_power 2 = .ok (.iconst 0, 1) := by decide +kernel
theorem dX8_power_3 : decode cX8_power 3 = .ok (.istore 4, 2) := by decide +kernel
theorem dX8_power_5 : decode cX8_power 5 = .ok (.iload 4, 2) := by decide +kernel
theorem dX8_power_7 : decode cX8_power 7 = .ok (.iload_n 1, 1) := by decide +kernel
theorem dX8_power_8 : decode cX8_power 8 = .ok (.if_icmp .ge 14, 3) := by decide +kernel
theorem dX8_power_11 : decode cX8_power 11 = .ok (.lload_n 2, 1) := by decide +kernel
theorem dX8_power_12 : decode cX8_power 12 = .ok (.iload_n 0, 1) := by decide +kernel
theorem dX8_power_13 : decode cX8_power 13 = .ok (.i2l, 1) := by decide +kernel
theorem dX8_power_14 : decode cX8_power 14 = .ok (.lmul, 1) := by decide +kernel
theorem dX8_power_15 : decode cX8_power 15 = .ok (.lstore_n 2, 1) := by decide +kernel
theorem dX8_power_16 : decode cX8_power 16 = .ok (.iinc 4 1, 3) := by decide +kernel
theorem dX8_power_19 : decode cX8_power 19 = .ok (.goto (-14), 3) := by decide +kernel
theorem dX8_power_22 : decode cX8_power 22 = .ok (.lload_n 2, 1) := by decide +kernel
theorem dX8_power_23 : decode cX8_power 23 = .ok (.lreturn, 1) := by decide +kernel
theorem dX8_slip_0 : decode cX8_slip 0 = .ok (.aload_n 0, 1) := by decide +kernel
theorem dX8_slip_1 : decode cX8_slip 1 = .ok (.iload_n 1, 1) := by decide +kernel
theorem dX8_slip_2 : decode cX8_slip 2 = .ok (.invokevirtual 101, 3) := by decide +kernel
theorem dX8_slip_5 : decode cX8_slip 5 = .ok (.ifCond .eq 11, 3) := by decide +kernel
theorem dX8_slip_8 : decode cX8_slip 8 = .ok (.iload 4, 2) := by decide +kernel
theorem dX8_slip_10 : decode cX8_slip 10 = .ok (.invokestatic 105, 3) := by decide +kernel
theorem dX8_slip_13 : decode cX8_slip 13 = .ok (.ifCond .ne 9, 3) := by decide +kernel
theorem dX8_slip_16 : decode cX8_slip 16 = .ok (.aload_n 0, 1) := by decide +kernel
theorem dX8_slip_17 : decode cX8_slip 17 = .ok (.iconst (-1), 1) := by decide +kernel
theorem dX8_slip_18 : decode cX8_slip 18 = .ok (.invokevirtual 177, 3) := by decide +kernel
theorem dX8_slip_21 : decode cX8_slip 21 = .ok (.lreturn, 1) := by decide +kernel
theorem dX8_slip_22 : decode cX8_slip 22 = .ok (.iload_n 2, 1) := by decide +kernel
theorem dX8_slip_23 : decode cX8_slip 23 = .ok (.ifCond .lt 8, 3) := by decide +kernel
theorem dX8_slip_26 : decode cX8_slip 26 = .ok (.iload_n 3, 1) := by decide +kernel
theorem dX8_slip_27 : decode cX8_slip 27 = .ok (.iconst 2, 1) := by decide +kernel
theorem dX8_slip_28 : decode cX8_slip 28 = .ok (.if_icmp .ge 10, 3) := by decide +kernel
theorem dX8_slip_31 : decode cX8_slip 31 = .ok (.aload_n 0, 1) := by decide +kernel
theorem dX8_slip_32 : decode cX8_slip 32 = .ok (.bipush (-4), 2) := by decide +kernel
theorem dX8_slip_34 : decode cX8_slip 34 = .ok (.invokevirtual 177, 3) := by decide +kernel
theorem dX8_slip_37 : decode cX8_slip 37 = .ok (.lreturn, 1) := by decide +kernel
theorem dX8_slip_38 : decode cX8_slip 38 = .ok (.iload_n 2, 1) := by decide +kernel
theorem dX8_slip_39 : decode cX8_slip 39 = .ok (.bipush 8, 2) := by decide +kernel
theorem dX8_slip_41 : decode cX8_slip 41 = .ok (.if_icmp .gt 9, 3) := by decide +kernel
theorem dX8_slip_44 : decode cX8_slip 44 = .ok (.iload_n 3, 1) := by decide +kernel
theorem dX8_slip_45 : decode cX8_slip 45 = .ok (.bipush 20, 2) := by decide +kernel
theorem dX8_slip_47 : decode cX8_slip 47 = .ok (.if_icmp .le 10, 3) := by decide +kernel
theorem dX8_slip_50 : decode cX8_slip 50 = .ok (.aload_n 0, 1) := by decide +kernel
theorem dX8_slip_51 : decode cX8_slip 51 = .ok (.bipush (-6), 2) := by decide +kernel
theorem dX8_slip_53 : decode cX8_slip 53 = .ok (.invokevirtual 177, 3) := by decide +kernel
theorem dX8_slip_56 : decode cX8_slip 56 = .ok (.lreturn, 1) := by decide +kernel
theorem dX8_slip_57 : decode cX8_slip 57 = .ok (.iload 5, 2) := by decide +kernel
theorem dX8_slip_59 : decode cX8_slip 59 = .ok (.iconst 0, 1) := by decide +kernel
theorem dX8_slip_60 : decode cX8_slip 60 = .ok (.iconst 1, 1) := by decide +kernel
theorem dX8_slip_61 : decode cX8_slip 61 = .ok (.invokestatic 47, 3) := by decide +kernel
theorem dX8_slip_64 : decode cX8_slip 64 = .ok (.ifCond .ne 10, 3) := by decide +kernel
theorem dX8_slip_67 : decode cX8_slip 67 = .ok (.aload_n 0, 1) := by decide +kernel
theorem dX8_slip_68 : decode cX8_slip 68 = .ok (.bipush (-2), 2) := by decide +kernel
theorem dX8_slip_70 : decode cX8_slip 70 = .ok (.invokevirtual 177, 3) := by decide +kernel
theorem dX8_slip_73 : decode cX8_slip 73 = .ok (.lreturn, 1) := by decide +kernel
theorem dX8_slip_74 : decode cX8_slip 74 = .ok (.aload_n 0, 1) := by decide +kernel
theorem dX8_slip_75 : decode cX8_slip 75 = .ok (.iload_n 1, 1) := by decide +kernel
theorem dX8_slip_76 : decode cX8_slip 76 = .ok (.iload_n 2, 1) := by decide +kernel
theorem dX8_slip_77 : decode cX8_slip 77 = .ok (.iload_n 3, 1) := by decide +kernel
theorem dX8_slip_78 : decode cX8_slip 78 = .ok (.iload 4, 2) := by decide +kernel
theorem dX8_slip_80 : decode cX8_slip 80 = .ok (.invokevirtual 181, 3) := by decide +kernel
theorem dX8_slip_83 : decode cX8_slip 83 = .ok (.iload_n 3, 1) := by decide +kernel
theorem dX8_slip_84 : decode cX8_slip 84 = .ok (.iload_n 2, 1) := by decide +kernel
theorem dX8_slip_85 : decode cX8_slip 85 = .ok (.invokestatic 185, 3) := by decide +kernel
theorem dX8_slip_88 : decode cX8_slip 88 = .ok (.iload 5, 2) := by decide +kernel
theorem dX8_slip_90 : decode cX8_slip 90 = .ok (.invokestatic 189, 3) := by decide +kernel
theorem dX8_slip_93 : decode cX8_slip 93 = .ok (.lreturn, 1) := by decide +kernel
theorem dX8_mean_0 : decode cX8_mean 0 = .ok (.aload_n 0, 1) := by decide +kernel
theorem dX8_mean_1 : decode cX8_mean 1 = .ok (.iload_n 1, 1) := by decide +kernel
theorem dX8_mean_2 : decode cX8_mean 2 = .ok (.invokevirtual 101, 3) := by decide +kernel
theorem dX8_mean_5 : decode cX8_mean 5 = .ok (.ifCond .ne 9, 3) := by decide +kernel
theorem dX8_mean_8 : decode cX8_mean 8 = .ok (.aload_n 0, 1) := by decide +kernel
theorem dX8_mean_9 : decode cX8_mean 9 = .ok (.iconst (-1), 1) := by decide +kernel
theorem dX8_mean_10 : decode cX8_mean 10 = .ok (.invokevirtual 177, 3) := by decide +kernel
theorem dX8_mean_13 : decode cX8_mean 13 = .ok (.lreturn, 1) := by decide +kernel
theorem dX8_mean_14 : decode cX8_mean 14 = .ok (.iload_n 2, 1) := by decide +kernel
theorem dX8_mean_15 : decode cX8_mean 15 = .ok (.ifCond .lt 8, 3) := by decide +kernel
theorem dX8_mean_18 : decode cX8_mean 18 = .ok (.iload_n 3, 1) := by decide +kernel
theorem dX8_mean_19 : decode cX8_mean 19 = .ok (.iconst 2, 1) := by decide +kernel
theorem dX8_mean_20 : decode cX8_mean 20 = .ok (.if_icmp .ge 10, 3) := by decide +kernel
theorem dX8_mean_23 : decode cX8_mean 23 = .ok (.aload_n 0, 1) := by decide +kernel
theorem dX8_mean_24 : decode cX8_mean 24 = .ok (.bipush (-4), 2) := by decide +kernel
theorem dX8_mean_26 : decode cX8_mean 26 = .ok (.invokevirtual 177, 3) := by decide +kernel
theorem dX8_mean_29 : decode cX8_mean 29 = .ok (.lreturn, 1) := by decide +kernel
theorem dX8_mean_30 : decode cX8_mean 30 = .ok (.iload_n 2, 1) := by decide +kernel
theorem dX8_mean_31 : decode cX8_mean 31 = .ok (.bipush 8, 2) := by decide +kernel
theorem dX8_mean_33 : decode cX8_mean 33 = .ok (.if_icmp .gt 9, 3) := by decide +kernel
theorem dX8_mean_36 : decode cX8_mean 36 = .ok (.iload_n 3, 1) := by decide +kernel
theorem dX8_mean_37 : decode cX8_mean 37 = .ok (.bipush 20, 2) := by decide +kernel
theorem dX8_mean_39 : decode cX8_mean 39 = .ok (.if_icmp .le 10, 3) := by decide +kernel
theorem dX8_mean_42 : decode cX8_mean 42 = .ok (.aload_n 0, 1) := by decide +kernel
theorem dX8_mean_43 : decode cX8_mean 43 = .ok (.bipush (-6), 2) := by decide +kernel
theorem dX8_mean_45 : decode cX8_mean 45 = .ok (.invokevirtual 177, 3) := by decide +kernel
theorem dX8_mean_48 : decode cX8_mean 48 = .ok (.lreturn, 1) := by decide +kernel
theorem dX8_mean_49 : decode cX8_mean 49 = .ok (.iload 4, 2) := by decide +kernel
theorem dX8_mean_51 : decode cX8_mean 51 = .ok (.iconst 0, 1) := by decide +kernel
theorem dX8_mean_52 : decode cX8_mean 52 = .ok (.iconst 1, 1) := by decide +kernel
theorem dX8_mean_53 : decode cX8_mean 53 = .ok (.invokestatic 47, 3) := by decide +kernel
theorem dX8_mean_56 : decode cX8_mean 56 = .ok (.ifCond .ne 10, 3) := by decide +kernel
theorem dX8_mean_59 : decode cX8_mean 59 = .ok (.aload_n 0, 1) := by decide +kernel
theorem dX8_mean_60 : decode cX8_mean 60 = .ok (.bipush (-2), 2) := by decide +kernel
theorem dX8_mean_62 : decode cX8_mean 62 = .ok (.invokevirtual 177, 3) := by decide +kernel
theorem dX8_mean_65 : decode cX8_mean 65 = .ok (.lreturn, 1) := by decide +kernel
theorem dX8_mean_66 : decode cX8_mean 66 = .ok (.aload_n 0, 1) := by decide +kernel
theorem dX8_mean_67 : decode cX8_mean 67 = .ok (.iload_n 1, 1) := by decide +kernel
theorem dX8_mean_68 : decode cX8_mean 68 = .ok (.iload_n 2, 1) := by decide +kernel
theorem dX8_mean_69 : decode cX8_mean 69 = .ok (.iload_n 3, 1) := by decide +kernel
theorem dX8_mean_70 : decode cX8_mean 70 = .ok (.iconst (-1), 1) := by decide +kernel
theorem dX8_mean_71 : decode cX8_mean 71 = .ok (.invokevirtual 181, 3) := by decide +kernel
theorem dX8_mean_74 : decode cX8_mean 74 = .ok (.iload_n 3, 1) := by decide +kernel
theorem dX8_mean_75 : decode cX8_mean 75 = .ok (.iload_n 2, 1) := by decide +kernel
theorem dX8_mean_76 : decode cX8_mean 76 = .ok (.invokestatic 185, 3) := by decide +kernel
theorem dX8_mean_79 : decode cX8_mean 79 = .ok (.iload 4, 2) := by decide +kernel
theorem dX8_mean_81 : decode cX8_mean 81 = .ok (.invokestatic 189, 3) := by decide +kernel
theorem dX8_mean_84 : decode cX8_mean 84 = .ok (.lreturn, 1) := by decide +kernel
theorem dX8_whatWas_0 : decode cX8_whatWas 0 = .ok (.aload_n 0, 1) := by decide +kernel
theorem dX8_whatWas_1 : decode cX8_whatWas 1 = .ok (.iload_n 1, 1) := by decide +kernel
theorem dX8_whatWas_2 : decode cX8_whatWas 2 = .ok (.invokevirtual 101, 3) := by decide +kernel
theorem dX8_whatWas_5 : decode cX8_whatWas 5 = .ok (.ifCond .ne 9, 3) := by decide +kernel
theorem dX8_whatWas_8 : decode cX8_whatWas 8 = .ok (.aload_n 0, 1) := by decide +kernel
theorem dX8_whatWas_9 : decode cX8_whatWas 9 = .ok (.iconst (-1), 1) := by decide +kernel
theorem dX8_whatWas_10 : decode cX8_whatWas 10 = .ok (.invokevirtual 41, 3) := by decide +kernel
theorem dX8_whatWas_13 : decode cX8_whatWas 13 = .ok (.ireturn, 1) := by decide +kernel
theorem dX8_whatWas_14 : decode cX8_whatWas 14 = .ok (.iload_n 2, 1) := by decide +kernel
theorem dX8_whatWas_15 : decode cX8_whatWas 15 = .ok (.iconst 0, 1) := by decide +kernel
theorem dX8_whatWas_16 : decode cX8_whatWas 16 = .ok (.iconst 1, 1) := by decide +kernel
theorem dX8_whatWas_17 : decode cX8_whatWas 17 = .ok (.invokestatic 47, 3) := by decide +kernel
theorem dX8_whatWas_20 : decode cX8_whatWas 20 = .ok (.ifCond .ne 10, 3) := by decide +kernel
theorem dX8_whatWas_23 : decode cX8_whatWas 23 = .ok (.aload_n 0, 1) := by decide +kernel
theorem dX8_whatWas_24 : decode cX8_whatWas 24 = .ok (.bipush (-2), 2) := by decide +kernel
theorem dX8_whatWas_26 : decode cX8_whatWas 26 = .ok (.invokevirtual 41, 3) := by decide +kernel
theorem dX8_whatWas_29 : decode cX8_whatWas 29 = .ok (.ireturn, 1) := by decide +kernel
theorem dX8_whatWas_30 : decode cX8_whatWas 30 = .ok (.iconst 0, 1) := by decide +kernel
theorem dX8_whatWas_31 : decode cX8_whatWas 31 = .ok (.istore_n 3, 1) := by decide +kernel
theorem dX8_whatWas_32 : decode cX8_whatWas 32 = .ok (.iconst 0, 1) := by decide +kernel
theorem dX8_whatWas_33 : decode cX8_whatWas 33 = .ok (.istore 4, 2) := by decide +kernel
theorem dX8_whatWas_35 : decode cX8_whatWas 35 = .ok (.iload 4, 2) := by decide +kernel
theorem dX8_whatWas_37 : decode cX8_whatWas 37 = .ok (.iload_n 2, 1) := by decide +kernel
theorem dX8_whatWas_38 : decode cX8_whatWas 38 = .ok (.ifCond .ne 8, 3) := by decide +kernel
theorem dX8_whatWas_41 : decode cX8_whatWas 41 = .ok (.bipush 6, 2) := by decide +kernel
theorem dX8_whatWas_43 : decode cX8_whatWas 43 = .ok (.goto 5, 3) := by decide +kernel
theorem dX8_whatWas_46 : decode cX8_whatWas 46 = .ok (.bipush 10, 2) := by decide +kernel
theorem dX8_whatWas_48 : decode cX8_whatWas 48 = .ok (.if_icmp .ge 109, 3) := by decide +kernel
theorem dX8_whatWas_51 : decode cX8_whatWas 51 = .ok (.aload_n 0, 1) := by decide +kernel
theorem dX8_whatWas_52 : decode cX8_whatWas 52 = .ok (.getfield 9, 3) := by decide +kernel
theorem dX8_whatWas_55 : decode cX8_whatWas 55 = .ok (.aload_n 0, 1) := by decide +kernel
theorem dX8_whatWas_56 : decode cX8_whatWas 56 = .ok (.getfield 13, 3) := by decide +kernel
theorem dX8_whatWas_59 : decode cX8_whatWas 59 = .ok (.invokestatic 122, 3) := by decide +kernel
theorem dX8_whatWas_62 : decode cX8_whatWas 62 = .ok (.aload_n 0, 1) := by decide +kernel
theorem dX8_whatWas_63 : decode cX8_whatWas 63 = .ok (.getfield 13, 3) := by decide +kernel
theorem dX8_whatWas_66 : decode cX8_whatWas 66 = .ok (.iload_n 2, 1) := by decide +kernel
theorem dX8_whatWas_67 : decode cX8_whatWas 67 = .ok (.ifCond .ne 7, 3) := by decide +kernel
theorem dX8_whatWas_70 : decode cX8_whatWas 70 = .ok (.iconst 4, 1) := by decide +kernel
theorem dX8_whatWas_71 : decode cX8_whatWas 71 = .ok (.goto 5, 3) := by decide +kernel
theorem dX8_whatWas_74 : decode cX8_whatWas 74 = .ok (.bipush 12, 2) := by decide +kernel
theorem dX8_whatWas_76 : decode cX8_whatWas 76 = .ok (.iload_n 1, 1) := by decide +kernel
theorem dX8_whatWas_77 : decode cX8_whatWas 77 = .ok (.iadd, 1) := by decide +kernel
theorem dX8_whatWas_78 : decode cX8_whatWas 78 = .ok (.iload 4, 2) := by decide +kernel
theorem dX8_whatWas_80 : decode cX8_whatWas 80 = .ok (.iastore, 1) := by decide +kernel
theorem dX8_whatWas_81 : decode cX8_whatWas 81 = .ok (.iconst 1, 1) := by decide +kernel
theorem dX8_whatWas_82 : decode cX8_whatWas 82 = .ok (.istore 5, 2) := by decide +kernel
theorem dX8_whatWas_84 : decode cX8_whatWas 84 = .ok (.iconst 0, 1) := by decide +kernel
theorem dX8_whatWas_85 : decode cX8_whatWas 85 = .ok (.istore 6, 2) := by decide +kernel
theorem dX8_whatWas_87 : decode cX8_whatWas 87 = .ok (.iload 6, 2) := by decide +kernel
theorem dX8_whatWas_89 : decode cX8_whatWas 89 = .ok (.aload_n 0, 1) := by decide +kernel
theorem dX8_whatWas_90 : decode cX8_whatWas 90 = .ok (.getfield 193, 3) := by decide +kernel
theorem dX8_whatWas_93 : decode cX8_whatWas 93 = .ok (.if_icmp .ge 42, 3) := by decide +kernel
theorem dX8_whatWas_96 : decode cX8_whatWas 96 = .ok (.iload 5, 2) := by decide +kernel
theorem dX8_whatWas_98 : decode cX8_whatWas 98 = .ok (.aload_n 0, 1) := by decide +kernel
theorem dX8_whatWas_99 : decode cX8_whatWas 99 = .ok (.getfield 13, 3) := by decide +kernel
theorem dX8_whatWas_102 : decode cX8_whatWas 102 = .ok (.iload_n 1, 1) := by decide +kernel
theorem dX8_whatWas_103 : decode cX8_whatWas 103 = .ok (.iconst 5, 1) := by decide +kernel
theorem dX8_whatWas_104 : decode cX8_whatWas 104 = .ok (.iload 6, 2) := by decide +kernel
theorem dX8_whatWas_106 : decode cX8_whatWas 106 = .ok (.imul, 1) := by decide +kernel
theorem dX8_whatWas_107 : decode cX8_whatWas 107 = .ok (.iconst 0, 1) := by decide +kernel
theorem dX8_whatWas_108 : decode cX8_whatWas 108 = .ok (.invokestatic 73, 3) := by decide +kernel
theorem dX8_whatWas_111 : decode cX8_whatWas 111 = .ok (.aload_n 0, 1) := by decide +kernel
theorem dX8_whatWas_112 : decode cX8_whatWas 112 = .ok (.getfield 25, 3) := by decide +kernel
theorem dX8_whatWas_115 : decode cX8_whatWas 115 = .ok (.iload 6, 2) := by decide +kernel
theorem dX8_whatWas_117 : decode cX8_whatWas 117 = .ok (.iaload, 1) := by decide +kernel
theorem dX8_whatWas_118 : decode cX8_whatWas 118 = .ok (.if_icmp .ne 7, 3) := by decide +kernel
theorem dX8_whatWas_121 : decode cX8_whatWas 121 = .ok (.iconst 1, 1) := by decide +kernel
theorem dX8_whatWas_122 : decode cX8_whatWas 122 = .ok (.goto 4, 3) := by decide +kernel
theorem dX8_whatWas_125 : decode cX8_whatWas 125 = .ok (.iconst 0, 1) := by decide +kernel
theorem dX8_whatWas_126 : decode cX8_whatWas 126 = .ok (.iand, 1) := by decide +kernel
theorem dX8_whatWas_127 : decode cX8_whatWas 127 = .ok (.istore 5, 2) := by decide +kernel
theorem dX8_whatWas_129 : decode cX8_whatWas 129 = .ok (.iinc 6 1, 3) := by decide +kernel
theorem dX8_whatWas_132 : decode cX8_whatWas 132 = .ok (.goto (-45), 3) := by decide +kernel
theorem dX8_whatWas_135 : decode cX8_whatWas 135 = .ok (.iload_n 3, 1) := by decide +kernel
theorem dX8_whatWas_136 : decode cX8_whatWas 136 = .ok (.iload 5, 2) := by decide +kernel
theorem dX8_whatWas_138 : decode cX8_whatWas 138 = .ok (.ifCond .eq 10, 3) := by decide +kernel
theorem dX8_whatWas_141 : decode cX8_whatWas 141 = .ok (.iconst 1, 1) := by decide +kernel
theorem dX8_whatWas_142 : decode cX8_whatWas 142 = .ok (.iload 4, 2) := by decide +kernel
theorem dX8_whatWas_144 : decode cX8_whatWas 144 = .ok (.ishl, 1) := by decide +kernel
theorem dX8_whatWas_145 : decode cX8_whatWas 145 = .ok (.goto 4, 3) := by decide +kernel
theorem dX8_whatWas_148 : decode cX8_whatWas 148 = .ok (.iconst 0, 1) := by decide +kernel
theorem dX8_whatWas_149 : decode cX8_whatWas 149 = .ok (.ior, 1) := by decide +kernel
theorem dX8_whatWas_150 : decode cX8_whatWas 150 = .ok (.istore_n 3, 1) := by decide +kernel
theorem dX8_whatWas_151 : decode cX8_whatWas 151 = .ok (.iinc 4 1, 3) := by decide +kernel
theorem dX8_whatWas_154 : decode cX8_whatWas 154 = .ok (.goto (-119), 3) := by decide +kernel
theorem dX8_whatWas_157 : decode cX8_whatWas 157 = .ok (.iload_n 3, 1) := by decide +kernel
theorem dX8_whatWas_158 : decode cX8_whatWas 158 = .ok (.ireturn, 1) := by decide +kernel
theorem dX8_mended_0 : decode cX8_mended 0 = .ok (.aload_n 0, 1) := by decide +kernel
theorem dX8_mended_1 : decode cX8_mended 1 = .ok (.iload_n 1, 1) := by decide +kernel
theorem dX8_mended_2 : decode cX8_mended 2 = .ok (.invokevirtual 101, 3) := by decide +kernel
theorem dX8_mended_5 : decode cX8_mended 5 = .ok (.ifCond .eq 10, 3) := by decide +kernel
theorem dX8_mended_8 : decode cX8_mended 8 = .ok (.iload_n 2, 1) := by decide +kernel
theorem dX8_mended_9 : decode cX8_mended 9 = .ok (.invokestatic 105, 3) := by decide +kernel
theorem dX8_mended_12 : decode cX8_mended 12 = .ok (.ifCond .ne 9, 3) := by decide +kernel
theorem dX8_mended_15 : decode cX8_mended 15 = .ok (.aload_n 0, 1) := by decide +kernel
theorem dX8_mended_16 : decode cX8_mended 16 = .ok (.iconst (-1), 1) := by decide +kernel
theorem dX8_mended_17 : decode cX8_mended 17 = .ok (.invokevirtual 41, 3) := by decide +kernel
theorem dX8_mended_20 : decode cX8_mended 20 = .ok (.ireturn, 1) := by decide +kernel
theorem dX8_mended_21 : decode cX8_mended 21 = .ok (.iload_n 3, 1) := by decide +kernel
theorem dX8_mended_22 : decode cX8_mended 22 = .ok (.ifCond .ge 10, 3) := by decide +kernel
theorem dX8_mended_25 : decode cX8_mended 25 = .ok (.aload_n 0, 1) := by decide +kernel
theorem dX8_mended_26 : decode cX8_mended 26 = .ok (.bipush (-4), 2) := by decide +kernel
theorem dX8_mended_28 : decode cX8_mended 28 = .ok (.invokevirtual 41, 3) := by decide +kernel
theorem dX8_mended_31 : decode cX8_mended 31 = .ok (.ireturn, 1) := by decide +kernel
theorem dX8_mended_32 : decode cX8_mended 32 = .ok (.iload_n 3, 1) := by decide +kernel
theorem dX8_mended_33 : decode cX8_mended 33 = .ok (.bipush 99, 2) := by decide +kernel
theorem dX8_mended_35 : decode cX8_mended 35 = .ok (.if_icmp .le 10, 3) := by decide +kernel
theorem dX8_mended_38 : decode cX8_mended 38 = .ok (.aload_n 0, 1) := by decide +kernel
theorem dX8_mended_39 : decode cX8_mended 39 = .ok (.bipush (-6), 2) := by decide +kernel
theorem dX8_mended_41 : decode cX8_mended 41 = .ok (.invokevirtual 41, 3) := by decide +kernel
theorem dX8_mended_44 : decode cX8_mended 44 = .ok (.ireturn, 1) := by decide +kernel
theorem dX8_mended_45 : decode cX8_mended 45 = .ok (.aload_n 0, 1) := by decide +kernel
theorem dX8_mended_46 : decode cX8_mended 46 = .ok (.getfield 9, 3) := by decide +kernel
theorem dX8_mended_49 : decode cX8_mended 49 = .ok (.aload_n 0, 1) := by decide +kernel
theorem dX8_mended_50 : decode cX8_mended 50 = .ok (.getfield 13, 3) := by decide +kernel
theorem dX8_mended_53 : decode cX8_mended 53 = .ok (.invokestatic 122, 3) := by decide +kernel
theorem dX8_mended_56 : decode cX8_mended 56 = .ok (.iconst 0, 1) := by decide +kernel
theorem dX8_mended_57 : decode cX8_mended 57 = .ok (.istore 4, 2) := by decide +kernel
theorem dX8_mended_59 : decode cX8_mended 59 = .ok (.iload 4, 2) := by decide +kernel
theorem dX8_mended_61 : decode cX8_mended 61 = .ok (.bipush 99, 2) := by decide +kernel
theorem dX8_mended_63 : decode cX8_mended 63 = .ok (.if_icmp .gt 38, 3) := by decide +kernel
theorem dX8_mended_66 : decode cX8_mended 66 = .ok (.aload_n 0, 1) := by decide +kernel
theorem dX8_mended_67 : decode cX8_mended 67 = .ok (.getfield 13, 3) := by decide +kernel
theorem dX8_mended_70 : decode cX8_mended 70 = .ok (.iload_n 1, 1) := by decide +kernel
theorem dX8_mended_71 : decode cX8_mended 71 = .ok (.iload_n 2, 1) := by decide +kernel
theorem dX8_mended_72 : decode cX8_mended 72 = .ok (.invokestatic 55, 3) := by decide +kernel
theorem dX8_mended_75 : decode cX8_mended 75 = .ok (.iload 4, 2) := by decide +kernel
theorem dX8_mended_77 : decode cX8_mended 77 = .ok (.iastore, 1) := by decide +kernel
theorem dX8_mended_78 : decode cX8_mended 78 = .ok (.aload_n 0, 1) := by decide +kernel
theorem dX8_mended_79 : decode cX8_mended 79 = .ok (.getfield 13, 3) := by decide +kernel
theorem dX8_mended_82 : decode cX8_mended 82 = .ok (.iload_n 1, 1) := by decide +kernel
theorem dX8_mended_83 : decode cX8_mended 83 = .ok (.iload_n 3, 1) := by decide +kernel
theorem dX8_mended_84 : decode cX8_mended 84 = .ok (.iconst 0, 1) := by decide +kernel
theorem dX8_mended_85 : decode cX8_mended 85 = .ok (.invokestatic 73, 3) := by decide +kernel
theorem dX8_mended_88 : decode cX8_mended 88 = .ok (.iload_n 2, 1) := by decide +kernel
theorem dX8_mended_89 : decode cX8_mended 89 = .ok (.if_icmp .ne 6, 3) := by decide +kernel
theorem dX8_mended_92 : decode cX8_mended 92 = .ok (.iload 4, 2) := by decide +kernel
theorem dX8_mended_94 : decode cX8_mended 94 = .ok (.ireturn, 1) := by decide +kernel
theorem dX8_mended_95 : decode cX8_mended 95 = .ok (.iinc 4 1, 3) := by decide +kernel
theorem dX8_mended_98 : decode cX8_mended 98 = .ok (.goto (-39), 3) := by decide +kernel
theorem dX8_mended_101 : decode cX8_mended 101 = .ok (.bipush (-9), 2) := by decide +kernel
theorem dX8_mended_103 : decode cX8_mended 103 = .ok (.ireturn, 1) := by decide +kernel
theorem dX8_row_0 : decode cX8_row 0 = .ok (.iload_n 1, 1) := by decide +kernel
theorem dX8_row_1 : decode cX8_row 1 = .ok (.ifCond .ge 10, 3) := by decide +kernel
theorem dX8_row_4 : decode cX8_row 4 = .ok (.aload_n 0, 1) := by decide +kernel
theorem dX8_row_5 : decode cX8_row 5 = .ok (.bipush (-4), 2) := by decide +kernel
theorem dX8_row_7 : decode cX8_row 7 = .ok (.invokevirtual 41, 3) := by decide +kernel
theorem dX8_row_10 : decode cX8_row 10 = .ok (.ireturn, 1) := by decide +kernel
theorem dX8_row_11 : decode cX8_row 11 = .ok (.iload_n 1, 1) := by decide +kernel
theorem dX8_row_12 : decode cX8_row 12 = .ok (.bipush 99, 2) := by decide +kernel
theorem dX8_row_14 : decode cX8_row 14 = .ok (.if_icmp .gt 12, 3) := by decide +kernel
theorem dX8_row_17 : decode cX8_row 17 = .ok (.aload_n 0, 1) := by decide +kernel
theorem dX8_row_18 : decode cX8_row 18 = .ok (.getfield 193, 3) := by decide +kernel
theorem dX8_row_21 : decode cX8_row 21 = .ok (.bipush 16, 2) := by decide +kernel
theorem dX8_row_23 : decode cX8_row 23 = .ok (.if_icmp .ne 10, 3) := by decide +kernel
theorem dX8_row_26 : decode cX8_row 26 = .ok (.aload_n 0, 1) := by decide +kernel
theorem dX8_row_27 : decode cX8_row 27 = .ok (.bipush (-6), 2) := by decide +kernel
theorem dX8_row_29 : decode cX8_row 29 = .ok (.invokevirtual 41, 3) := by decide +kernel
theorem dX8_row_32 : decode cX8_row 32 = .ok (.ireturn, 1) := by decide +kernel
theorem dX8_row_33 : decode cX8_row 33 = .ok (.aload_n 0, 1) := by decide +kernel
theorem dX8_row_34 : decode cX8_row 34 = .ok (.getfield 25, 3) := by decide +kernel
theorem dX8_row_37 : decode cX8_row 37 = .ok (.aload_n 0, 1) := by decide +kernel
theorem dX8_row_38 : decode cX8_row 38 = .ok (.getfield 193, 3) := by decide +kernel
theorem dX8_row_41 : decode cX8_row 41 = .ok (.iload_n 1, 1) := by decide +kernel
theorem dX8_row_42 : decode cX8_row 42 = .ok (.iastore, 1) := by decide +kernel
theorem dX8_row_43 : decode cX8_row 43 = .ok (.aload_n 0, 1) := by decide +kernel
theorem dX8_row_44 : decode cX8_row 44 = .ok (.dup, 1) := by decide +kernel
theorem dX8_row_45 : decode cX8_row 45 = .ok (.getfield 193, 3) := by decide +kernel
theorem dX8_row_48 : decode cX8_row 48 = .ok (.iconst 1, 1) := by decide +kernel
theorem dX8_row_49 : decode cX8_row 49 = .ok (.iadd, 1) := by decide +kernel
theorem dX8_row_50 : decode cX8_row 50 = .ok (.putfield 193, 3) := by decide +kernel
theorem dX8_row_53 : decode cX8_row 53 = .ok (.aload_n 0, 1) := by decide +kernel
theorem dX8_row_54 : decode cX8_row 54 = .ok (.getfield 193, 3) := by decide +kernel
theorem dX8_row_57 : decode cX8_row 57 = .ok (.ireturn, 1) := by decide +kernel
theorem dX8_judge_0 : decode cX8_judge 0 = .ok (.aload_n 0, 1) := by decide +kernel
theorem dX8_judge_1 : decode cX8_judge 1 = .ok (.iload_n 1, 1) := by decide +kernel
theorem dX8_judge_2 : decode cX8_judge 2 = .ok (.invokevirtual 101, 3) := by decide +kernel
theorem dX8_judge_5 : decode cX8_judge 5 = .ok (.ifCond .ne 9, 3) := by decide +kernel
theorem dX8_judge_8 : decode cX8_judge 8 = .ok (.aload_n 0, 1) := by decide +kernel
theorem dX8_judge_9 : decode cX8_judge 9 = .ok (.iconst (-1), 1) := by decide +kernel
theorem dX8_judge_10 : decode cX8_judge 10 = .ok (.invokevirtual 41, 3) := by decide +kernel
theorem dX8_judge_13 : decode cX8_judge 13 = .ok (.ireturn, 1) := by decide +kernel
theorem dX8_judge_14 : decode cX8_judge 14 = .ok (.aload_n 0, 1) := by decide +kernel
theorem dX8_judge_15 : decode cX8_judge 15 = .ok (.getfield 193, 3) := by decide +kernel
theorem dX8_judge_18 : decode cX8_judge 18 = .ok (.istore_n 2, 1) := by decide +kernel
theorem dX8_judge_19 : decode cX8_judge 19 = .ok (.aload_n 0, 1) := by decide +kernel
theorem dX8_judge_20 : decode cX8_judge 20 = .ok (.iconst 0, 1) := by decide +kernel
theorem dX8_judge_21 : decode cX8_judge 21 = .ok (.putfield 193, 3) := by decide +kernel
theorem dX8_judge_24 : decode cX8_judge 24 = .ok (.iconst 0, 1) := by decide +kernel
theorem dX8_judge_25 : decode cX8_judge 25 = .ok (.istore_n 3, 1) := by decide +kernel
theorem dX8_judge_26 : decode cX8_judge 26 = .ok (.iload_n 3, 1) := by decide +kernel
theorem dX8_judge_27 : decode cX8_judge 27 = .ok (.iload_n 2, 1) := by decide +kernel
theorem dX8_judge_28 : decode cX8_judge 28 = .ok (.if_icmp .ge 36, 3) := by decide +kernel
theorem dX8_judge_31 : decode cX8_judge 31 = .ok (.iload_n 3, 1) := by decide +kernel
theorem dX8_judge_32 : decode cX8_judge 32 = .ok (.bipush 12, 2) := by decide +kernel
theorem dX8_judge_34 : decode cX8_judge 34 = .ok (.if_icmp .ge 22, 3) := by decide +kernel
theorem dX8_judge_37 : decode cX8_judge 37 = .ok (.aload_n 0, 1) := by decide +kernel
theorem dX8_judge_38 : decode cX8_judge 38 = .ok (.getfield 9, 3) := by decide +kernel
theorem dX8_judge_41 : decode cX8_judge 41 = .ok (.iload_n 1, 1) := by decide +kernel
theorem dX8_judge_42 : decode cX8_judge 42 = .ok (.iload_n 3, 1) := by decide +kernel
theorem dX8_judge_43 : decode cX8_judge 43 = .ok (.invokestatic 55, 3) := by decide +kernel
theorem dX8_judge_46 : decode cX8_judge 46 = .ok (.iaload, 1) := by decide +kernel
theorem dX8_judge_47 : decode cX8_judge 47 = .ok (.aload_n 0, 1) := by decide +kernel
theorem dX8_judge_48 : decode cX8_judge 48 = .ok (.getfield 25, 3) := by decide +kernel
theorem dX8_judge_51 : decode cX8_judge 51 = .ok (.iload_n 3, 1) := by decide +kernel
theorem dX8_judge_52 : decode cX8_judge 52 = .ok (.iaload, 1) := by decide +kernel
theorem dX8_judge_53 : decode cX8_judge 53 = .ok (.if_icmp .eq 5, 3) := by decide +kernel
theorem dX8_judge_56 : decode cX8_judge 56 = .ok (.iload_n 3, 1) := by decide +kernel
theorem dX8_judge_57 : decode cX8_judge 57 = .ok (.ireturn, 1) := by decide +kernel
theorem dX8_judge_58 : decode cX8_judge 58 = .ok (.iinc 3 1, 3) := by decide +kernel
theorem dX8_judge_61 : decode cX8_judge 61 = .ok (.goto (-35), 3) := by decide +kernel
theorem dX8_judge_64 : decode cX8_judge 64 = .ok (.bipush (-9), 2) := by decide +kernel
theorem dX8_judge_66 : decode cX8_judge 66 = .ok (.ireturn, 1) := by decide +kernel
theorem dX8_clear_0 : decode cX8_clear 0 = .ok (.aload_n 0, 1) := by decide +kernel
theorem dX8_clear_1 : decode cX8_clear 1 = .ok (.getfield 193, 3) := by decide +kernel
theorem dX8_clear_4 : decode cX8_clear 4 = .ok (.istore_n 1, 1) := by decide +kernel
theorem dX8_clear_5 : decode cX8_clear 5 = .ok (.aload_n 0, 1) := by decide +kernel
theorem dX8_clear_6 : decode cX8_clear 6 = .ok (.iconst 0, 1) := by decide +kernel
theorem dX8_clear_7 : decode cX8_clear 7 = .ok (.putfield 193, 3) := by decide +kernel
theorem dX8_clear_10 : decode cX8_clear 10 = .ok (.iload_n 1, 1) := by decide +kernel
theorem dX8_clear_11 : decode cX8_clear 11 = .ok (.ireturn, 1) := by decide +kernel
theorem dX8_drawn_0 : decode cX8_drawn 0 = .ok (.aload_n 0, 1) := by decide +kernel
theorem dX8_drawn_1 : decode cX8_drawn 1 = .ok (.aload_n 0, 1) := by decide +kernel
theorem dX8_drawn_2 : decode cX8_drawn 2 = .ok (.getfield 196, 3) := by decide +kernel
theorem dX8_drawn_5 : decode cX8_drawn 5 = .ok (.ldc 199, 2) := by decide +kernel
theorem dX8_drawn_7 : decode cX8_drawn 7 = .ok (.imul, 1) := by decide +kernel
theorem dX8_drawn_8 : decode cX8_drawn 8 = .ok (.ldc 200, 2) := by decide +kernel
theorem dX8_drawn_10 : decode cX8_drawn 10 = .ok (.iadd, 1) := by decide +kernel
theorem dX8_drawn_11 : decode cX8_drawn 11 = .ok (.putfield 196, 3) := by decide +kernel
theorem dX8_drawn_14 : decode cX8_drawn 14 = .ok (.aload_n 0, 1) := by decide +kernel
theorem dX8_drawn_15 : decode cX8_drawn 15 = .ok (.getfield 196, 3) := by decide +kernel
theorem dX8_drawn_18 : decode cX8_drawn 18 = .ok (.ldc 201, 2) := by decide +kernel
theorem dX8_drawn_20 : decode cX8_drawn 20 = .ok (.iand, 1) := by decide +kernel
theorem dX8_drawn_21 : decode cX8_drawn 21 = .ok (.sipush 256, 3) := by decide +kernel
theorem dX8_drawn_24 : decode cX8_drawn 24 = .ok (.idiv, 1) := by decide +kernel
theorem dX8_drawn_25 : decode cX8_drawn 25 = .ok (.iload_n 1, 1) := by decide +kernel
theorem dX8_drawn_26 : decode cX8_drawn 26 = .ok (.irem, 1) := by decide +kernel
theorem dX8_drawn_27 : decode cX8_drawn 27 = .ok (.ireturn, 1) := by decide +kernel
theorem dX8_lots_0 : decode cX8_lots 0 = .ok (.iload_n 1, 1) := by decide +kernel
theorem dX8_lots_1 : decode cX8_lots 1 = .ok (.iconst 1, 1) := by decide +kernel
theorem dX8_lots_2 : decode cX8_lots 2 = .ok (.if_icmp .ge 10, 3) := by decide +kernel
theorem dX8_lots_5 : decode cX8_lots 5 = .ok (.aload_n 0, 1) := by decide +kernel
theorem dX8_lots_6 : decode cX8_lots 6 = .ok (.bipush (-4), 2) := by decide +kernel
theorem dX8_lots_8 : decode cX8_lots 8 = .ok (.invokevirtual 41, 3) := by decide +kernel
theorem dX8_lots_11 : decode cX8_lots 11 = .ok (.ireturn, 1) := by decide +kernel
theorem dX8_lots_12 : decode cX8_lots 12 = .ok (.iload_n 1, 1) := by decide +kernel
theorem dX8_lots_13 : decode cX8_lots 13 = .ok (.bipush 20, 2) := by decide +kernel
theorem dX8_lots_15 : decode cX8_lots 15 = .ok (.if_icmp .le 10, 3) := by decide +kernel
theorem dX8_lots_18 : decode cX8_lots 18 = .ok (.aload_n 0, 1) := by decide +kernel
theorem dX8_lots_19 : decode cX8_lots 19 = .ok (.bipush (-6), 2) := by decide +kernel
theorem dX8_lots_21 : decode cX8_lots 21 = .ok (.invokevirtual 41, 3) := by decide +kernel
theorem dX8_lots_24 : decode cX8_lots 24 = .ok (.ireturn, 1) := by decide +kernel
theorem dX8_lots_25 : decode cX8_lots 25 = .ok (.iload_n 3, 1) := by decide +kernel
theorem dX8_lots_26 : decode cX8_lots 26 = .ok (.iconst 0, 1) := by decide +kernel
theorem dX8_lots_27 : decode cX8_lots 27 = .ok (.iconst 1, 1) := by decide +kernel
theorem dX8_lots_28 : decode cX8_lots 28 = .ok (.invokestatic 47, 3) := by decide +kernel
theorem dX8_lots_31 : decode cX8_lots 31 = .ok (.ifCond .ne 10, 3) := by decide +kernel
theorem dX8_lots_34 : decode cX8_lots 34 = .ok (.aload_n 0, 1) := by decide +kernel
theorem dX8_lots_35 : decode cX8_lots 35 = .ok (.bipush (-2), 2) := by decide +kernel
theorem dX8_lots_37 : decode cX8_lots 37 = .ok (.invokevirtual 41, 3) := by decide +kernel
theorem dX8_lots_40 : decode cX8_lots 40 = .ok (.ireturn, 1) := by decide +kernel
theorem dX8_lots_41 : decode cX8_lots 41 = .ok (.aload_n 0, 1) := by decide +kernel
theorem dX8_lots_42 : decode cX8_lots 42 = .ok (.iload_n 2, 1) := by decide +kernel
theorem dX8_lots_43 : decode cX8_lots 43 = .ok (.putfield 196, 3) := by decide +kernel
theorem dX8_lots_46 : decode cX8_lots 46 = .ok (.iconst 0, 1) := by decide +kernel
theorem dX8_lots_47 : decode cX8_lots 47 = .ok (.istore 4, 2) := by decide +kernel
theorem dX8_lots_49 : decode cX8_lots 49 = .ok (.iconst 0, 1) := by decide +kernel
theorem dX8_lots_50 : decode cX8_lots 50 = .ok (.istore 5, 2) := by decide +kernel
theorem dX8_lots_52 : decode cX8_lots 52 = .ok (.iload 5, 2) := by decide +kernel
theorem dX8_lots_54 : decode cX8_lots 54 = .ok (.iload_n 1, 1) := by decide +kernel
theorem dX8_lots_55 : decode cX8_lots 55 = .ok (.if_icmp .ge 117, 3) := by decide +kernel
theorem dX8_lots_58 : decode cX8_lots 58 = .ok (.aload_n 0, 1) := by decide +kernel
theorem dX8_lots_59 : decode cX8_lots 59 = .ok (.getfield 9, 3) := by decide +kernel
theorem dX8_lots_62 : decode cX8_lots 62 = .ok (.aload_n 0, 1) := by decide +kernel
theorem dX8_lots_63 : decode cX8_lots 63 = .ok (.getfield 13, 3) := by decide +kernel
theorem dX8_lots_66 : decode cX8_lots 66 = .ok (.invokestatic 122, 3) := by decide +kernel
theorem dX8_lots_69 : decode cX8_lots 69 = .ok (.iconst 0, 1) := by decide +kernel
theorem dX8_lots_70 : decode cX8_lots 70 = .ok (.istore 6, 2) := by decide +kernel
theorem dX8_lots_72 : decode cX8_lots 72 = .ok (.iload 6, 2) := by decide +kernel
theorem dX8_lots_74 : decode cX8_lots 74 = .ok (.aload_n 0, 1) := by decide +kernel
theorem dX8_lots_75 : decode cX8_lots 75 = .ok (.getfield 13, 3) := by decide +kernel
theorem dX8_lots_78 : decode cX8_lots 78 = .ok (.iconst 0, 1) := by decide +kernel
theorem dX8_lots_79 : decode cX8_lots 79 = .ok (.iaload, 1) := by decide +kernel
theorem dX8_lots_80 : decode cX8_lots 80 = .ok (.if_icmp .ge 59, 3) := by decide +kernel
theorem dX8_lots_83 : decode cX8_lots 83 = .ok (.aload_n 0, 1) := by decide +kernel
theorem dX8_lots_84 : decode cX8_lots 84 = .ok (.getfield 13, 3) := by decide +kernel
theorem dX8_lots_87 : decode cX8_lots 87 = .ok (.bipush 20, 2) := by decide +kernel
theorem dX8_lots_89 : decode cX8_lots 89 = .ok (.iload 6, 2) := by decide +kernel
theorem dX8_lots_91 : decode cX8_lots 91 = .ok (.iadd, 1) := by decide +kernel
theorem dX8_lots_92 : decode cX8_lots 92 = .ok (.iaload, 1) := by decide +kernel
theorem dX8_lots_93 : decode cX8_lots 93 = .ok (.ifCond .lt 6, 3) := by decide +kernel
theorem dX8_lots_96 : decode cX8_lots 96 = .ok (.goto 37, 3) := by decide +kernel
theorem dX8_lots_99 : decode cX8_lots 99 = .ok (.aload_n 0, 1) := by decide +kernel
theorem dX8_lots_100 : decode cX8_lots 100 = .ok (.bipush 60, 2) := by decide +kernel
theorem dX8_lots_102 : decode cX8_lots 102 = .ok (.invokevirtual 202, 3) := by decide +kernel
theorem dX8_lots_105 : decode cX8_lots 105 = .ok (.istore 7, 2) := by decide +kernel
theorem dX8_lots_107 : decode cX8_lots 107 = .ok (.aload_n 0, 1) := by decide +kernel
theorem dX8_lots_108 : decode cX8_lots 108 = .ok (.getfield 13, 3) := by decide +kernel
theorem dX8_lots_111 : decode cX8_lots 111 = .ok (.bipush 20, 2) := by decide +kernel
theorem dX8_lots_113 : decode cX8_lots 113 = .ok (.iload 6, 2) := by decide +kernel
theorem dX8_lots_115 : decode cX8_lots 115 = .ok (.iadd, 1) := by decide +kernel
theorem dX8_lots_116 : decode cX8_lots 116 = .ok (.aload_n 0, 1) := by decide +kernel
theorem dX8_lots_117 : decode cX8_lots 117 = .ok (.getfield 13, 3) := by decide +kernel
theorem dX8_lots_120 : decode cX8_lots 120 = .ok (.iload 6, 2) := by decide +kernel
theorem dX8_lots_122 : decode cX8_lots 122 = .ok (.iload 7, 2) := by decide +kernel
theorem dX8_lots_124 : decode cX8_lots 124 = .ok (.aload_n 0, 1) := by decide +kernel
theorem dX8_lots_125 : decode cX8_lots 125 = .ok (.iconst 4, 1) := by decide +kernel
theorem dX8_lots_126 : decode cX8_lots 126 = .ok (.invokevirtual 202, 3) := by decide +kernel
theorem dX8_lots_129 : decode cX8_lots 129 = .ok (.invokestatic 73, 3) := by decide +kernel
theorem dX8_lots_132 : decode cX8_lots 132 = .ok (.iastore, 1) := by decide +kernel
theorem dX8_lots_133 : decode cX8_lots 133 = .ok (.iinc 6 1, 3) := by decide +kernel
theorem dX8_lots_136 : decode cX8_lots 136 = .ok (.goto (-64), 3) := by decide +kernel
theorem dX8_lots_139 : decode cX8_lots 139 = .ok (.iload 4, 2) := by decide +kernel
theorem dX8_lots_141 : decode cX8_lots 141 = .ok (.iload_n 3, 1) := by decide +kernel
theorem dX8_lots_142 : decode cX8_lots 142 = .ok (.ifCond .ne 13, 3) := by decide +kernel
theorem dX8_lots_145 : decode cX8_lots 145 = .ok (.aload_n 0, 1) := by decide +kernel
theorem dX8_lots_146 : decode cX8_lots 146 = .ok (.getfield 13, 3) := by decide +kernel
theorem dX8_lots_149 : decode cX8_lots 149 = .ok (.invokestatic 141, 3) := by decide +kernel
theorem dX8_lots_152 : decode cX8_lots 152 = .ok (.goto 11, 3) := by decide +kernel
theorem dX8_lots_155 : decode cX8_lots 155 = .ok (.aload_n 0, 1) := by decide +kernel
theorem dX8_lots_156 : decode cX8_lots 156 = .ok (.aload_n 0, 1) := by decide +kernel
theorem dX8_lots_157 : decode cX8_lots 157 = .ok (.getfield 13, 3) := by decide +kernel
theorem dX8_lots_160 : decode cX8_lots 160 = .ok (.invokevirtual 149, 3) := by decide +kernel
theorem dX8_lots_163 : decode cX8_lots 163 = .ok (.iadd, 1) := by decide +kernel
theorem dX8_lots_164 : decode cX8_lots 164 = .ok (.istore 4, 2) := by decide +kernel
theorem dX8_lots_166 : decode cX8_lots 166 = .ok (.iinc 5 1, 3) := by decide +kernel
theorem dX8_lots_169 : decode cX8_lots 169 = .ok (.goto (-117), 3) := by decide +kernel
theorem dX8_lots_172 : decode cX8_lots 172 = .ok (.iload 4, 2) := by decide +kernel
theorem dX8_lots_174 : decode cX8_lots 174 = .ok (.ireturn, 1) := by decide +kernel
theorem dX8_image_0 : decode cX8_image 0 = .ok (.aload_n 0, 1) := by decide +kernel
theorem dX8_image_1 : decode cX8_image 1 = .ok (.getfield 9, 3) := by decide +kernel
theorem dX8_image_4 : decode cX8_image 4 = .ok (.aload_n 0, 1) := by decide +kernel
theorem dX8_image_5 : decode cX8_image 5 = .ok (.getfield 16, 3) := by decide +kernel
theorem dX8_image_8 : decode cX8_image 8 = .ok (.invokestatic 122, 3) := by decide +kernel
theorem dX8_image_11 : decode cX8_image 11 = .ok (.aload_n 0, 1) := by decide +kernel
theorem dX8_image_12 : decode cX8_image 12 = .ok (.iconst 1, 1) := by decide +kernel
theorem dX8_image_13 : decode cX8_image 13 = .ok (.putfield 205, 3) := by decide +kernel
theorem dX8_image_16 : decode cX8_image 16 = .ok (.aload_n 0, 1) := by decide +kernel
theorem dX8_image_17 : decode cX8_image 17 = .ok (.getfield 9, 3) := by decide +kernel
theorem dX8_image_20 : decode cX8_image 20 = .ok (.iconst 1, 1) := by decide +kernel
theorem dX8_image_21 : decode cX8_image 21 = .ok (.iaload, 1) := by decide +kernel
theorem dX8_image_22 : decode cX8_image 22 = .ok (.ireturn, 1) := by decide +kernel
theorem dX8_on_0 : decode cX8_on 0 = .ok (.aload_n 0, 1) := by decide +kernel
theorem dX8_on_1 : decode cX8_on 1 = .ok (.getfield 205, 3) := by decide +kernel
theorem dX8_on_4 : decode cX8_on 4 = .ok (.ifCond .ne 10, 3) := by decide +kernel
theorem dX8_on_7 : decode cX8_on 7 = .ok (.aload_n 0, 1) := by decide +kernel
theorem dX8_on_8 : decode cX8_on 8 = .ok (.bipush (-3), 2) := by decide +kernel
theorem dX8_on_10 : decode cX8_on 10 = .ok (.invokevirtual 41, 3) := by decide +kernel
theorem dX8_on_13 : decode cX8_on 13 = .ok (.ireturn, 1) := by decide +kernel
theorem dX8_on_14 : decode cX8_on 14 = .ok (.aload_n 0, 1) := by decide +kernel
theorem dX8_on_15 : decode cX8_on 15 = .ok (.getfield 16, 3) := by decide +kernel
theorem dX8_on_18 : decode cX8_on 18 = .ok (.aload_n 0, 1) := by decide +kernel
theorem dX8_on_19 : decode cX8_on 19 = .ok (.getfield 9, 3) := by decide +kernel
theorem dX8_on_22 : decode cX8_on 22 = .ok (.invokestatic 122, 3) := by decide +kernel
theorem dX8_on_25 : decode cX8_on 25 = .ok (.aload_n 0, 1) := by decide +kernel
theorem dX8_on_26 : decode cX8_on 26 = .ok (.getfield 9, 3) := by decide +kernel
theorem dX8_on_29 : decode cX8_on 29 = .ok (.iconst 1, 1) := by decide +kernel
theorem dX8_on_30 : decode cX8_on 30 = .ok (.iaload, 1) := by decide +kernel
theorem dX8_on_31 : decode cX8_on 31 = .ok (.ireturn, 1) := by decide +kernel
theorem dX8_count_0 : decode cX8_count 0 = .ok (.iload_n 1, 1) := by decide +kernel
theorem dX8_count_1 : decode cX8_count 1 = .ok (.bipush 11, 2) := by decide +kernel
theorem dX8_count_3 : decode cX8_count 3 = .ok (.bipush 16, 2) := by decide +kernel
theorem dX8_count_5 : decode cX8_count 5 = .ok (.invokestatic 47, 3) := by decide +kernel
theorem dX8_count_8 : decode cX8_count 8 = .ok (.ifCond .eq 13, 3) := by decide +kernel
theorem dX8_count_11 : decode cX8_count 11 = .ok (.aload_n 0, 1) := by decide +kernel
theorem dX8_count_12 : decode cX8_count 12 = .ok (.getfield 28, 3) := by decide +kernel
theorem dX8_count_15 : decode cX8_count 15 = .ok (.iload_n 1, 1) := by decide +kernel
theorem dX8_count_16 : decode cX8_count 16 = .ok (.bipush 10, 2) := by decide +kernel
theorem dX8_count_18 : decode cX8_count 18 = .ok (.isub, 1) := by decide +kernel
theorem dX8_count_19 : decode cX8_count 19 = .ok (.iaload, 1) := by decide +kernel
theorem dX8_count_20 : decode cX8_count 20 = .ok (.ireturn, 1) := by decide +kernel
theorem dX8_count_21 : decode cX8_count 21 = .ok (.iconst 0, 1) := by decide +kernel
theorem dX8_count_22 : decode cX8_count 22 = .ok (.istore_n 2, 1) := by decide +kernel
theorem dX8_count_23 : decode cX8_count 23 = .ok (.iload_n 1, 1) := by decide +kernel
theorem dX8_count_24 : decode cX8_count 24 = .ok (.tableswitch 144 0 7 #[48, 48, 48, 48, 55, 97, 134, 139], 48) := by decide +kernel
theorem dX8_count_72 : decode cX8_count 72 = .ok (.aload_n 0, 1) := by decide +kernel
theorem dX8_count_73 : decode cX8_count 73 = .ok (.getfield 9, 3) := by decide +kernel
theorem dX8_count_76 : decode cX8_count 76 = .ok (.iload_n 1, 1) := by decide +kernel
theorem dX8_count_77 : decode cX8_count 77 = .ok (.iaload, 1) := by decide +kernel
theorem dX8_count_78 : decode cX8_count 78 = .ok (.ireturn, 1) := by decide +kernel
theorem dX8_count_79 : decode cX8_count 79 = .ok (.iconst 0, 1) := by decide +kernel
theorem dX8_count_80 : decode cX8_count 80 = .ok (.istore_n 3, 1) := by decide +kernel
theorem dX8_count_81 : decode cX8_count 81 = .ok (.iload_n 3, 1) := by decide +kernel
theorem dX8_count_82 : decode cX8_count 82 = .ok (.aload_n 0, 1) := by decide +kernel
theorem dX8_count_83 : decode cX8_count 83 = .ok (.getfield 9, 3) := by decide +kernel
theorem dX8_count_86 : decode cX8_count 86 = .ok (.iconst 0, 1) := by decide +kernel
theorem dX8_count_87 : decode cX8_count 87 = .ok (.iaload, 1) := by decide +kernel
theorem dX8_count_88 : decode cX8_count 88 = .ok (.if_icmp .ge 31, 3) := by decide +kernel
theorem dX8_count_91 : decode cX8_count 91 = .ok (.iload_n 2, 1) := by decide +kernel
theorem dX8_count_92 : decode cX8_count 92 = .ok (.aload_n 0, 1) := by decide +kernel
theorem dX8_count_93 : decode cX8_count 93 = .ok (.getfield 9, 3) := by decide +kernel
theorem dX8_count_96 : decode cX8_count 96 = .ok (.bipush 20, 2) := by decide +kernel
theorem dX8_count_98 : decode cX8_count 98 = .ok (.iload_n 3, 1) := by decide +kernel
theorem dX8_count_99 : decode cX8_count 99 = .ok (.iadd, 1) := by decide +kernel
theorem dX8_count_100 : decode cX8_count 100 = .ok (.iaload, 1) := by decide +kernel
theorem dX8_count_101 : decode cX8_count 101 = .ok (.ifCond .lt 9, 3) := by decide +kernel
theorem dX8_count_104 : decode cX8_count 104 = .ok (.iconst 1, 1) := by decide +kernel
theorem dX8_count_105 : decode cX8_count 105 = .ok (.iload_n 3, 1) := by decide +kernel
theorem dX8_count_106 : decode cX8_count 106 = .ok (.ishl, 1) := by decide +kernel
theorem dX8_count_107 : decode cX8_count 107 = .ok (.goto 4, 3) := by decide +kernel
theorem dX8_count_110 : decode cX8_count 110 = .ok (.iconst 0, 1) := by decide +kernel
theorem dX8_count_111 : decode cX8_count 111 = .ok (.ior, 1) := by decide +kernel
theorem dX8_count_112 : decode cX8_count 112 = .ok (.istore_n 2, 1) := by decide +kernel
theorem dX8_count_113 : decode cX8_count 113 = .ok (.iinc 3 1, 3) := by decide +kernel
theorem dX8_count_116 : decode cX8_count 116 = .ok (.goto (-35), 3) := by decide +kernel
theorem dX8_count_119 : decode cX8_count 119 = .ok (.iload_n 2, 1) := by decide +kernel
theorem dX8_count_120 : decode cX8_count 120 = .ok (.ireturn, 1) := by decide +kernel
theorem dX8_count_121 : decode cX8_count 121 = .ok (.iconst 0, 1) := by decide +kernel
theorem dX8_count_122 : decode cX8_count 122 = .ok (.istore_n 3, 1) := by decide +kernel
theorem dX8_count_123 : decode cX8_count 123 = .ok (.iload_n 3, 1) := by decide +kernel
theorem dX8_count_124 : decode cX8_count 124 = .ok (.aload_n 0, 1) := by decide +kernel
theorem dX8_count_125 : decode cX8_count 125 = .ok (.getfield 9, 3) := by decide +kernel
theorem dX8_count_128 : decode cX8_count 128 = .ok (.iconst 0, 1) := by decide +kernel
theorem dX8_count_129 : decode cX8_count 129 = .ok (.iaload, 1) := by decide +kernel
theorem dX8_count_130 : decode cX8_count 130 = .ok (.if_icmp .ge 24, 3) := by decide +kernel
theorem dX8_count_133 : decode cX8_count 133 = .ok (.iload_n 2, 1) := by decide +kernel
theorem dX8_count_134 : decode cX8_count 134 = .ok (.aload_n 0, 1) := by decide +kernel
theorem dX8_count_135 : decode cX8_count 135 = .ok (.getfield 9, 3) := by decide +kernel
theorem dX8_count_138 : decode cX8_count 138 = .ok (.bipush 124, 2) := by decide +kernel
theorem dX8_count_140 : decode cX8_count 140 = .ok (.iload_n 3, 1) := by decide +kernel
theorem dX8_count_141 : decode cX8_count 141 = .ok (.iadd, 1) := by decide +kernel
theorem dX8_count_142 : decode cX8_count 142 = .ok (.iaload, 1) := by decide +kernel
theorem dX8_count_143 : decode cX8_count 143 = .ok (.invokestatic 174, 3) := by decide +kernel
theorem dX8_count_146 : decode cX8_count 146 = .ok (.iadd, 1) := by decide +kernel
theorem dX8_count_147 : decode cX8_count 147 = .ok (.istore_n 2, 1) := by decide +kernel
theorem dX8_count_148 : decode cX8_count 148 = .ok (.iinc 3 1, 3) := by decide +kernel
theorem dX8_count_151 : decode cX8_count 151 = .ok (.goto (-28), 3) := by decide +kernel
theorem dX8_count_154 : decode cX8_count 154 = .ok (.iload_n 2, 1) := by decide +kernel
theorem dX8_count_155 : decode cX8_count 155 = .ok (.iconst 2, 1) := by decide +kernel
theorem dX8_count_156 : decode cX8_count 156 = .ok (.idiv, 1) := by decide +kernel
theorem dX8_count_157 : decode cX8_count 157 = .ok (.ireturn, 1) := by decide +kernel
theorem dX8_count_158 : decode cX8_count 158 = .ok (.aload_n 0, 1) := by decide +kernel
theorem dX8_count_159 : decode cX8_count 159 = .ok (.getfield 193, 3) := by decide +kernel
theorem dX8_count_162 : decode cX8_count 162 = .ok (.ireturn, 1) := by decide +kernel
theorem dX8_count_163 : decode cX8_count 163 = .ok (.aload_n 0, 1) := by decide +kernel
theorem dX8_count_164 : decode cX8_count 164 = .ok (.getfield 76, 3) := by decide +kernel
theorem dX8_count_167 : decode cX8_count 167 = .ok (.ireturn, 1) := by decide +kernel
theorem dX8_count_168 : decode cX8_count 168 = .ok (.bipush (-9), 2) := by decide +kernel
theorem dX8_count_170 : decode cX8_count 170 = .ok (.ireturn, 1) := by decide +kernel
