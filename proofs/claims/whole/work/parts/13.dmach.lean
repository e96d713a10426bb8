theorem d_Mach_target_0 : decode b_Mach_target 0 = .ok (.aload_n 0, 1) := by decide +kernel
theorem d_Mach_target_1 : decode b_Mach_target 1 = .ok (.getfield 15, 3) := by decide +kernel
theorem d_Mach_target_4 : decode b_Mach_target 4 = .ok (.iload_n 1, 1) := by decide +kernel
theorem d_Mach_target_5 : decode b_Mach_target 5 = .ok (.iconst 4, 1) := by decide +kernel
theorem d_Mach_target_6 : decode b_Mach_target 6 = .ok (.imul, 1) := by decide +kernel
theorem d_Mach_target_7 : decode b_Mach_target 7 = .ok (.iload_n 2, 1) := by decide +kernel
theorem d_Mach_target_8 : decode b_Mach_target 8 = .ok (.iadd, 1) := by decide +kernel
theorem d_Mach_target_9 : decode b_Mach_target 9 = .ok (.iaload, 1) := by decide +kernel
theorem d_Mach_target_10 : decode b_Mach_target 10 = .ok (.ireturn, 1) := by decide +kernel
theorem d_Mach_actionsOnWay_0 : decode b_Mach_actionsOnWay 0 = .ok (.aload_n 0, 1) := by decide +kernel
theorem d_Mach_actionsOnWay_1 : decode b_Mach_actionsOnWay 1 = .ok (.getfield 18, 3) := by decide +kernel
theorem d_Mach_actionsOnWay_4 : decode b_Mach_actionsOnWay 4 = .ok (.iload_n 1, 1) := by decide +kernel
theorem d_Mach_actionsOnWay_5 : decode b_Mach_actionsOnWay 5 = .ok (.iconst 4, 1) := by decide +kernel
theorem d_Mach_actionsOnWay_6 : decode b_Mach_actionsOnWay 6 = .ok (.imul, 1) := by decide +kernel
theorem d_Mach_actionsOnWay_7 : decode b_Mach_actionsOnWay 7 = .ok (.iload_n 2, 1) := by decide +kernel
theorem d_Mach_actionsOnWay_8 : decode b_Mach_actionsOnWay 8 = .ok (.iadd, 1) := by decide +kernel
theorem d_Mach_actionsOnWay_9 : decode b_Mach_actionsOnWay 9 = .ok (.iaload, 1) := by decide +kernel
theorem d_Mach_actionsOnWay_10 : decode b_Mach_actionsOnWay 10 = .ok (.ireturn, 1) := by decide +kernel
theorem d_Mach_indexOf_0 : decode b_Mach_indexOf 0 = .ok (.iconst 1, 1) := by decide +kernel
theorem d_Mach_indexOf_1 : decode b_Mach_indexOf 1 = .ok (.istore_n 2, 1) := by decide +kernel
theorem d_Mach_indexOf_2 : decode b_Mach_indexOf 2 = .ok (.iload_n 2, 1) := by decide +kernel
theorem d_Mach_indexOf_3 : decode b_Mach_indexOf 3 = .ok (.aload_n 0, 1) := by decide +kernel
theorem d_Mach_indexOf_4 : decode b_Mach_indexOf 4 = .ok (.getfield 41, 3) := by decide +kernel
theorem d_Mach_indexOf_7 : decode b_Mach_indexOf 7 = .ok (.if_icmp .ge 21, 3) := by decide +kernel
theorem d_Mach_indexOf_10 : decode b_Mach_indexOf 10 = .ok (.aload_n 0, 1) := by decide +kernel
theorem d_Mach_indexOf_11 : decode b_Mach_indexOf 11 = .ok (.getfield 9, 3) := by decide +kernel
theorem d_Mach_indexOf_14 : decode b_Mach_indexOf 14 = .ok (.iload_n 2, 1) := by decide +kernel
theorem d_Mach_indexOf_15 : decode b_Mach_indexOf 15 = .ok (.iaload, 1) := by decide +kernel
theorem d_Mach_indexOf_16 : decode b_Mach_indexOf 16 = .ok (.iload_n 1, 1) := by decide +kernel
theorem d_Mach_indexOf_17 : decode b_Mach_indexOf 17 = .ok (.if_icmp .ne 5, 3) := by decide +kernel
theorem d_Mach_indexOf_20 : decode b_Mach_indexOf 20 = .ok (.iload_n 2, 1) := by decide +kernel
theorem d_Mach_indexOf_21 : decode b_Mach_indexOf 21 = .ok (.ireturn, 1) := by decide +kernel
theorem d_Mach_indexOf_22 : decode b_Mach_indexOf 22 = .ok (.iinc 2 1, 3) := by decide +kernel
theorem d_Mach_indexOf_25 : decode b_Mach_indexOf 25 = .ok (.goto (-23), 3) := by decide +kernel
theorem d_Mach_indexOf_28 : decode b_Mach_indexOf 28 = .ok (.aload_n 0, 1) := by decide +kernel
theorem d_Mach_indexOf_29 : decode b_Mach_indexOf 29 = .ok (.getfield 41, 3) := by decide +kernel
theorem d_Mach_indexOf_32 : decode b_Mach_indexOf 32 = .ok (.bipush 50, 2) := by decide +kernel
theorem d_Mach_indexOf_34 : decode b_Mach_indexOf 34 = .ok (.if_icmp .lt 6, 3) := by decide +kernel
theorem d_Mach_indexOf_37 : decode b_Mach_indexOf 37 = .ok (.bipush 50, 2) := by decide +kernel
theorem d_Mach_indexOf_39 : decode b_Mach_indexOf 39 = .ok (.ireturn, 1) := by decide +kernel
theorem d_Mach_indexOf_40 : decode b_Mach_indexOf 40 = .ok (.aload_n 0, 1) := by decide +kernel
theorem d_Mach_indexOf_41 : decode b_Mach_indexOf 41 = .ok (.getfield 9, 3) := by decide +kernel
theorem d_Mach_indexOf_44 : decode b_Mach_indexOf 44 = .ok (.aload_n 0, 1) := by decide +kernel
theorem d_Mach_indexOf_45 : decode b_Mach_indexOf 45 = .ok (.getfield 41, 3) := by decide +kernel
theorem d_Mach_indexOf_48 : decode b_Mach_indexOf 48 = .ok (.iload_n 1, 1) := by decide +kernel
theorem d_Mach_indexOf_49 : decode b_Mach_indexOf 49 = .ok (.iastore, 1) := by decide +kernel
theorem d_Mach_indexOf_50 : decode b_Mach_indexOf 50 = .ok (.aload_n 0, 1) := by decide +kernel
theorem d_Mach_indexOf_51 : decode b_Mach_indexOf 51 = .ok (.dup, 1) := by decide +kernel
theorem d_Mach_indexOf_52 : decode b_Mach_indexOf 52 = .ok (.getfield 41, 3) := by decide +kernel
theorem d_Mach_indexOf_55 : decode b_Mach_indexOf 55 = .ok (.iconst 1, 1) := by decide +kernel
theorem d_Mach_indexOf_56 : decode b_Mach_indexOf 56 = .ok (.iadd, 1) := by decide +kernel
theorem d_Mach_indexOf_57 : decode b_Mach_indexOf 57 = .ok (.putfield 41, 3) := by decide +kernel
theorem d_Mach_indexOf_60 : decode b_Mach_indexOf 60 = .ok (.aload_n 0, 1) := by decide +kernel
theorem d_Mach_indexOf_61 : decode b_Mach_indexOf 61 = .ok (.getfield 41, 3) := by decide +kernel
theorem d_Mach_indexOf_64 : decode b_Mach_indexOf 64 = .ok (.iconst 1, 1) := by decide +kernel
theorem d_Mach_indexOf_65 : decode b_Mach_indexOf 65 = .ok (.isub, 1) := by decide +kernel
theorem d_Mach_indexOf_66 : decode b_Mach_indexOf 66 = .ok (.ireturn, 1) := by decide +kernel
theorem d_Mach_classBehind_0 : decode b_Mach_classBehind 0 = .ok (.aload_n 0, 1) := by decide +kernel
theorem d_Mach_classBehind_1 : decode b_Mach_classBehind 1 = .ok (.iload_n 1, 1) := by decide +kernel
theorem d_Mach_classBehind_2 : decode b_Mach_classBehind 2 = .ok (.iload_n 2, 1) := by decide +kernel
theorem d_Mach_classBehind_3 : decode b_Mach_classBehind 3 = .ok (.invokevirtual 122, 3) := by decide +kernel
theorem d_Mach_classBehind_6 : decode b_Mach_classBehind 6 = .ok (.istore_n 3, 1) := by decide +kernel
theorem d_Mach_classBehind_7 : decode b_Mach_classBehind 7 = .ok (.iload_n 3, 1) := by decide +kernel
theorem d_Mach_classBehind_8 : decode b_Mach_classBehind 8 = .ok (.iconst (-1), 1) := by decide +kernel
theorem d_Mach_classBehind_9 : decode b_Mach_classBehind 9 = .ok (.if_icmp .ne 7, 3) := by decide +kernel
theorem d_Mach_classBehind_12 : decode b_Mach_classBehind 12 = .ok (.iconst (-1), 1) := by decide +kernel
theorem d_Mach_classBehind_13 : decode b_Mach_classBehind 13 = .ok (.goto 9, 3) := by decide +kernel
theorem d_Mach_classBehind_16 : decode b_Mach_classBehind 16 = .ok (.aload_n 0, 1) := by decide +kernel
theorem d_Mach_classBehind_17 : decode b_Mach_classBehind 17 = .ok (.getfield 28, 3) := by decide +kernel
theorem d_Mach_classBehind_20 : decode b_Mach_classBehind 20 = .ok (.iload_n 3, 1) := by decide +kernel
theorem d_Mach_classBehind_21 : decode b_Mach_classBehind 21 = .ok (.iaload, 1) := by decide +kernel
theorem d_Mach_classBehind_22 : decode b_Mach_classBehind 22 = .ok (.ireturn, 1) := by decide +kernel
theorem d_Mach_looksLike_0 : decode b_Mach_looksLike 0 = .ok (.aload_n 0, 1) := by decide +kernel
theorem d_Mach_looksLike_1 : decode b_Mach_looksLike 1 = .ok (.getfield 28, 3) := by decide +kernel
theorem d_Mach_looksLike_4 : decode b_Mach_looksLike 4 = .ok (.iload_n 1, 1) := by decide +kernel
theorem d_Mach_looksLike_5 : decode b_Mach_looksLike 5 = .ok (.iaload, 1) := by decide +kernel
theorem d_Mach_looksLike_6 : decode b_Mach_looksLike 6 = .ok (.aload_n 0, 1) := by decide +kernel
theorem d_Mach_looksLike_7 : decode b_Mach_looksLike 7 = .ok (.getfield 28, 3) := by decide +kernel
theorem d_Mach_looksLike_10 : decode b_Mach_looksLike 10 = .ok (.iload_n 2, 1) := by decide +kernel
theorem d_Mach_looksLike_11 : decode b_Mach_looksLike 11 = .ok (.iaload, 1) := by decide +kernel
theorem d_Mach_looksLike_12 : decode b_Mach_looksLike 12 = .ok (.if_icmp .ne 37, 3) := by decide +kernel
theorem d_Mach_looksLike_15 : decode b_Mach_looksLike 15 = .ok (.aload_n 0, 1) := by decide +kernel
theorem d_Mach_looksLike_16 : decode b_Mach_looksLike 16 = .ok (.getfield 21, 3) := by decide +kernel
theorem d_Mach_looksLike_19 : decode b_Mach_looksLike 19 = .ok (.iload_n 1, 1) := by decide +kernel
theorem d_Mach_looksLike_20 : decode b_Mach_looksLike 20 = .ok (.baload, 1) := by decide +kernel
theorem d_Mach_looksLike_21 : decode b_Mach_looksLike 21 = .ok (.aload_n 0, 1) := by decide +kernel
theorem d_Mach_looksLike_22 : decode b_Mach_looksLike 22 = .ok (.getfield 21, 3) := by decide +kernel
theorem d_Mach_looksLike_25 : decode b_Mach_looksLike 25 = .ok (.iload_n 2, 1) := by decide +kernel
theorem d_Mach_looksLike_26 : decode b_Mach_looksLike 26 = .ok (.baload, 1) := by decide +kernel
theorem d_Mach_looksLike_27 : decode b_Mach_looksLike 27 = .ok (.if_icmp .ne 22, 3) := by decide +kernel
theorem d_Mach_looksLike_30 : decode b_Mach_looksLike 30 = .ok (.aload_n 0, 1) := by decide +kernel
theorem d_Mach_looksLike_31 : decode b_Mach_looksLike 31 = .ok (.getfield 25, 3) := by decide +kernel
theorem d_Mach_looksLike_34 : decode b_Mach_looksLike 34 = .ok (.iload_n 1, 1) := by decide +kernel
theorem d_Mach_looksLike_35 : decode b_Mach_looksLike 35 = .ok (.iaload, 1) := by decide +kernel
theorem d_Mach_looksLike_36 : decode b_Mach_looksLike 36 = .ok (.aload_n 0, 1) := by decide +kernel
theorem d_Mach_looksLike_37 : decode b_Mach_looksLike 37 = .ok (.getfield 25, 3) := by decide +kernel
theorem d_Mach_looksLike_40 : decode b_Mach_looksLike 40 = .ok (.iload_n 2, 1) := by decide +kernel
theorem d_Mach_looksLike_41 : decode b_Mach_looksLike 41 = .ok (.iaload, 1) := by decide +kernel
theorem d_Mach_looksLike_42 : decode b_Mach_looksLike 42 = .ok (.if_icmp .ne 7, 3) := by decide +kernel
theorem d_Mach_looksLike_45 : decode b_Mach_looksLike 45 = .ok (.iconst 1, 1) := by decide +kernel
theorem d_Mach_looksLike_46 : decode b_Mach_looksLike 46 = .ok (.goto 4, 3) := by decide +kernel
theorem d_Mach_looksLike_49 : decode b_Mach_looksLike 49 = .ok (.iconst 0, 1) := by decide +kernel
theorem d_Mach_looksLike_50 : decode b_Mach_looksLike 50 = .ok (.istore_n 3, 1) := by decide +kernel
theorem d_Mach_looksLike_51 : decode b_Mach_looksLike 51 = .ok (.iconst 0, 1) := by decide +kernel
theorem d_Mach_looksLike_52 : decode b_Mach_looksLike 52 = .ok (.istore 4, 2) := by decide +kernel
theorem d_Mach_looksLike_54 : decode b_Mach_looksLike 54 = .ok (.iload 4, 2) := by decide +kernel
theorem d_Mach_looksLike_56 : decode b_Mach_looksLike 56 = .ok (.iconst 4, 1) := by decide +kernel
theorem d_Mach_looksLike_57 : decode b_Mach_looksLike 57 = .ok (.if_icmp .ge 53, 3) := by decide +kernel
theorem d_Mach_looksLike_60 : decode b_Mach_looksLike 60 = .ok (.iload_n 3, 1) := by decide +kernel
theorem d_Mach_looksLike_61 : decode b_Mach_looksLike 61 = .ok (.ifCond .eq 49, 3) := by decide +kernel
theorem d_Mach_looksLike_64 : decode b_Mach_looksLike 64 = .ok (.aload_n 0, 1) := by decide +kernel
theorem d_Mach_looksLike_65 : decode b_Mach_looksLike 65 = .ok (.iload_n 1, 1) := by decide +kernel
theorem d_Mach_looksLike_66 : decode b_Mach_looksLike 66 = .ok (.iload 4, 2) := by decide +kernel
theorem d_Mach_looksLike_68 : decode b_Mach_looksLike 68 = .ok (.invokevirtual 116, 3) := by decide +kernel
theorem d_Mach_looksLike_71 : decode b_Mach_looksLike 71 = .ok (.aload_n 0, 1) := by decide +kernel
theorem d_Mach_looksLike_72 : decode b_Mach_looksLike 72 = .ok (.iload_n 2, 1) := by decide +kernel
theorem d_Mach_looksLike_73 : decode b_Mach_looksLike 73 = .ok (.iload 4, 2) := by decide +kernel
theorem d_Mach_looksLike_75 : decode b_Mach_looksLike 75 = .ok (.invokevirtual 116, 3) := by decide +kernel
theorem d_Mach_looksLike_78 : decode b_Mach_looksLike 78 = .ok (.if_icmp .ne 24, 3) := by decide +kernel
theorem d_Mach_looksLike_81 : decode b_Mach_looksLike 81 = .ok (.aload_n 0, 1) := by decide +kernel
theorem d_Mach_looksLike_82 : decode b_Mach_looksLike 82 = .ok (.iload_n 1, 1) := by decide +kernel
theorem d_Mach_looksLike_83 : decode b_Mach_looksLike 83 = .ok (.iload 4, 2) := by decide +kernel
theorem d_Mach_looksLike_85 : decode b_Mach_looksLike 85 = .ok (.invokevirtual 119, 3) := by decide +kernel
theorem d_Mach_looksLike_88 : decode b_Mach_looksLike 88 = .ok (.aload_n 0, 1) := by decide +kernel
theorem d_Mach_looksLike_89 : decode b_Mach_looksLike 89 = .ok (.iload_n 2, 1) := by decide +kernel
theorem d_Mach_looksLike_90 : decode b_Mach_looksLike 90 = .ok (.iload 4, 2) := by decide +kernel
theorem d_Mach_looksLike_92 : decode b_Mach_looksLike 92 = .ok (.invokevirtual 119, 3) := by decide +kernel
theorem d_Mach_looksLike_95 : decode b_Mach_looksLike 95 = .ok (.if_icmp .ne 7, 3) := by decide +kernel
theorem d_Mach_looksLike_98 : decode b_Mach_looksLike 98 = .ok (.iconst 1, 1) := by decide +kernel
theorem d_Mach_looksLike_99 : decode b_Mach_looksLike 99 = .ok (.goto 4, 3) := by decide +kernel
theorem d_Mach_looksLike_102 : decode b_Mach_looksLike 102 = .ok (.iconst 0, 1) := by decide +kernel
theorem d_Mach_looksLike_103 : decode b_Mach_looksLike 103 = .ok (.istore_n 3, 1) := by decide +kernel
theorem d_Mach_looksLike_104 : decode b_Mach_looksLike 104 = .ok (.iinc 4 1, 3) := by decide +kernel
theorem d_Mach_looksLike_107 : decode b_Mach_looksLike 107 = .ok (.goto (-53), 3) := by decide +kernel
theorem d_Mach_looksLike_110 : decode b_Mach_looksLike 110 = .ok (.iload_n 3, 1) := by decide +kernel
theorem d_Mach_looksLike_111 : decode b_Mach_looksLike 111 = .ok (.ireturn, 1) := by decide +kernel
theorem d_Mach_leastAlike_0 : decode b_Mach_leastAlike 0 = .ok (.iconst 0, 1) := by decide +kernel
theorem d_Mach_leastAlike_1 : decode b_Mach_leastAlike 1 = .ok (.istore_n 2, 1) := by decide +kernel
theorem d_Mach_leastAlike_2 : decode b_Mach_leastAlike 2 = .ok (.iload_n 2, 1) := by decide +kernel
theorem d_Mach_leastAlike_3 : decode b_Mach_leastAlike 3 = .ok (.iload_n 1, 1) := by decide +kernel
theorem d_Mach_leastAlike_4 : decode b_Mach_leastAlike 4 = .ok (.if_icmp .ge 30, 3) := by decide +kernel
theorem d_Mach_leastAlike_7 : decode b_Mach_leastAlike 7 = .ok (.aload_n 0, 1) := by decide +kernel
theorem d_Mach_leastAlike_8 : decode b_Mach_leastAlike 8 = .ok (.getfield 31, 3) := by decide +kernel
theorem d_Mach_leastAlike_11 : decode b_Mach_leastAlike 11 = .ok (.iload_n 2, 1) := by decide +kernel
theorem d_Mach_leastAlike_12 : decode b_Mach_leastAlike 12 = .ok (.iaload, 1) := by decide +kernel
theorem d_Mach_leastAlike_13 : decode b_Mach_leastAlike 13 = .ok (.iload_n 2, 1) := by decide +kernel
theorem d_Mach_leastAlike_14 : decode b_Mach_leastAlike 14 = .ok (.if_icmp .ne 14, 3) := by decide +kernel
theorem d_Mach_leastAlike_17 : decode b_Mach_leastAlike 17 = .ok (.aload_n 0, 1) := by decide +kernel
theorem d_Mach_leastAlike_18 : decode b_Mach_leastAlike 18 = .ok (.iload_n 1, 1) := by decide +kernel
theorem d_Mach_leastAlike_19 : decode b_Mach_leastAlike 19 = .ok (.iload_n 2, 1) := by decide +kernel
theorem d_Mach_leastAlike_20 : decode b_Mach_leastAlike 20 = .ok (.invokevirtual 112, 3) := by decide +kernel
theorem d_Mach_leastAlike_23 : decode b_Mach_leastAlike 23 = .ok (.ifCond .eq 5, 3) := by decide +kernel
theorem d_Mach_leastAlike_26 : decode b_Mach_leastAlike 26 = .ok (.iload_n 2, 1) := by decide +kernel
theorem d_Mach_leastAlike_27 : decode b_Mach_leastAlike 27 = .ok (.ireturn, 1) := by decide +kernel
theorem d_Mach_leastAlike_28 : decode b_Mach_leastAlike 28 = .ok (.iinc 2 1, 3) := by decide +kernel
theorem d_Mach_leastAlike_31 : decode b_Mach_leastAlike 31 = .ok (.goto (-29), 3) := by decide +kernel
theorem d_Mach_leastAlike_34 : decode b_Mach_leastAlike 34 = .ok (.iload_n 1, 1) := by decide +kernel
theorem d_Mach_leastAlike_35 : decode b_Mach_leastAlike 35 = .ok (.ireturn, 1) := by decide +kernel
theorem d_Mach_refine_0 : decode b_Mach_refine 0 = .ok (.iconst 0, 1) := by decide +kernel
theorem d_Mach_refine_1 : decode b_Mach_refine 1 = .ok (.istore_n 1, 1) := by decide +kernel
theorem d_Mach_refine_2 : decode b_Mach_refine 2 = .ok (.iconst 0, 1) := by decide +kernel
theorem d_Mach_refine_3 : decode b_Mach_refine 3 = .ok (.istore_n 2, 1) := by decide +kernel
theorem d_Mach_refine_4 : decode b_Mach_refine 4 = .ok (.iload_n 2, 1) := by decide +kernel
theorem d_Mach_refine_5 : decode b_Mach_refine 5 = .ok (.aload_n 0, 1) := by decide +kernel
theorem d_Mach_refine_6 : decode b_Mach_refine 6 = .ok (.getfield 41, 3) := by decide +kernel
theorem d_Mach_refine_9 : decode b_Mach_refine 9 = .ok (.if_icmp .ge 45, 3) := by decide +kernel
theorem d_Mach_refine_12 : decode b_Mach_refine 12 = .ok (.aload_n 0, 1) := by decide +kernel
theorem d_Mach_refine_13 : decode b_Mach_refine 13 = .ok (.getfield 31, 3) := by decide +kernel
theorem d_Mach_refine_16 : decode b_Mach_refine 16 = .ok (.iload_n 2, 1) := by decide +kernel
theorem d_Mach_refine_17 : decode b_Mach_refine 17 = .ok (.aload_n 0, 1) := by decide +kernel
theorem d_Mach_refine_18 : decode b_Mach_refine 18 = .ok (.iload_n 2, 1) := by decide +kernel
theorem d_Mach_refine_19 : decode b_Mach_refine 19 = .ok (.invokevirtual 103, 3) := by decide +kernel
theorem d_Mach_refine_22 : decode b_Mach_refine 22 = .ok (.iastore, 1) := by decide +kernel
theorem d_Mach_refine_23 : decode b_Mach_refine 23 = .ok (.iload_n 1, 1) := by decide +kernel
theorem d_Mach_refine_24 : decode b_Mach_refine 24 = .ok (.ifCond .ne 18, 3) := by decide +kernel
theorem d_Mach_refine_27 : decode b_Mach_refine 27 = .ok (.aload_n 0, 1) := by decide +kernel
theorem d_Mach_refine_28 : decode b_Mach_refine 28 = .ok (.getfield 31, 3) := by decide +kernel
theorem d_Mach_refine_31 : decode b_Mach_refine 31 = .ok (.iload_n 2, 1) := by decide +kernel
theorem d_Mach_refine_32 : decode b_Mach_refine 32 = .ok (.iaload, 1) := by decide +kernel
theorem d_Mach_refine_33 : decode b_Mach_refine 33 = .ok (.aload_n 0, 1) := by decide +kernel
theorem d_Mach_refine_34 : decode b_Mach_refine 34 = .ok (.getfield 28, 3) := by decide +kernel
theorem d_Mach_refine_37 : decode b_Mach_refine 37 = .ok (.iload_n 2, 1) := by decide +kernel
theorem d_Mach_refine_38 : decode b_Mach_refine 38 = .ok (.iaload, 1) := by decide +kernel
theorem d_Mach_refine_39 : decode b_Mach_refine 39 = .ok (.if_icmp .eq 7, 3) := by decide +kernel
theorem d_Mach_refine_42 : decode b_Mach_refine 42 = .ok (.iconst 1, 1) := by decide +kernel
theorem d_Mach_refine_43 : decode b_Mach_refine 43 = .ok (.goto 4, 3) := by decide +kernel
theorem d_Mach_refine_46 : decode b_Mach_refine 46 = .ok (.iconst 0, 1) := by decide +kernel
theorem d_Mach_refine_47 : decode b_Mach_refine 47 = .ok (.istore_n 1, 1) := by decide +kernel
theorem d_Mach_refine_48 : decode b_Mach_refine 48 = .ok (.iinc 2 1, 3) := by decide +kernel
theorem d_Mach_refine_51 : decode b_Mach_refine 51 = .ok (.goto (-47), 3) := by decide +kernel
theorem d_Mach_refine_54 : decode b_Mach_refine 54 = .ok (.aload_n 0, 1) := by decide +kernel
theorem d_Mach_refine_55 : decode b_Mach_refine 55 = .ok (.getfield 31, 3) := by decide +kernel
theorem d_Mach_refine_58 : decode b_Mach_refine 58 = .ok (.iconst 0, 1) := by decide +kernel
theorem d_Mach_refine_59 : decode b_Mach_refine 59 = .ok (.aload_n 0, 1) := by decide +kernel
theorem d_Mach_refine_60 : decode b_Mach_refine 60 = .ok (.getfield 28, 3) := by decide +kernel
theorem d_Mach_refine_63 : decode b_Mach_refine 63 = .ok (.iconst 0, 1) := by decide +kernel
theorem d_Mach_refine_64 : decode b_Mach_refine 64 = .ok (.aload_n 0, 1) := by decide +kernel
theorem d_Mach_refine_65 : decode b_Mach_refine 65 = .ok (.getfield 41, 3) := by decide +kernel
theorem d_Mach_refine_68 : decode b_Mach_refine 68 = .ok (.invokestatic 106, 3) := by decide +kernel
theorem d_Mach_refine_71 : decode b_Mach_refine 71 = .ok (.iload_n 1, 1) := by decide +kernel
theorem d_Mach_refine_72 : decode b_Mach_refine 72 = .ok (.ireturn, 1) := by decide +kernel
theorem d_Mach_findClasses_0 : decode b_Mach_findClasses 0 = .ok (.aload_n 0, 1) := by decide +kernel
theorem d_Mach_findClasses_1 : decode b_Mach_findClasses 1 = .ok (.getfield 28, 3) := by decide +kernel
theorem d_Mach_findClasses_4 : decode b_Mach_findClasses 4 = .ok (.iconst 0, 1) := by decide +kernel
theorem d_Mach_findClasses_5 : decode b_Mach_findClasses 5 = .ok (.invokestatic 90, 3) := by decide +kernel
theorem d_Mach_findClasses_8 : decode b_Mach_findClasses 8 = .ok (.iconst 1, 1) := by decide +kernel
theorem d_Mach_findClasses_9 : decode b_Mach_findClasses 9 = .ok (.istore_n 1, 1) := by decide +kernel
theorem d_Mach_findClasses_10 : decode b_Mach_findClasses 10 = .ok (.iconst 0, 1) := by decide +kernel
theorem d_Mach_findClasses_11 : decode b_Mach_findClasses 11 = .ok (.istore_n 2, 1) := by decide +kernel
theorem d_Mach_findClasses_12 : decode b_Mach_findClasses 12 = .ok (.iload_n 2, 1) := by decide +kernel
theorem d_Mach_findClasses_13 : decode b_Mach_findClasses 13 = .ok (.bipush 50, 2) := by decide +kernel
theorem d_Mach_findClasses_15 : decode b_Mach_findClasses 15 = .ok (.if_icmp .ge 18, 3) := by decide +kernel
theorem d_Mach_findClasses_18 : decode b_Mach_findClasses 18 = .ok (.iload_n 1, 1) := by decide +kernel
theorem d_Mach_findClasses_19 : decode b_Mach_findClasses 19 = .ok (.ifCond .eq 14, 3) := by decide +kernel
theorem d_Mach_findClasses_22 : decode b_Mach_findClasses 22 = .ok (.aload_n 0, 1) := by decide +kernel
theorem d_Mach_findClasses_23 : decode b_Mach_findClasses 23 = .ok (.invokevirtual 96, 3) := by decide +kernel
theorem d_Mach_findClasses_26 : decode b_Mach_findClasses 26 = .ok (.istore_n 1, 1) := by decide +kernel
theorem d_Mach_findClasses_27 : decode b_Mach_findClasses 27 = .ok (.iinc 2 1, 3) := by decide +kernel
theorem d_Mach_findClasses_30 : decode b_Mach_findClasses 30 = .ok (.goto (-18), 3) := by decide +kernel
theorem d_Mach_findClasses_33 : decode b_Mach_findClasses 33 = .ok (.aload_n 0, 1) := by decide +kernel
theorem d_Mach_findClasses_34 : decode b_Mach_findClasses 34 = .ok (.iconst 0, 1) := by decide +kernel
theorem d_Mach_findClasses_35 : decode b_Mach_findClasses 35 = .ok (.putfield 100, 3) := by decide +kernel
theorem d_Mach_findClasses_38 : decode b_Mach_findClasses 38 = .ok (.iconst 0, 1) := by decide +kernel
theorem d_Mach_findClasses_39 : decode b_Mach_findClasses 39 = .ok (.istore_n 2, 1) := by decide +kernel
theorem d_Mach_findClasses_40 : decode b_Mach_findClasses 40 = .ok (.iload_n 2, 1) := by decide +kernel
theorem d_Mach_findClasses_41 : decode b_Mach_findClasses 41 = .ok (.aload_n 0, 1) := by decide +kernel
theorem d_Mach_findClasses_42 : decode b_Mach_findClasses 42 = .ok (.getfield 41, 3) := by decide +kernel
theorem d_Mach_findClasses_45 : decode b_Mach_findClasses 45 = .ok (.if_icmp .ge 29, 3) := by decide +kernel
theorem d_Mach_findClasses_48 : decode b_Mach_findClasses 48 = .ok (.aload_n 0, 1) := by decide +kernel
theorem d_Mach_findClasses_49 : decode b_Mach_findClasses 49 = .ok (.getfield 28, 3) := by decide +kernel
theorem d_Mach_findClasses_52 : decode b_Mach_findClasses 52 = .ok (.iload_n 2, 1) := by decide +kernel
theorem d_Mach_findClasses_53 : decode b_Mach_findClasses 53 = .ok (.iaload, 1) := by decide +kernel
theorem d_Mach_findClasses_54 : decode b_Mach_findClasses 54 = .ok (.iload_n 2, 1) := by decide +kernel
theorem d_Mach_findClasses_55 : decode b_Mach_findClasses 55 = .ok (.if_icmp .ne 13, 3) := by decide +kernel
theorem d_Mach_findClasses_58 : decode b_Mach_findClasses 58 = .ok (.aload_n 0, 1) := by decide +kernel
theorem d_Mach_findClasses_59 : decode b_Mach_findClasses 59 = .ok (.dup, 1) := by decide +kernel
theorem d_Mach_findClasses_60 : decode b_Mach_findClasses 60 = .ok (.getfield 100, 3) := by decide +kernel
theorem d_Mach_findClasses_63 : decode b_Mach_findClasses 63 = .ok (.iconst 1, 1) := by decide +kernel
theorem d_Mach_findClasses_64 : decode b_Mach_findClasses 64 = .ok (.iadd, 1) := by decide +kernel
theorem d_Mach_findClasses_65 : decode b_Mach_findClasses 65 = .ok (.putfield 100, 3) := by decide +kernel
theorem d_Mach_findClasses_68 : decode b_Mach_findClasses 68 = .ok (.iinc 2 1, 3) := by decide +kernel
theorem d_Mach_findClasses_71 : decode b_Mach_findClasses 71 = .ok (.goto (-31), 3) := by decide +kernel
theorem d_Mach_findClasses_74 : decode b_Mach_findClasses 74 = .ok (.return_, 1) := by decide +kernel
