theorem d_Net_isFull_0 : decode b_Net_isFull 0 = .ok (.aload_n 0, 1) := by decide +kernel
theorem d_Net_isFull_1 : decode b_Net_isFull 1 = .ok (.getfield 27, 3) := by decide +kernel
theorem d_Net_isFull_4 : decode b_Net_isFull 4 = .ok (.bipush 30, 2) := by decide +kernel
theorem d_Net_isFull_6 : decode b_Net_isFull 6 = .ok (.if_icmp .lt 7, 3) := by decide +kernel
theorem d_Net_isFull_9 : decode b_Net_isFull 9 = .ok (.iconst 1, 1) := by decide +kernel
theorem d_Net_isFull_10 : decode b_Net_isFull 10 = .ok (.goto 4, 3) := by decide +kernel
theorem d_Net_isFull_13 : decode b_Net_isFull 13 = .ok (.iconst 0, 1) := by decide +kernel
theorem d_Net_isFull_14 : decode b_Net_isFull 14 = .ok (.ireturn, 1) := by decide +kernel
theorem d_Net_link_0 : decode b_Net_link 0 = .ok (.iconst 0, 1) := by decide +kernel
theorem d_Net_link_1 : decode b_Net_link 1 = .ok (.istore_n 3, 1) := by decide +kernel
theorem d_Net_link_2 : decode b_Net_link 2 = .ok (.iload_n 3, 1) := by decide +kernel
theorem d_Net_link_3 : decode b_Net_link 3 = .ok (.aload_n 0, 1) := by decide +kernel
theorem d_Net_link_4 : decode b_Net_link 4 = .ok (.getfield 27, 3) := by decide +kernel
theorem d_Net_link_7 : decode b_Net_link 7 = .ok (.if_icmp .ge 92, 3) := by decide +kernel
theorem d_Net_link_10 : decode b_Net_link 10 = .ok (.iload_n 1, 1) := by decide +kernel
theorem d_Net_link_11 : decode b_Net_link 11 = .ok (.iload_n 3, 1) := by decide +kernel
theorem d_Net_link_12 : decode b_Net_link 12 = .ok (.ishr, 1) := by decide +kernel
theorem d_Net_link_13 : decode b_Net_link 13 = .ok (.iconst 1, 1) := by decide +kernel
theorem d_Net_link_14 : decode b_Net_link 14 = .ok (.iand, 1) := by decide +kernel
theorem d_Net_link_15 : decode b_Net_link 15 = .ok (.ifCond .eq 7, 3) := by decide +kernel
theorem d_Net_link_18 : decode b_Net_link 18 = .ok (.iload_n 2, 1) := by decide +kernel
theorem d_Net_link_19 : decode b_Net_link 19 = .ok (.goto 4, 3) := by decide +kernel
theorem d_Net_link_22 : decode b_Net_link 22 = .ok (.iconst 0, 1) := by decide +kernel
theorem d_Net_link_23 : decode b_Net_link 23 = .ok (.istore 4, 2) := by decide +kernel
theorem d_Net_link_25 : decode b_Net_link 25 = .ok (.aload_n 0, 1) := by decide +kernel
theorem d_Net_link_26 : decode b_Net_link 26 = .ok (.getfield 21, 3) := by decide +kernel
theorem d_Net_link_29 : decode b_Net_link 29 = .ok (.iload_n 3, 1) := by decide +kernel
theorem d_Net_link_30 : decode b_Net_link 30 = .ok (.dup2, 1) := by decide +kernel
theorem d_Net_link_31 : decode b_Net_link 31 = .ok (.iaload, 1) := by decide +kernel
theorem d_Net_link_32 : decode b_Net_link 32 = .ok (.iload 4, 2) := by decide +kernel
theorem d_Net_link_34 : decode b_Net_link 34 = .ok (.ior, 1) := by decide +kernel
theorem d_Net_link_35 : decode b_Net_link 35 = .ok (.iastore, 1) := by decide +kernel
theorem d_Net_link_36 : decode b_Net_link 36 = .ok (.iconst 0, 1) := by decide +kernel
theorem d_Net_link_37 : decode b_Net_link 37 = .ok (.istore 5, 2) := by decide +kernel
theorem d_Net_link_39 : decode b_Net_link 39 = .ok (.iload 5, 2) := by decide +kernel
theorem d_Net_link_41 : decode b_Net_link 41 = .ok (.aload_n 0, 1) := by decide +kernel
theorem d_Net_link_42 : decode b_Net_link 42 = .ok (.getfield 27, 3) := by decide +kernel
theorem d_Net_link_45 : decode b_Net_link 45 = .ok (.if_icmp .ge 48, 3) := by decide +kernel
theorem d_Net_link_48 : decode b_Net_link 48 = .ok (.iload 4, 2) := by decide +kernel
theorem d_Net_link_50 : decode b_Net_link 50 = .ok (.iload 5, 2) := by decide +kernel
theorem d_Net_link_52 : decode b_Net_link 52 = .ok (.ishr, 1) := by decide +kernel
theorem d_Net_link_53 : decode b_Net_link 53 = .ok (.iconst 1, 1) := by decide +kernel
theorem d_Net_link_54 : decode b_Net_link 54 = .ok (.iand, 1) := by decide +kernel
theorem d_Net_link_55 : decode b_Net_link 55 = .ok (.ifCond .eq 32, 3) := by decide +kernel
theorem d_Net_link_58 : decode b_Net_link 58 = .ok (.aload_n 0, 1) := by decide +kernel
theorem d_Net_link_59 : decode b_Net_link 59 = .ok (.getfield 24, 3) := by decide +kernel
theorem d_Net_link_62 : decode b_Net_link 62 = .ok (.iload_n 3, 1) := by decide +kernel
theorem d_Net_link_63 : decode b_Net_link 63 = .ok (.bipush 30, 2) := by decide +kernel
theorem d_Net_link_65 : decode b_Net_link 65 = .ok (.imul, 1) := by decide +kernel
theorem d_Net_link_66 : decode b_Net_link 66 = .ok (.iload 5, 2) := by decide +kernel
theorem d_Net_link_68 : decode b_Net_link 68 = .ok (.iadd, 1) := by decide +kernel
theorem d_Net_link_69 : decode b_Net_link 69 = .ok (.dup2, 1) := by decide +kernel
theorem d_Net_link_70 : decode b_Net_link 70 = .ok (.iaload, 1) := by decide +kernel
theorem d_Net_link_71 : decode b_Net_link 71 = .ok (.aload_n 0, 1) := by decide +kernel
theorem d_Net_link_72 : decode b_Net_link 72 = .ok (.getfield 18, 3) := by decide +kernel
theorem d_Net_link_75 : decode b_Net_link 75 = .ok (.iload_n 3, 1) := by decide +kernel
theorem d_Net_link_76 : decode b_Net_link 76 = .ok (.iaload, 1) := by decide +kernel
theorem d_Net_link_77 : decode b_Net_link 77 = .ok (.aload_n 0, 1) := by decide +kernel
theorem d_Net_link_78 : decode b_Net_link 78 = .ok (.getfield 15, 3) := by decide +kernel
theorem d_Net_link_81 : decode b_Net_link 81 = .ok (.iload 5, 2) := by decide +kernel
theorem d_Net_link_83 : decode b_Net_link 83 = .ok (.iaload, 1) := by decide +kernel
theorem d_Net_link_84 : decode b_Net_link 84 = .ok (.ior, 1) := by decide +kernel
theorem d_Net_link_85 : decode b_Net_link 85 = .ok (.ior, 1) := by decide +kernel
theorem d_Net_link_86 : decode b_Net_link 86 = .ok (.iastore, 1) := by decide +kernel
theorem d_Net_link_87 : decode b_Net_link 87 = .ok (.iinc 5 1, 3) := by decide +kernel
theorem d_Net_link_90 : decode b_Net_link 90 = .ok (.goto (-51), 3) := by decide +kernel
theorem d_Net_link_93 : decode b_Net_link 93 = .ok (.iinc 3 1, 3) := by decide +kernel
theorem d_Net_link_96 : decode b_Net_link 96 = .ok (.goto (-94), 3) := by decide +kernel
theorem d_Net_link_99 : decode b_Net_link 99 = .ok (.return_, 1) := by decide +kernel
theorem d_Net_together_0 : decode b_Net_together 0 = .ok (.iconst 0, 1) := by decide +kernel
theorem d_Net_together_1 : decode b_Net_together 1 = .ok (.istore 4, 2) := by decide +kernel
theorem d_Net_together_3 : decode b_Net_together 3 = .ok (.iconst 0, 1) := by decide +kernel
theorem d_Net_together_4 : decode b_Net_together 4 = .ok (.istore 5, 2) := by decide +kernel
theorem d_Net_together_6 : decode b_Net_together 6 = .ok (.iload 5, 2) := by decide +kernel
theorem d_Net_together_8 : decode b_Net_together 8 = .ok (.aload_n 0, 1) := by decide +kernel
theorem d_Net_together_9 : decode b_Net_together 9 = .ok (.getfield 27, 3) := by decide +kernel
theorem d_Net_together_12 : decode b_Net_together 12 = .ok (.if_icmp .ge 29, 3) := by decide +kernel
theorem d_Net_together_15 : decode b_Net_together 15 = .ok (.iload_n 3, 1) := by decide +kernel
theorem d_Net_together_16 : decode b_Net_together 16 = .ok (.iload 5, 2) := by decide +kernel
theorem d_Net_together_18 : decode b_Net_together 18 = .ok (.ishr, 1) := by decide +kernel
theorem d_Net_together_19 : decode b_Net_together 19 = .ok (.iconst 1, 1) := by decide +kernel
theorem d_Net_together_20 : decode b_Net_together 20 = .ok (.iand, 1) := by decide +kernel
theorem d_Net_together_21 : decode b_Net_together 21 = .ok (.ifCond .eq 14, 3) := by decide +kernel
theorem d_Net_together_24 : decode b_Net_together 24 = .ok (.iload 4, 2) := by decide +kernel
theorem d_Net_together_26 : decode b_Net_together 26 = .ok (.aload_n 1, 1) := by decide +kernel
theorem d_Net_together_27 : decode b_Net_together 27 = .ok (.iload_n 2, 1) := by decide +kernel
theorem d_Net_together_28 : decode b_Net_together 28 = .ok (.iload 5, 2) := by decide +kernel
theorem d_Net_together_30 : decode b_Net_together 30 = .ok (.iadd, 1) := by decide +kernel
theorem d_Net_together_31 : decode b_Net_together 31 = .ok (.iaload, 1) := by decide +kernel
theorem d_Net_together_32 : decode b_Net_together 32 = .ok (.ior, 1) := by decide +kernel
theorem d_Net_together_33 : decode b_Net_together 33 = .ok (.istore 4, 2) := by decide +kernel
theorem d_Net_together_35 : decode b_Net_together 35 = .ok (.iinc 5 1, 3) := by decide +kernel
theorem d_Net_together_38 : decode b_Net_together 38 = .ok (.goto (-32), 3) := by decide +kernel
theorem d_Net_together_41 : decode b_Net_together 41 = .ok (.iload 4, 2) := by decide +kernel
theorem d_Net_together_43 : decode b_Net_together 43 = .ok (.ireturn, 1) := by decide +kernel
theorem d_Net_give_0 : decode b_Net_give 0 = .ok (.iconst 0, 1) := by decide +kernel
theorem d_Net_give_1 : decode b_Net_give 1 = .ok (.istore 4, 2) := by decide +kernel
theorem d_Net_give_3 : decode b_Net_give 3 = .ok (.iload 4, 2) := by decide +kernel
theorem d_Net_give_5 : decode b_Net_give 5 = .ok (.aload_n 0, 1) := by decide +kernel
theorem d_Net_give_6 : decode b_Net_give 6 = .ok (.getfield 27, 3) := by decide +kernel
theorem d_Net_give_9 : decode b_Net_give 9 = .ok (.if_icmp .ge 26, 3) := by decide +kernel
theorem d_Net_give_12 : decode b_Net_give 12 = .ok (.iload_n 2, 1) := by decide +kernel
theorem d_Net_give_13 : decode b_Net_give 13 = .ok (.iload 4, 2) := by decide +kernel
theorem d_Net_give_15 : decode b_Net_give 15 = .ok (.ishr, 1) := by decide +kernel
theorem d_Net_give_16 : decode b_Net_give 16 = .ok (.iconst 1, 1) := by decide +kernel
theorem d_Net_give_17 : decode b_Net_give 17 = .ok (.iand, 1) := by decide +kernel
theorem d_Net_give_18 : decode b_Net_give 18 = .ok (.ifCond .eq 11, 3) := by decide +kernel
theorem d_Net_give_21 : decode b_Net_give 21 = .ok (.aload_n 1, 1) := by decide +kernel
theorem d_Net_give_22 : decode b_Net_give 22 = .ok (.iload 4, 2) := by decide +kernel
theorem d_Net_give_24 : decode b_Net_give 24 = .ok (.dup2, 1) := by decide +kernel
theorem d_Net_give_25 : decode b_Net_give 25 = .ok (.iaload, 1) := by decide +kernel
theorem d_Net_give_26 : decode b_Net_give 26 = .ok (.iload_n 3, 1) := by decide +kernel
theorem d_Net_give_27 : decode b_Net_give 27 = .ok (.ior, 1) := by decide +kernel
theorem d_Net_give_28 : decode b_Net_give 28 = .ok (.iastore, 1) := by decide +kernel
theorem d_Net_give_29 : decode b_Net_give 29 = .ok (.iinc 4 1, 3) := by decide +kernel
theorem d_Net_give_32 : decode b_Net_give 32 = .ok (.goto (-29), 3) := by decide +kernel
theorem d_Net_give_35 : decode b_Net_give 35 = .ok (.return_, 1) := by decide +kernel
theorem d_Net_giveSteps_0 : decode b_Net_giveSteps 0 = .ok (.iload_n 1, 1) := by decide +kernel
theorem d_Net_giveSteps_1 : decode b_Net_giveSteps 1 = .ok (.istore 4, 2) := by decide +kernel
theorem d_Net_giveSteps_3 : decode b_Net_giveSteps 3 = .ok (.iload 4, 2) := by decide +kernel
theorem d_Net_giveSteps_5 : decode b_Net_giveSteps 5 = .ok (.aload_n 0, 1) := by decide +kernel
theorem d_Net_giveSteps_6 : decode b_Net_giveSteps 6 = .ok (.getfield 27, 3) := by decide +kernel
theorem d_Net_giveSteps_9 : decode b_Net_giveSteps 9 = .ok (.if_icmp .ge 65, 3) := by decide +kernel
theorem d_Net_giveSteps_12 : decode b_Net_giveSteps 12 = .ok (.aload_n 0, 1) := by decide +kernel
theorem d_Net_giveSteps_13 : decode b_Net_giveSteps 13 = .ok (.getfield 21, 3) := by decide +kernel
theorem d_Net_giveSteps_16 : decode b_Net_giveSteps 16 = .ok (.iload 4, 2) := by decide +kernel
theorem d_Net_giveSteps_18 : decode b_Net_giveSteps 18 = .ok (.iaload, 1) := by decide +kernel
theorem d_Net_giveSteps_19 : decode b_Net_giveSteps 19 = .ok (.iload_n 2, 1) := by decide +kernel
theorem d_Net_giveSteps_20 : decode b_Net_giveSteps 20 = .ok (.iand, 1) := by decide +kernel
theorem d_Net_giveSteps_21 : decode b_Net_giveSteps 21 = .ok (.istore 5, 2) := by decide +kernel
theorem d_Net_giveSteps_23 : decode b_Net_giveSteps 23 = .ok (.iload_n 1, 1) := by decide +kernel
theorem d_Net_giveSteps_24 : decode b_Net_giveSteps 24 = .ok (.istore 6, 2) := by decide +kernel
theorem d_Net_giveSteps_26 : decode b_Net_giveSteps 26 = .ok (.iload 6, 2) := by decide +kernel
theorem d_Net_giveSteps_28 : decode b_Net_giveSteps 28 = .ok (.aload_n 0, 1) := by decide +kernel
theorem d_Net_giveSteps_29 : decode b_Net_giveSteps 29 = .ok (.getfield 27, 3) := by decide +kernel
theorem d_Net_giveSteps_32 : decode b_Net_giveSteps 32 = .ok (.if_icmp .ge 36, 3) := by decide +kernel
theorem d_Net_giveSteps_35 : decode b_Net_giveSteps 35 = .ok (.iload 5, 2) := by decide +kernel
theorem d_Net_giveSteps_37 : decode b_Net_giveSteps 37 = .ok (.iload 6, 2) := by decide +kernel
theorem d_Net_giveSteps_39 : decode b_Net_giveSteps 39 = .ok (.ishr, 1) := by decide +kernel
theorem d_Net_giveSteps_40 : decode b_Net_giveSteps 40 = .ok (.iconst 1, 1) := by decide +kernel
theorem d_Net_giveSteps_41 : decode b_Net_giveSteps 41 = .ok (.iand, 1) := by decide +kernel
theorem d_Net_giveSteps_42 : decode b_Net_giveSteps 42 = .ok (.ifCond .eq 20, 3) := by decide +kernel
theorem d_Net_giveSteps_45 : decode b_Net_giveSteps 45 = .ok (.aload_n 0, 1) := by decide +kernel
theorem d_Net_giveSteps_46 : decode b_Net_giveSteps 46 = .ok (.getfield 24, 3) := by decide +kernel
theorem d_Net_giveSteps_49 : decode b_Net_giveSteps 49 = .ok (.iload 4, 2) := by decide +kernel
theorem d_Net_giveSteps_51 : decode b_Net_giveSteps 51 = .ok (.bipush 30, 2) := by decide +kernel
theorem d_Net_giveSteps_53 : decode b_Net_giveSteps 53 = .ok (.imul, 1) := by decide +kernel
theorem d_Net_giveSteps_54 : decode b_Net_giveSteps 54 = .ok (.iload 6, 2) := by decide +kernel
theorem d_Net_giveSteps_56 : decode b_Net_giveSteps 56 = .ok (.iadd, 1) := by decide +kernel
theorem d_Net_giveSteps_57 : decode b_Net_giveSteps 57 = .ok (.dup2, 1) := by decide +kernel
theorem d_Net_giveSteps_58 : decode b_Net_giveSteps 58 = .ok (.iaload, 1) := by decide +kernel
theorem d_Net_giveSteps_59 : decode b_Net_giveSteps 59 = .ok (.iload_n 3, 1) := by decide +kernel
theorem d_Net_giveSteps_60 : decode b_Net_giveSteps 60 = .ok (.ior, 1) := by decide +kernel
theorem d_Net_giveSteps_61 : decode b_Net_giveSteps 61 = .ok (.iastore, 1) := by decide +kernel
theorem d_Net_giveSteps_62 : decode b_Net_giveSteps 62 = .ok (.iinc 6 1, 3) := by decide +kernel
theorem d_Net_giveSteps_65 : decode b_Net_giveSteps 65 = .ok (.goto (-39), 3) := by decide +kernel
theorem d_Net_giveSteps_68 : decode b_Net_giveSteps 68 = .ok (.iinc 4 1, 3) := by decide +kernel
theorem d_Net_giveSteps_71 : decode b_Net_giveSteps 71 = .ok (.goto (-68), 3) := by decide +kernel
theorem d_Net_giveSteps_74 : decode b_Net_giveSteps 74 = .ok (.return_, 1) := by decide +kernel
theorem d_Net_actionsOfFirst_0 : decode b_Net_actionsOfFirst 0 = .ok (.aload_n 0, 1) := by decide +kernel
theorem d_Net_actionsOfFirst_1 : decode b_Net_actionsOfFirst 1 = .ok (.aload_n 0, 1) := by decide +kernel
theorem d_Net_actionsOfFirst_2 : decode b_Net_actionsOfFirst 2 = .ok (.getfield 15, 3) := by decide +kernel
theorem d_Net_actionsOfFirst_5 : decode b_Net_actionsOfFirst 5 = .ok (.iconst 0, 1) := by decide +kernel
theorem d_Net_actionsOfFirst_6 : decode b_Net_actionsOfFirst 6 = .ok (.iload_n 1, 1) := by decide +kernel
theorem d_Net_actionsOfFirst_7 : decode b_Net_actionsOfFirst 7 = .ok (.invokevirtual 74, 3) := by decide +kernel
theorem d_Net_actionsOfFirst_10 : decode b_Net_actionsOfFirst 10 = .ok (.ireturn, 1) := by decide +kernel
theorem d_Net_actionsOfLast_0 : decode b_Net_actionsOfLast 0 = .ok (.aload_n 0, 1) := by decide +kernel
theorem d_Net_actionsOfLast_1 : decode b_Net_actionsOfLast 1 = .ok (.aload_n 0, 1) := by decide +kernel
theorem d_Net_actionsOfLast_2 : decode b_Net_actionsOfLast 2 = .ok (.getfield 18, 3) := by decide +kernel
theorem d_Net_actionsOfLast_5 : decode b_Net_actionsOfLast 5 = .ok (.iconst 0, 1) := by decide +kernel
theorem d_Net_actionsOfLast_6 : decode b_Net_actionsOfLast 6 = .ok (.iload_n 1, 1) := by decide +kernel
theorem d_Net_actionsOfLast_7 : decode b_Net_actionsOfLast 7 = .ok (.invokevirtual 74, 3) := by decide +kernel
theorem d_Net_actionsOfLast_10 : decode b_Net_actionsOfLast 10 = .ok (.ireturn, 1) := by decide +kernel
theorem d_Net_actionsOfSteps_0 : decode b_Net_actionsOfSteps 0 = .ok (.aload_n 0, 1) := by decide +kernel
theorem d_Net_actionsOfSteps_1 : decode b_Net_actionsOfSteps 1 = .ok (.aload_n 0, 1) := by decide +kernel
theorem d_Net_actionsOfSteps_2 : decode b_Net_actionsOfSteps 2 = .ok (.getfield 24, 3) := by decide +kernel
theorem d_Net_actionsOfSteps_5 : decode b_Net_actionsOfSteps 5 = .ok (.iload_n 1, 1) := by decide +kernel
theorem d_Net_actionsOfSteps_6 : decode b_Net_actionsOfSteps 6 = .ok (.bipush 30, 2) := by decide +kernel
theorem d_Net_actionsOfSteps_8 : decode b_Net_actionsOfSteps 8 = .ok (.imul, 1) := by decide +kernel
theorem d_Net_actionsOfSteps_9 : decode b_Net_actionsOfSteps 9 = .ok (.iload_n 2, 1) := by decide +kernel
theorem d_Net_actionsOfSteps_10 : decode b_Net_actionsOfSteps 10 = .ok (.invokevirtual 74, 3) := by decide +kernel
theorem d_Net_actionsOfSteps_13 : decode b_Net_actionsOfSteps 13 = .ok (.ireturn, 1) := by decide +kernel
