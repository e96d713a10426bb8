theorem d_Part_become_0 : decode b_Part_become 0 = .ok (.aload_n 0, 1) := by decide +kernel
theorem d_Part_become_1 : decode b_Part_become 1 = .ok (.aload_n 1, 1) := by decide +kernel
theorem d_Part_become_2 : decode b_Part_become 2 = .ok (.getfield 7, 3) := by decide +kernel
theorem d_Part_become_5 : decode b_Part_become 5 = .ok (.putfield 7, 3) := by decide +kernel
theorem d_Part_become_8 : decode b_Part_become 8 = .ok (.aload_n 0, 1) := by decide +kernel
theorem d_Part_become_9 : decode b_Part_become 9 = .ok (.aload_n 1, 1) := by decide +kernel
theorem d_Part_become_10 : decode b_Part_become 10 = .ok (.getfield 13, 3) := by decide +kernel
theorem d_Part_become_13 : decode b_Part_become 13 = .ok (.putfield 13, 3) := by decide +kernel
theorem d_Part_become_16 : decode b_Part_become 16 = .ok (.aload_n 0, 1) := by decide +kernel
theorem d_Part_become_17 : decode b_Part_become 17 = .ok (.aload_n 1, 1) := by decide +kernel
theorem d_Part_become_18 : decode b_Part_become 18 = .ok (.getfield 16, 3) := by decide +kernel
theorem d_Part_become_21 : decode b_Part_become 21 = .ok (.putfield 16, 3) := by decide +kernel
theorem d_Part_become_24 : decode b_Part_become 24 = .ok (.aload_n 0, 1) := by decide +kernel
theorem d_Part_become_25 : decode b_Part_become 25 = .ok (.aload_n 1, 1) := by decide +kernel
theorem d_Part_become_26 : decode b_Part_become 26 = .ok (.getfield 19, 3) := by decide +kernel
theorem d_Part_become_29 : decode b_Part_become 29 = .ok (.putfield 19, 3) := by decide +kernel
theorem d_Part_become_32 : decode b_Part_become 32 = .ok (.aload_n 0, 1) := by decide +kernel
theorem d_Part_become_33 : decode b_Part_become 33 = .ok (.aload_n 1, 1) := by decide +kernel
theorem d_Part_become_34 : decode b_Part_become 34 = .ok (.getfield 23, 3) := by decide +kernel
theorem d_Part_become_37 : decode b_Part_become 37 = .ok (.putfield 23, 3) := by decide +kernel
theorem d_Part_become_40 : decode b_Part_become 40 = .ok (.return_, 1) := by decide +kernel
theorem d_Part_becomePosition_0 : decode b_Part_becomePosition 0 = .ok (.aload_n 0, 1) := by decide +kernel
theorem d_Part_becomePosition_1 : decode b_Part_becomePosition 1 = .ok (.iload_n 1, 1) := by decide +kernel
theorem d_Part_becomePosition_2 : decode b_Part_becomePosition 2 = .ok (.putfield 7, 3) := by decide +kernel
theorem d_Part_becomePosition_5 : decode b_Part_becomePosition 5 = .ok (.aload_n 0, 1) := by decide +kernel
theorem d_Part_becomePosition_6 : decode b_Part_becomePosition 6 = .ok (.iconst 1, 1) := by decide +kernel
theorem d_Part_becomePosition_7 : decode b_Part_becomePosition 7 = .ok (.iload_n 1, 1) := by decide +kernel
theorem d_Part_becomePosition_8 : decode b_Part_becomePosition 8 = .ok (.ishl, 1) := by decide +kernel
theorem d_Part_becomePosition_9 : decode b_Part_becomePosition 9 = .ok (.putfield 13, 3) := by decide +kernel
theorem d_Part_becomePosition_12 : decode b_Part_becomePosition 12 = .ok (.aload_n 0, 1) := by decide +kernel
theorem d_Part_becomePosition_13 : decode b_Part_becomePosition 13 = .ok (.iconst 1, 1) := by decide +kernel
theorem d_Part_becomePosition_14 : decode b_Part_becomePosition 14 = .ok (.iload_n 1, 1) := by decide +kernel
theorem d_Part_becomePosition_15 : decode b_Part_becomePosition 15 = .ok (.ishl, 1) := by decide +kernel
theorem d_Part_becomePosition_16 : decode b_Part_becomePosition 16 = .ok (.putfield 16, 3) := by decide +kernel
theorem d_Part_becomePosition_19 : decode b_Part_becomePosition 19 = .ok (.aload_n 0, 1) := by decide +kernel
theorem d_Part_becomePosition_20 : decode b_Part_becomePosition 20 = .ok (.iconst 0, 1) := by decide +kernel
theorem d_Part_becomePosition_21 : decode b_Part_becomePosition 21 = .ok (.putfield 19, 3) := by decide +kernel
theorem d_Part_becomePosition_24 : decode b_Part_becomePosition 24 = .ok (.aload_n 0, 1) := by decide +kernel
theorem d_Part_becomePosition_25 : decode b_Part_becomePosition 25 = .ok (.iconst 0, 1) := by decide +kernel
theorem d_Part_becomePosition_26 : decode b_Part_becomePosition 26 = .ok (.putfield 23, 3) := by decide +kernel
theorem d_Part_becomePosition_29 : decode b_Part_becomePosition 29 = .ok (.return_, 1) := by decide +kernel
theorem d_Net_either_0 : decode b_Net_either 0 = .ok (.aload_n 1, 1) := by decide +kernel
theorem d_Net_either_1 : decode b_Net_either 1 = .ok (.dup, 1) := by decide +kernel
theorem d_Net_either_2 : decode b_Net_either 2 = .ok (.getfield 46, 3) := by decide +kernel
theorem d_Net_either_5 : decode b_Net_either 5 = .ok (.aload_n 2, 1) := by decide +kernel
theorem d_Net_either_6 : decode b_Net_either 6 = .ok (.getfield 46, 3) := by decide +kernel
theorem d_Net_either_9 : decode b_Net_either 9 = .ok (.ior, 1) := by decide +kernel
theorem d_Net_either_10 : decode b_Net_either 10 = .ok (.putfield 46, 3) := by decide +kernel
theorem d_Net_either_13 : decode b_Net_either 13 = .ok (.aload_n 1, 1) := by decide +kernel
theorem d_Net_either_14 : decode b_Net_either 14 = .ok (.dup, 1) := by decide +kernel
theorem d_Net_either_15 : decode b_Net_either 15 = .ok (.getfield 49, 3) := by decide +kernel
theorem d_Net_either_18 : decode b_Net_either 18 = .ok (.aload_n 2, 1) := by decide +kernel
theorem d_Net_either_19 : decode b_Net_either 19 = .ok (.getfield 49, 3) := by decide +kernel
theorem d_Net_either_22 : decode b_Net_either 22 = .ok (.ior, 1) := by decide +kernel
theorem d_Net_either_23 : decode b_Net_either 23 = .ok (.putfield 49, 3) := by decide +kernel
theorem d_Net_either_26 : decode b_Net_either 26 = .ok (.aload_n 1, 1) := by decide +kernel
theorem d_Net_either_27 : decode b_Net_either 27 = .ok (.aload_n 1, 1) := by decide +kernel
theorem d_Net_either_28 : decode b_Net_either 28 = .ok (.getfield 52, 3) := by decide +kernel
theorem d_Net_either_31 : decode b_Net_either 31 = .ok (.ifCond .ne 10, 3) := by decide +kernel
theorem d_Net_either_34 : decode b_Net_either 34 = .ok (.aload_n 2, 1) := by decide +kernel
theorem d_Net_either_35 : decode b_Net_either 35 = .ok (.getfield 52, 3) := by decide +kernel
theorem d_Net_either_38 : decode b_Net_either 38 = .ok (.ifCond .eq 7, 3) := by decide +kernel
theorem d_Net_either_41 : decode b_Net_either 41 = .ok (.iconst 1, 1) := by decide +kernel
theorem d_Net_either_42 : decode b_Net_either 42 = .ok (.goto 4, 3) := by decide +kernel
theorem d_Net_either_45 : decode b_Net_either 45 = .ok (.iconst 0, 1) := by decide +kernel
theorem d_Net_either_46 : decode b_Net_either 46 = .ok (.putfield 52, 3) := by decide +kernel
theorem d_Net_either_49 : decode b_Net_either 49 = .ok (.aload_n 1, 1) := by decide +kernel
theorem d_Net_either_50 : decode b_Net_either 50 = .ok (.dup, 1) := by decide +kernel
theorem d_Net_either_51 : decode b_Net_either 51 = .ok (.getfield 56, 3) := by decide +kernel
theorem d_Net_either_54 : decode b_Net_either 54 = .ok (.aload_n 2, 1) := by decide +kernel
theorem d_Net_either_55 : decode b_Net_either 55 = .ok (.getfield 56, 3) := by decide +kernel
theorem d_Net_either_58 : decode b_Net_either 58 = .ok (.ior, 1) := by decide +kernel
theorem d_Net_either_59 : decode b_Net_either 59 = .ok (.putfield 56, 3) := by decide +kernel
theorem d_Net_either_62 : decode b_Net_either 62 = .ok (.return_, 1) := by decide +kernel
theorem d_Net_restart_0 : decode b_Net_restart 0 = .ok (.aload_n 0, 1) := by decide +kernel
theorem d_Net_restart_1 : decode b_Net_restart 1 = .ok (.iconst 0, 1) := by decide +kernel
theorem d_Net_restart_2 : decode b_Net_restart 2 = .ok (.putfield 27, 3) := by decide +kernel
theorem d_Net_restart_5 : decode b_Net_restart 5 = .ok (.aload_n 0, 1) := by decide +kernel
theorem d_Net_restart_6 : decode b_Net_restart 6 = .ok (.getfield 9, 3) := by decide +kernel
theorem d_Net_restart_9 : decode b_Net_restart 9 = .ok (.iconst 0, 1) := by decide +kernel
theorem d_Net_restart_10 : decode b_Net_restart 10 = .ok (.invokestatic 31, 3) := by decide +kernel
theorem d_Net_restart_13 : decode b_Net_restart 13 = .ok (.return_, 1) := by decide +kernel
theorem d_Net_addPosition_0 : decode b_Net_addPosition 0 = .ok (.aload_n 0, 1) := by decide +kernel
theorem d_Net_addPosition_1 : decode b_Net_addPosition 1 = .ok (.getfield 27, 3) := by decide +kernel
theorem d_Net_addPosition_4 : decode b_Net_addPosition 4 = .ok (.istore_n 3, 1) := by decide +kernel
theorem d_Net_addPosition_5 : decode b_Net_addPosition 5 = .ok (.iconst 0, 1) := by decide +kernel
theorem d_Net_addPosition_6 : decode b_Net_addPosition 6 = .ok (.istore 4, 2) := by decide +kernel
theorem d_Net_addPosition_8 : decode b_Net_addPosition 8 = .ok (.iload 4, 2) := by decide +kernel
theorem d_Net_addPosition_10 : decode b_Net_addPosition 10 = .ok (.iconst 4, 1) := by decide +kernel
theorem d_Net_addPosition_11 : decode b_Net_addPosition 11 = .ok (.if_icmp .ge 31, 3) := by decide +kernel
theorem d_Net_addPosition_14 : decode b_Net_addPosition 14 = .ok (.iload_n 1, 1) := by decide +kernel
theorem d_Net_addPosition_15 : decode b_Net_addPosition 15 = .ok (.iload 4, 2) := by decide +kernel
theorem d_Net_addPosition_17 : decode b_Net_addPosition 17 = .ok (.ishr, 1) := by decide +kernel
theorem d_Net_addPosition_18 : decode b_Net_addPosition 18 = .ok (.iconst 1, 1) := by decide +kernel
theorem d_Net_addPosition_19 : decode b_Net_addPosition 19 = .ok (.iand, 1) := by decide +kernel
theorem d_Net_addPosition_20 : decode b_Net_addPosition 20 = .ok (.ifCond .eq 16, 3) := by decide +kernel
theorem d_Net_addPosition_23 : decode b_Net_addPosition 23 = .ok (.aload_n 0, 1) := by decide +kernel
theorem d_Net_addPosition_24 : decode b_Net_addPosition 24 = .ok (.getfield 9, 3) := by decide +kernel
theorem d_Net_addPosition_27 : decode b_Net_addPosition 27 = .ok (.iload 4, 2) := by decide +kernel
theorem d_Net_addPosition_29 : decode b_Net_addPosition 29 = .ok (.dup2, 1) := by decide +kernel
theorem d_Net_addPosition_30 : decode b_Net_addPosition 30 = .ok (.iaload, 1) := by decide +kernel
theorem d_Net_addPosition_31 : decode b_Net_addPosition 31 = .ok (.iconst 1, 1) := by decide +kernel
theorem d_Net_addPosition_32 : decode b_Net_addPosition 32 = .ok (.iload_n 3, 1) := by decide +kernel
theorem d_Net_addPosition_33 : decode b_Net_addPosition 33 = .ok (.ishl, 1) := by decide +kernel
theorem d_Net_addPosition_34 : decode b_Net_addPosition 34 = .ok (.ior, 1) := by decide +kernel
theorem d_Net_addPosition_35 : decode b_Net_addPosition 35 = .ok (.iastore, 1) := by decide +kernel
theorem d_Net_addPosition_36 : decode b_Net_addPosition 36 = .ok (.iinc 4 1, 3) := by decide +kernel
theorem d_Net_addPosition_39 : decode b_Net_addPosition 39 = .ok (.goto (-31), 3) := by decide +kernel
theorem d_Net_addPosition_42 : decode b_Net_addPosition 42 = .ok (.aload_n 0, 1) := by decide +kernel
theorem d_Net_addPosition_43 : decode b_Net_addPosition 43 = .ok (.getfield 15, 3) := by decide +kernel
theorem d_Net_addPosition_46 : decode b_Net_addPosition 46 = .ok (.iload_n 3, 1) := by decide +kernel
theorem d_Net_addPosition_47 : decode b_Net_addPosition 47 = .ok (.iconst 0, 1) := by decide +kernel
theorem d_Net_addPosition_48 : decode b_Net_addPosition 48 = .ok (.iastore, 1) := by decide +kernel
theorem d_Net_addPosition_49 : decode b_Net_addPosition 49 = .ok (.aload_n 0, 1) := by decide +kernel
theorem d_Net_addPosition_50 : decode b_Net_addPosition 50 = .ok (.getfield 18, 3) := by decide +kernel
theorem d_Net_addPosition_53 : decode b_Net_addPosition 53 = .ok (.iload_n 3, 1) := by decide +kernel
theorem d_Net_addPosition_54 : decode b_Net_addPosition 54 = .ok (.iconst 0, 1) := by decide +kernel
theorem d_Net_addPosition_55 : decode b_Net_addPosition 55 = .ok (.iastore, 1) := by decide +kernel
theorem d_Net_addPosition_56 : decode b_Net_addPosition 56 = .ok (.aload_n 0, 1) := by decide +kernel
theorem d_Net_addPosition_57 : decode b_Net_addPosition 57 = .ok (.getfield 21, 3) := by decide +kernel
theorem d_Net_addPosition_60 : decode b_Net_addPosition 60 = .ok (.iload_n 3, 1) := by decide +kernel
theorem d_Net_addPosition_61 : decode b_Net_addPosition 61 = .ok (.iconst 0, 1) := by decide +kernel
theorem d_Net_addPosition_62 : decode b_Net_addPosition 62 = .ok (.iastore, 1) := by decide +kernel
theorem d_Net_addPosition_63 : decode b_Net_addPosition 63 = .ok (.aload_n 0, 1) := by decide +kernel
theorem d_Net_addPosition_64 : decode b_Net_addPosition 64 = .ok (.getfield 24, 3) := by decide +kernel
theorem d_Net_addPosition_67 : decode b_Net_addPosition 67 = .ok (.iload_n 3, 1) := by decide +kernel
theorem d_Net_addPosition_68 : decode b_Net_addPosition 68 = .ok (.bipush 30, 2) := by decide +kernel
theorem d_Net_addPosition_70 : decode b_Net_addPosition 70 = .ok (.imul, 1) := by decide +kernel
theorem d_Net_addPosition_71 : decode b_Net_addPosition 71 = .ok (.iload_n 3, 1) := by decide +kernel
theorem d_Net_addPosition_72 : decode b_Net_addPosition 72 = .ok (.iconst 1, 1) := by decide +kernel
theorem d_Net_addPosition_73 : decode b_Net_addPosition 73 = .ok (.iadd, 1) := by decide +kernel
theorem d_Net_addPosition_74 : decode b_Net_addPosition 74 = .ok (.bipush 30, 2) := by decide +kernel
theorem d_Net_addPosition_76 : decode b_Net_addPosition 76 = .ok (.imul, 1) := by decide +kernel
theorem d_Net_addPosition_77 : decode b_Net_addPosition 77 = .ok (.iconst 0, 1) := by decide +kernel
theorem d_Net_addPosition_78 : decode b_Net_addPosition 78 = .ok (.invokestatic 37, 3) := by decide +kernel
theorem d_Net_addPosition_81 : decode b_Net_addPosition 81 = .ok (.aload_n 2, 1) := by decide +kernel
theorem d_Net_addPosition_82 : decode b_Net_addPosition 82 = .ok (.iload_n 3, 1) := by decide +kernel
theorem d_Net_addPosition_83 : decode b_Net_addPosition 83 = .ok (.invokevirtual 40, 3) := by decide +kernel
theorem d_Net_addPosition_86 : decode b_Net_addPosition 86 = .ok (.aload_n 0, 1) := by decide +kernel
theorem d_Net_addPosition_87 : decode b_Net_addPosition 87 = .ok (.dup, 1) := by decide +kernel
theorem d_Net_addPosition_88 : decode b_Net_addPosition 88 = .ok (.getfield 27, 3) := by decide +kernel
theorem d_Net_addPosition_91 : decode b_Net_addPosition 91 = .ok (.iconst 1, 1) := by decide +kernel
theorem d_Net_addPosition_92 : decode b_Net_addPosition 92 = .ok (.iadd, 1) := by decide +kernel
theorem d_Net_addPosition_93 : decode b_Net_addPosition 93 = .ok (.putfield 27, 3) := by decide +kernel
theorem d_Net_addPosition_96 : decode b_Net_addPosition 96 = .ok (.return_, 1) := by decide +kernel
theorem d_Net_chain_0 : decode b_Net_chain 0 = .ok (.aload_n 0, 1) := by decide +kernel
theorem d_Net_chain_1 : decode b_Net_chain 1 = .ok (.aload_n 1, 1) := by decide +kernel
theorem d_Net_chain_2 : decode b_Net_chain 2 = .ok (.getfield 49, 3) := by decide +kernel
theorem d_Net_chain_5 : decode b_Net_chain 5 = .ok (.aload_n 2, 1) := by decide +kernel
theorem d_Net_chain_6 : decode b_Net_chain 6 = .ok (.getfield 46, 3) := by decide +kernel
theorem d_Net_chain_9 : decode b_Net_chain 9 = .ok (.invokevirtual 59, 3) := by decide +kernel
theorem d_Net_chain_12 : decode b_Net_chain 12 = .ok (.aload_n 1, 1) := by decide +kernel
theorem d_Net_chain_13 : decode b_Net_chain 13 = .ok (.getfield 52, 3) := by decide +kernel
theorem d_Net_chain_16 : decode b_Net_chain 16 = .ok (.ifCond .eq 32, 3) := by decide +kernel
theorem d_Net_chain_19 : decode b_Net_chain 19 = .ok (.aload_n 0, 1) := by decide +kernel
theorem d_Net_chain_20 : decode b_Net_chain 20 = .ok (.aload_n 0, 1) := by decide +kernel
theorem d_Net_chain_21 : decode b_Net_chain 21 = .ok (.getfield 15, 3) := by decide +kernel
theorem d_Net_chain_24 : decode b_Net_chain 24 = .ok (.aload_n 2, 1) := by decide +kernel
theorem d_Net_chain_25 : decode b_Net_chain 25 = .ok (.getfield 46, 3) := by decide +kernel
theorem d_Net_chain_28 : decode b_Net_chain 28 = .ok (.aload_n 1, 1) := by decide +kernel
theorem d_Net_chain_29 : decode b_Net_chain 29 = .ok (.getfield 56, 3) := by decide +kernel
theorem d_Net_chain_32 : decode b_Net_chain 32 = .ok (.invokevirtual 63, 3) := by decide +kernel
theorem d_Net_chain_35 : decode b_Net_chain 35 = .ok (.aload_n 1, 1) := by decide +kernel
theorem d_Net_chain_36 : decode b_Net_chain 36 = .ok (.dup, 1) := by decide +kernel
theorem d_Net_chain_37 : decode b_Net_chain 37 = .ok (.getfield 46, 3) := by decide +kernel
theorem d_Net_chain_40 : decode b_Net_chain 40 = .ok (.aload_n 2, 1) := by decide +kernel
theorem d_Net_chain_41 : decode b_Net_chain 41 = .ok (.getfield 46, 3) := by decide +kernel
theorem d_Net_chain_44 : decode b_Net_chain 44 = .ok (.ior, 1) := by decide +kernel
theorem d_Net_chain_45 : decode b_Net_chain 45 = .ok (.putfield 46, 3) := by decide +kernel
theorem d_Net_chain_48 : decode b_Net_chain 48 = .ok (.aload_n 2, 1) := by decide +kernel
theorem d_Net_chain_49 : decode b_Net_chain 49 = .ok (.getfield 52, 3) := by decide +kernel
theorem d_Net_chain_52 : decode b_Net_chain 52 = .ok (.ifCond .eq 35, 3) := by decide +kernel
theorem d_Net_chain_55 : decode b_Net_chain 55 = .ok (.aload_n 0, 1) := by decide +kernel
theorem d_Net_chain_56 : decode b_Net_chain 56 = .ok (.aload_n 0, 1) := by decide +kernel
theorem d_Net_chain_57 : decode b_Net_chain 57 = .ok (.getfield 18, 3) := by decide +kernel
theorem d_Net_chain_60 : decode b_Net_chain 60 = .ok (.aload_n 1, 1) := by decide +kernel
theorem d_Net_chain_61 : decode b_Net_chain 61 = .ok (.getfield 49, 3) := by decide +kernel
theorem d_Net_chain_64 : decode b_Net_chain 64 = .ok (.aload_n 2, 1) := by decide +kernel
theorem d_Net_chain_65 : decode b_Net_chain 65 = .ok (.getfield 56, 3) := by decide +kernel
theorem d_Net_chain_68 : decode b_Net_chain 68 = .ok (.invokevirtual 63, 3) := by decide +kernel
theorem d_Net_chain_71 : decode b_Net_chain 71 = .ok (.aload_n 1, 1) := by decide +kernel
theorem d_Net_chain_72 : decode b_Net_chain 72 = .ok (.dup, 1) := by decide +kernel
theorem d_Net_chain_73 : decode b_Net_chain 73 = .ok (.getfield 49, 3) := by decide +kernel
theorem d_Net_chain_76 : decode b_Net_chain 76 = .ok (.aload_n 2, 1) := by decide +kernel
theorem d_Net_chain_77 : decode b_Net_chain 77 = .ok (.getfield 49, 3) := by decide +kernel
theorem d_Net_chain_80 : decode b_Net_chain 80 = .ok (.ior, 1) := by decide +kernel
theorem d_Net_chain_81 : decode b_Net_chain 81 = .ok (.putfield 49, 3) := by decide +kernel
theorem d_Net_chain_84 : decode b_Net_chain 84 = .ok (.goto 11, 3) := by decide +kernel
theorem d_Net_chain_87 : decode b_Net_chain 87 = .ok (.aload_n 1, 1) := by decide +kernel
theorem d_Net_chain_88 : decode b_Net_chain 88 = .ok (.aload_n 2, 1) := by decide +kernel
theorem d_Net_chain_89 : decode b_Net_chain 89 = .ok (.getfield 49, 3) := by decide +kernel
theorem d_Net_chain_92 : decode b_Net_chain 92 = .ok (.putfield 49, 3) := by decide +kernel
theorem d_Net_chain_95 : decode b_Net_chain 95 = .ok (.aload_n 1, 1) := by decide +kernel
theorem d_Net_chain_96 : decode b_Net_chain 96 = .ok (.aload_n 1, 1) := by decide +kernel
theorem d_Net_chain_97 : decode b_Net_chain 97 = .ok (.getfield 52, 3) := by decide +kernel
theorem d_Net_chain_100 : decode b_Net_chain 100 = .ok (.ifCond .eq 14, 3) := by decide +kernel
theorem d_Net_chain_103 : decode b_Net_chain 103 = .ok (.aload_n 2, 1) := by decide +kernel
theorem d_Net_chain_104 : decode b_Net_chain 104 = .ok (.getfield 52, 3) := by decide +kernel
theorem d_Net_chain_107 : decode b_Net_chain 107 = .ok (.ifCond .eq 7, 3) := by decide +kernel
theorem d_Net_chain_110 : decode b_Net_chain 110 = .ok (.iconst 1, 1) := by decide +kernel
theorem d_Net_chain_111 : decode b_Net_chain 111 = .ok (.goto 4, 3) := by decide +kernel
theorem d_Net_chain_114 : decode b_Net_chain 114 = .ok (.iconst 0, 1) := by decide +kernel
theorem d_Net_chain_115 : decode b_Net_chain 115 = .ok (.putfield 52, 3) := by decide +kernel
theorem d_Net_chain_118 : decode b_Net_chain 118 = .ok (.aload_n 1, 1) := by decide +kernel
theorem d_Net_chain_119 : decode b_Net_chain 119 = .ok (.aload_n 1, 1) := by decide +kernel
theorem d_Net_chain_120 : decode b_Net_chain 120 = .ok (.getfield 52, 3) := by decide +kernel
theorem d_Net_chain_123 : decode b_Net_chain 123 = .ok (.ifCond .eq 15, 3) := by decide +kernel
theorem d_Net_chain_126 : decode b_Net_chain 126 = .ok (.aload_n 1, 1) := by decide +kernel
theorem d_Net_chain_127 : decode b_Net_chain 127 = .ok (.getfield 56, 3) := by decide +kernel
theorem d_Net_chain_130 : decode b_Net_chain 130 = .ok (.aload_n 2, 1) := by decide +kernel
theorem d_Net_chain_131 : decode b_Net_chain 131 = .ok (.getfield 56, 3) := by decide +kernel
theorem d_Net_chain_134 : decode b_Net_chain 134 = .ok (.ior, 1) := by decide +kernel
theorem d_Net_chain_135 : decode b_Net_chain 135 = .ok (.goto 4, 3) := by decide +kernel
theorem d_Net_chain_138 : decode b_Net_chain 138 = .ok (.iconst 0, 1) := by decide +kernel
theorem d_Net_chain_139 : decode b_Net_chain 139 = .ok (.putfield 56, 3) := by decide +kernel
theorem d_Net_chain_142 : decode b_Net_chain 142 = .ok (.return_, 1) := by decide +kernel
theorem d_Net_repeat_0 : decode b_Net_repeat 0 = .ok (.iload_n 2, 1) := by decide +kernel
theorem d_Net_repeat_1 : decode b_Net_repeat 1 = .ok (.bipush 63, 2) := by decide +kernel
theorem d_Net_repeat_3 : decode b_Net_repeat 3 = .ok (.if_icmp .eq 15, 3) := by decide +kernel
theorem d_Net_repeat_6 : decode b_Net_repeat 6 = .ok (.aload_n 0, 1) := by decide +kernel
theorem d_Net_repeat_7 : decode b_Net_repeat 7 = .ok (.aload_n 1, 1) := by decide +kernel
theorem d_Net_repeat_8 : decode b_Net_repeat 8 = .ok (.getfield 49, 3) := by decide +kernel
theorem d_Net_repeat_11 : decode b_Net_repeat 11 = .ok (.aload_n 1, 1) := by decide +kernel
theorem d_Net_repeat_12 : decode b_Net_repeat 12 = .ok (.getfield 46, 3) := by decide +kernel
theorem d_Net_repeat_15 : decode b_Net_repeat 15 = .ok (.invokevirtual 59, 3) := by decide +kernel
theorem d_Net_repeat_18 : decode b_Net_repeat 18 = .ok (.iload_n 2, 1) := by decide +kernel
theorem d_Net_repeat_19 : decode b_Net_repeat 19 = .ok (.bipush 43, 2) := by decide +kernel
theorem d_Net_repeat_21 : decode b_Net_repeat 21 = .ok (.if_icmp .eq 8, 3) := by decide +kernel
theorem d_Net_repeat_24 : decode b_Net_repeat 24 = .ok (.aload_n 1, 1) := by decide +kernel
theorem d_Net_repeat_25 : decode b_Net_repeat 25 = .ok (.iconst 1, 1) := by decide +kernel
theorem d_Net_repeat_26 : decode b_Net_repeat 26 = .ok (.putfield 52, 3) := by decide +kernel
theorem d_Net_repeat_29 : decode b_Net_repeat 29 = .ok (.return_, 1) := by decide +kernel
theorem d_Net_act_0 : decode b_Net_act 0 = .ok (.iconst 1, 1) := by decide +kernel
theorem d_Net_act_1 : decode b_Net_act 1 = .ok (.iload_n 3, 1) := by decide +kernel
theorem d_Net_act_2 : decode b_Net_act 2 = .ok (.ishl, 1) := by decide +kernel
theorem d_Net_act_3 : decode b_Net_act 3 = .ok (.istore 4, 2) := by decide +kernel
theorem d_Net_act_5 : decode b_Net_act 5 = .ok (.iload_n 2, 1) := by decide +kernel
theorem d_Net_act_6 : decode b_Net_act 6 = .ok (.bipush 62, 2) := by decide +kernel
theorem d_Net_act_8 : decode b_Net_act 8 = .ok (.if_icmp .ne 20, 3) := by decide +kernel
theorem d_Net_act_11 : decode b_Net_act 11 = .ok (.aload_n 0, 1) := by decide +kernel
theorem d_Net_act_12 : decode b_Net_act 12 = .ok (.aload_n 0, 1) := by decide +kernel
theorem d_Net_act_13 : decode b_Net_act 13 = .ok (.getfield 15, 3) := by decide +kernel
theorem d_Net_act_16 : decode b_Net_act 16 = .ok (.aload_n 1, 1) := by decide +kernel
theorem d_Net_act_17 : decode b_Net_act 17 = .ok (.getfield 46, 3) := by decide +kernel
theorem d_Net_act_20 : decode b_Net_act 20 = .ok (.iload 4, 2) := by decide +kernel
theorem d_Net_act_22 : decode b_Net_act 22 = .ok (.invokevirtual 63, 3) := by decide +kernel
theorem d_Net_act_25 : decode b_Net_act 25 = .ok (.goto 115, 3) := by decide +kernel
theorem d_Net_act_28 : decode b_Net_act 28 = .ok (.iload_n 2, 1) := by decide +kernel
theorem d_Net_act_29 : decode b_Net_act 29 = .ok (.bipush 64, 2) := by decide +kernel
theorem d_Net_act_31 : decode b_Net_act 31 = .ok (.if_icmp .ne 39, 3) := by decide +kernel
theorem d_Net_act_34 : decode b_Net_act 34 = .ok (.aload_n 0, 1) := by decide +kernel
theorem d_Net_act_35 : decode b_Net_act 35 = .ok (.aload_n 0, 1) := by decide +kernel
theorem d_Net_act_36 : decode b_Net_act 36 = .ok (.getfield 15, 3) := by decide +kernel
theorem d_Net_act_39 : decode b_Net_act 39 = .ok (.aload_n 1, 1) := by decide +kernel
theorem d_Net_act_40 : decode b_Net_act 40 = .ok (.getfield 46, 3) := by decide +kernel
theorem d_Net_act_43 : decode b_Net_act 43 = .ok (.aload_n 1, 1) := by decide +kernel
theorem d_Net_act_44 : decode b_Net_act 44 = .ok (.getfield 49, 3) := by decide +kernel
theorem d_Net_act_47 : decode b_Net_act 47 = .ok (.iand, 1) := by decide +kernel
theorem d_Net_act_48 : decode b_Net_act 48 = .ok (.iload 4, 2) := by decide +kernel
theorem d_Net_act_50 : decode b_Net_act 50 = .ok (.invokevirtual 63, 3) := by decide +kernel
theorem d_Net_act_53 : decode b_Net_act 53 = .ok (.aload_n 0, 1) := by decide +kernel
theorem d_Net_act_54 : decode b_Net_act 54 = .ok (.aload_n 1, 1) := by decide +kernel
theorem d_Net_act_55 : decode b_Net_act 55 = .ok (.getfield 67, 3) := by decide +kernel
theorem d_Net_act_58 : decode b_Net_act 58 = .ok (.aload_n 1, 1) := by decide +kernel
theorem d_Net_act_59 : decode b_Net_act 59 = .ok (.getfield 49, 3) := by decide +kernel
theorem d_Net_act_62 : decode b_Net_act 62 = .ok (.iload 4, 2) := by decide +kernel
theorem d_Net_act_64 : decode b_Net_act 64 = .ok (.invokevirtual 70, 3) := by decide +kernel
theorem d_Net_act_67 : decode b_Net_act 67 = .ok (.goto 73, 3) := by decide +kernel
theorem d_Net_act_70 : decode b_Net_act 70 = .ok (.iload_n 2, 1) := by decide +kernel
theorem d_Net_act_71 : decode b_Net_act 71 = .ok (.bipush 36, 2) := by decide +kernel
theorem d_Net_act_73 : decode b_Net_act 73 = .ok (.if_icmp .ne 31, 3) := by decide +kernel
theorem d_Net_act_76 : decode b_Net_act 76 = .ok (.aload_n 0, 1) := by decide +kernel
theorem d_Net_act_77 : decode b_Net_act 77 = .ok (.aload_n 0, 1) := by decide +kernel
theorem d_Net_act_78 : decode b_Net_act 78 = .ok (.getfield 15, 3) := by decide +kernel
theorem d_Net_act_81 : decode b_Net_act 81 = .ok (.aload_n 1, 1) := by decide +kernel
theorem d_Net_act_82 : decode b_Net_act 82 = .ok (.getfield 46, 3) := by decide +kernel
theorem d_Net_act_85 : decode b_Net_act 85 = .ok (.iload 4, 2) := by decide +kernel
theorem d_Net_act_87 : decode b_Net_act 87 = .ok (.invokevirtual 63, 3) := by decide +kernel
theorem d_Net_act_90 : decode b_Net_act 90 = .ok (.aload_n 0, 1) := by decide +kernel
theorem d_Net_act_91 : decode b_Net_act 91 = .ok (.aload_n 1, 1) := by decide +kernel
theorem d_Net_act_92 : decode b_Net_act 92 = .ok (.getfield 67, 3) := by decide +kernel
theorem d_Net_act_95 : decode b_Net_act 95 = .ok (.iconst (-1), 1) := by decide +kernel
theorem d_Net_act_96 : decode b_Net_act 96 = .ok (.iload 4, 2) := by decide +kernel
theorem d_Net_act_98 : decode b_Net_act 98 = .ok (.invokevirtual 70, 3) := by decide +kernel
theorem d_Net_act_101 : decode b_Net_act 101 = .ok (.goto 39, 3) := by decide +kernel
theorem d_Net_act_104 : decode b_Net_act 104 = .ok (.aload_n 0, 1) := by decide +kernel
theorem d_Net_act_105 : decode b_Net_act 105 = .ok (.aload_n 0, 1) := by decide +kernel
theorem d_Net_act_106 : decode b_Net_act 106 = .ok (.getfield 18, 3) := by decide +kernel
theorem d_Net_act_109 : decode b_Net_act 109 = .ok (.aload_n 1, 1) := by decide +kernel
theorem d_Net_act_110 : decode b_Net_act 110 = .ok (.getfield 49, 3) := by decide +kernel
theorem d_Net_act_113 : decode b_Net_act 113 = .ok (.iload 4, 2) := by decide +kernel
theorem d_Net_act_115 : decode b_Net_act 115 = .ok (.invokevirtual 63, 3) := by decide +kernel
theorem d_Net_act_118 : decode b_Net_act 118 = .ok (.aload_n 1, 1) := by decide +kernel
theorem d_Net_act_119 : decode b_Net_act 119 = .ok (.dup, 1) := by decide +kernel
theorem d_Net_act_120 : decode b_Net_act 120 = .ok (.getfield 56, 3) := by decide +kernel
theorem d_Net_act_123 : decode b_Net_act 123 = .ok (.aload_n 1, 1) := by decide +kernel
theorem d_Net_act_124 : decode b_Net_act 124 = .ok (.getfield 52, 3) := by decide +kernel
theorem d_Net_act_127 : decode b_Net_act 127 = .ok (.ifCond .eq 8, 3) := by decide +kernel
theorem d_Net_act_130 : decode b_Net_act 130 = .ok (.iload 4, 2) := by decide +kernel
theorem d_Net_act_132 : decode b_Net_act 132 = .ok (.goto 4, 3) := by decide +kernel
theorem d_Net_act_135 : decode b_Net_act 135 = .ok (.iconst 0, 1) := by decide +kernel
theorem d_Net_act_136 : decode b_Net_act 136 = .ok (.ior, 1) := by decide +kernel
theorem d_Net_act_137 : decode b_Net_act 137 = .ok (.putfield 56, 3) := by decide +kernel
theorem d_Net_act_140 : decode b_Net_act 140 = .ok (.return_, 1) := by decide +kernel
