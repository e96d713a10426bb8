theorem d_Pars_readGroup_0 : decode b_Pars_readGroup 0 = .ok (.iload_n 1, 1) := by decide +kernel
theorem d_Pars_readGroup_1 : decode b_Pars_readGroup 1 = .ok (.bipush 8, 2) := by decide +kernel
theorem d_Pars_readGroup_3 : decode b_Pars_readGroup 3 = .ok (.if_icmp .lt 5, 3) := by decide +kernel
theorem d_Pars_readGroup_6 : decode b_Pars_readGroup 6 = .ok (.iconst 0, 1) := by decide +kernel
theorem d_Pars_readGroup_7 : decode b_Pars_readGroup 7 = .ok (.ireturn, 1) := by decide +kernel
theorem d_Pars_readGroup_8 : decode b_Pars_readGroup 8 = .ok (.aload_n 0, 1) := by decide +kernel
theorem d_Pars_readGroup_9 : decode b_Pars_readGroup 9 = .ok (.dup, 1) := by decide +kernel
theorem d_Pars_readGroup_10 : decode b_Pars_readGroup 10 = .ok (.getfield 45, 3) := by decide +kernel
theorem d_Pars_readGroup_13 : decode b_Pars_readGroup 13 = .ok (.iconst 1, 1) := by decide +kernel
theorem d_Pars_readGroup_14 : decode b_Pars_readGroup 14 = .ok (.iadd, 1) := by decide +kernel
theorem d_Pars_readGroup_15 : decode b_Pars_readGroup 15 = .ok (.putfield 45, 3) := by decide +kernel
theorem d_Pars_readGroup_18 : decode b_Pars_readGroup 18 = .ok (.aload_n 0, 1) := by decide +kernel
theorem d_Pars_readGroup_19 : decode b_Pars_readGroup 19 = .ok (.iload_n 1, 1) := by decide +kernel
theorem d_Pars_readGroup_20 : decode b_Pars_readGroup 20 = .ok (.iconst 1, 1) := by decide +kernel
theorem d_Pars_readGroup_21 : decode b_Pars_readGroup 21 = .ok (.iadd, 1) := by decide +kernel
theorem d_Pars_readGroup_22 : decode b_Pars_readGroup 22 = .ok (.invokevirtual 51, 3) := by decide +kernel
theorem d_Pars_readGroup_25 : decode b_Pars_readGroup 25 = .ok (.ifCond .eq 12, 3) := by decide +kernel
theorem d_Pars_readGroup_28 : decode b_Pars_readGroup 28 = .ok (.aload_n 0, 1) := by decide +kernel
theorem d_Pars_readGroup_29 : decode b_Pars_readGroup 29 = .ok (.invokevirtual 55, 3) := by decide +kernel
theorem d_Pars_readGroup_32 : decode b_Pars_readGroup 32 = .ok (.bipush 41, 2) := by decide +kernel
theorem d_Pars_readGroup_34 : decode b_Pars_readGroup 34 = .ok (.if_icmp .eq 5, 3) := by decide +kernel
theorem d_Pars_readGroup_37 : decode b_Pars_readGroup 37 = .ok (.iconst 0, 1) := by decide +kernel
theorem d_Pars_readGroup_38 : decode b_Pars_readGroup 38 = .ok (.ireturn, 1) := by decide +kernel
theorem d_Pars_readGroup_39 : decode b_Pars_readGroup 39 = .ok (.aload_n 0, 1) := by decide +kernel
theorem d_Pars_readGroup_40 : decode b_Pars_readGroup 40 = .ok (.dup, 1) := by decide +kernel
theorem d_Pars_readGroup_41 : decode b_Pars_readGroup 41 = .ok (.getfield 45, 3) := by decide +kernel
theorem d_Pars_readGroup_44 : decode b_Pars_readGroup 44 = .ok (.iconst 1, 1) := by decide +kernel
theorem d_Pars_readGroup_45 : decode b_Pars_readGroup 45 = .ok (.iadd, 1) := by decide +kernel
theorem d_Pars_readGroup_46 : decode b_Pars_readGroup 46 = .ok (.putfield 45, 3) := by decide +kernel
theorem d_Pars_readGroup_49 : decode b_Pars_readGroup 49 = .ok (.aload_n 0, 1) := by decide +kernel
theorem d_Pars_readGroup_50 : decode b_Pars_readGroup 50 = .ok (.getfield 27, 3) := by decide +kernel
theorem d_Pars_readGroup_53 : decode b_Pars_readGroup 53 = .ok (.iload_n 1, 1) := by decide +kernel
theorem d_Pars_readGroup_54 : decode b_Pars_readGroup 54 = .ok (.aaload, 1) := by decide +kernel
theorem d_Pars_readGroup_55 : decode b_Pars_readGroup 55 = .ok (.aload_n 0, 1) := by decide +kernel
theorem d_Pars_readGroup_56 : decode b_Pars_readGroup 56 = .ok (.getfield 20, 3) := by decide +kernel
theorem d_Pars_readGroup_59 : decode b_Pars_readGroup 59 = .ok (.iload_n 1, 1) := by decide +kernel
theorem d_Pars_readGroup_60 : decode b_Pars_readGroup 60 = .ok (.iconst 1, 1) := by decide +kernel
theorem d_Pars_readGroup_61 : decode b_Pars_readGroup 61 = .ok (.iadd, 1) := by decide +kernel
theorem d_Pars_readGroup_62 : decode b_Pars_readGroup 62 = .ok (.aaload, 1) := by decide +kernel
theorem d_Pars_readGroup_63 : decode b_Pars_readGroup 63 = .ok (.invokevirtual 62, 3) := by decide +kernel
theorem d_Pars_readGroup_66 : decode b_Pars_readGroup 66 = .ok (.iconst 1, 1) := by decide +kernel
theorem d_Pars_readGroup_67 : decode b_Pars_readGroup 67 = .ok (.ireturn, 1) := by decide +kernel
theorem d_Pars_readAtom_0 : decode b_Pars_readAtom 0 = .ok (.aload_n 0, 1) := by decide +kernel
theorem d_Pars_readAtom_1 : decode b_Pars_readAtom 1 = .ok (.invokevirtual 55, 3) := by decide +kernel
theorem d_Pars_readAtom_4 : decode b_Pars_readAtom 4 = .ok (.istore_n 2, 1) := by decide +kernel
theorem d_Pars_readAtom_5 : decode b_Pars_readAtom 5 = .ok (.iload_n 2, 1) := by decide +kernel
theorem d_Pars_readAtom_6 : decode b_Pars_readAtom 6 = .ok (.bipush 40, 2) := by decide +kernel
theorem d_Pars_readAtom_8 : decode b_Pars_readAtom 8 = .ok (.if_icmp .ne 9, 3) := by decide +kernel
theorem d_Pars_readAtom_11 : decode b_Pars_readAtom 11 = .ok (.aload_n 0, 1) := by decide +kernel
theorem d_Pars_readAtom_12 : decode b_Pars_readAtom 12 = .ok (.iload_n 1, 1) := by decide +kernel
theorem d_Pars_readAtom_13 : decode b_Pars_readAtom 13 = .ok (.invokevirtual 104, 3) := by decide +kernel
theorem d_Pars_readAtom_16 : decode b_Pars_readAtom 16 = .ok (.ireturn, 1) := by decide +kernel
theorem d_Pars_readAtom_17 : decode b_Pars_readAtom 17 = .ok (.iload_n 2, 1) := by decide +kernel
theorem d_Pars_readAtom_18 : decode b_Pars_readAtom 18 = .ok (.invokestatic 73, 3) := by decide +kernel
theorem d_Pars_readAtom_21 : decode b_Pars_readAtom 21 = .ok (.ifCond .eq 13, 3) := by decide +kernel
theorem d_Pars_readAtom_24 : decode b_Pars_readAtom 24 = .ok (.aload_n 0, 1) := by decide +kernel
theorem d_Pars_readAtom_25 : decode b_Pars_readAtom 25 = .ok (.getfield 12, 3) := by decide +kernel
theorem d_Pars_readAtom_28 : decode b_Pars_readAtom 28 = .ok (.invokevirtual 107, 3) := by decide +kernel
theorem d_Pars_readAtom_31 : decode b_Pars_readAtom 31 = .ok (.ifCond .eq 5, 3) := by decide +kernel
theorem d_Pars_readAtom_34 : decode b_Pars_readAtom 34 = .ok (.iconst 0, 1) := by decide +kernel
theorem d_Pars_readAtom_35 : decode b_Pars_readAtom 35 = .ok (.ireturn, 1) := by decide +kernel
theorem d_Pars_readAtom_36 : decode b_Pars_readAtom 36 = .ok (.aload_n 0, 1) := by decide +kernel
theorem d_Pars_readAtom_37 : decode b_Pars_readAtom 37 = .ok (.dup, 1) := by decide +kernel
theorem d_Pars_readAtom_38 : decode b_Pars_readAtom 38 = .ok (.getfield 45, 3) := by decide +kernel
theorem d_Pars_readAtom_41 : decode b_Pars_readAtom 41 = .ok (.iconst 1, 1) := by decide +kernel
theorem d_Pars_readAtom_42 : decode b_Pars_readAtom 42 = .ok (.iadd, 1) := by decide +kernel
theorem d_Pars_readAtom_43 : decode b_Pars_readAtom 43 = .ok (.putfield 45, 3) := by decide +kernel
theorem d_Pars_readAtom_46 : decode b_Pars_readAtom 46 = .ok (.iload_n 2, 1) := by decide +kernel
theorem d_Pars_readAtom_47 : decode b_Pars_readAtom 47 = .ok (.bipush 46, 2) := by decide +kernel
theorem d_Pars_readAtom_49 : decode b_Pars_readAtom 49 = .ok (.if_icmp .ne 8, 3) := by decide +kernel
theorem d_Pars_readAtom_52 : decode b_Pars_readAtom 52 = .ok (.bipush 15, 2) := by decide +kernel
theorem d_Pars_readAtom_54 : decode b_Pars_readAtom 54 = .ok (.goto 20, 3) := by decide +kernel
theorem d_Pars_readAtom_57 : decode b_Pars_readAtom 57 = .ok (.iload_n 2, 1) := by decide +kernel
theorem d_Pars_readAtom_58 : decode b_Pars_readAtom 58 = .ok (.bipush 91, 2) := by decide +kernel
theorem d_Pars_readAtom_60 : decode b_Pars_readAtom 60 = .ok (.if_icmp .ne 10, 3) := by decide +kernel
theorem d_Pars_readAtom_63 : decode b_Pars_readAtom 63 = .ok (.aload_n 0, 1) := by decide +kernel
theorem d_Pars_readAtom_64 : decode b_Pars_readAtom 64 = .ok (.invokevirtual 111, 3) := by decide +kernel
theorem d_Pars_readAtom_67 : decode b_Pars_readAtom 67 = .ok (.goto 7, 3) := by decide +kernel
theorem d_Pars_readAtom_70 : decode b_Pars_readAtom 70 = .ok (.iload_n 2, 1) := by decide +kernel
theorem d_Pars_readAtom_71 : decode b_Pars_readAtom 71 = .ok (.invokestatic 115, 3) := by decide +kernel
theorem d_Pars_readAtom_74 : decode b_Pars_readAtom 74 = .ok (.istore_n 3, 1) := by decide +kernel
theorem d_Pars_readAtom_75 : decode b_Pars_readAtom 75 = .ok (.iload_n 3, 1) := by decide +kernel
theorem d_Pars_readAtom_76 : decode b_Pars_readAtom 76 = .ok (.ifCond .ne 5, 3) := by decide +kernel
theorem d_Pars_readAtom_79 : decode b_Pars_readAtom 79 = .ok (.iconst 0, 1) := by decide +kernel
theorem d_Pars_readAtom_80 : decode b_Pars_readAtom 80 = .ok (.ireturn, 1) := by decide +kernel
theorem d_Pars_readAtom_81 : decode b_Pars_readAtom 81 = .ok (.aload_n 0, 1) := by decide +kernel
theorem d_Pars_readAtom_82 : decode b_Pars_readAtom 82 = .ok (.getfield 12, 3) := by decide +kernel
theorem d_Pars_readAtom_85 : decode b_Pars_readAtom 85 = .ok (.iload_n 3, 1) := by decide +kernel
theorem d_Pars_readAtom_86 : decode b_Pars_readAtom 86 = .ok (.aload_n 0, 1) := by decide +kernel
theorem d_Pars_readAtom_87 : decode b_Pars_readAtom 87 = .ok (.getfield 27, 3) := by decide +kernel
theorem d_Pars_readAtom_90 : decode b_Pars_readAtom 90 = .ok (.iload_n 1, 1) := by decide +kernel
theorem d_Pars_readAtom_91 : decode b_Pars_readAtom 91 = .ok (.aaload, 1) := by decide +kernel
theorem d_Pars_readAtom_92 : decode b_Pars_readAtom 92 = .ok (.invokevirtual 119, 3) := by decide +kernel
theorem d_Pars_readAtom_95 : decode b_Pars_readAtom 95 = .ok (.iconst 1, 1) := by decide +kernel
theorem d_Pars_readAtom_96 : decode b_Pars_readAtom 96 = .ok (.ireturn, 1) := by decide +kernel
theorem d_Pars_readFactor_0 : decode b_Pars_readFactor 0 = .ok (.aload_n 0, 1) := by decide +kernel
theorem d_Pars_readFactor_1 : decode b_Pars_readFactor 1 = .ok (.iload_n 1, 1) := by decide +kernel
theorem d_Pars_readFactor_2 : decode b_Pars_readFactor 2 = .ok (.invokevirtual 80, 3) := by decide +kernel
theorem d_Pars_readFactor_5 : decode b_Pars_readFactor 5 = .ok (.ifCond .ne 5, 3) := by decide +kernel
theorem d_Pars_readFactor_8 : decode b_Pars_readFactor 8 = .ok (.iconst 0, 1) := by decide +kernel
theorem d_Pars_readFactor_9 : decode b_Pars_readFactor 9 = .ok (.ireturn, 1) := by decide +kernel
theorem d_Pars_readFactor_10 : decode b_Pars_readFactor 10 = .ok (.iconst 0, 1) := by decide +kernel
theorem d_Pars_readFactor_11 : decode b_Pars_readFactor 11 = .ok (.istore_n 2, 1) := by decide +kernel
theorem d_Pars_readFactor_12 : decode b_Pars_readFactor 12 = .ok (.iload_n 2, 1) := by decide +kernel
theorem d_Pars_readFactor_13 : decode b_Pars_readFactor 13 = .ok (.bipush 80, 2) := by decide +kernel
theorem d_Pars_readFactor_15 : decode b_Pars_readFactor 15 = .ok (.if_icmp .ge 74, 3) := by decide +kernel
theorem d_Pars_readFactor_18 : decode b_Pars_readFactor 18 = .ok (.aload_n 0, 1) := by decide +kernel
theorem d_Pars_readFactor_19 : decode b_Pars_readFactor 19 = .ok (.invokevirtual 55, 3) := by decide +kernel
theorem d_Pars_readFactor_22 : decode b_Pars_readFactor 22 = .ok (.invokestatic 83, 3) := by decide +kernel
theorem d_Pars_readFactor_25 : decode b_Pars_readFactor 25 = .ok (.ifCond .eq 64, 3) := by decide +kernel
theorem d_Pars_readFactor_28 : decode b_Pars_readFactor 28 = .ok (.aload_n 0, 1) := by decide +kernel
theorem d_Pars_readFactor_29 : decode b_Pars_readFactor 29 = .ok (.invokevirtual 86, 3) := by decide +kernel
theorem d_Pars_readFactor_32 : decode b_Pars_readFactor 32 = .ok (.istore_n 3, 1) := by decide +kernel
theorem d_Pars_readFactor_33 : decode b_Pars_readFactor 33 = .ok (.aload_n 0, 1) := by decide +kernel
theorem d_Pars_readFactor_34 : decode b_Pars_readFactor 34 = .ok (.dup, 1) := by decide +kernel
theorem d_Pars_readFactor_35 : decode b_Pars_readFactor 35 = .ok (.getfield 45, 3) := by decide +kernel
theorem d_Pars_readFactor_38 : decode b_Pars_readFactor 38 = .ok (.iconst 1, 1) := by decide +kernel
theorem d_Pars_readFactor_39 : decode b_Pars_readFactor 39 = .ok (.iadd, 1) := by decide +kernel
theorem d_Pars_readFactor_40 : decode b_Pars_readFactor 40 = .ok (.putfield 45, 3) := by decide +kernel
theorem d_Pars_readFactor_43 : decode b_Pars_readFactor 43 = .ok (.iload_n 3, 1) := by decide +kernel
theorem d_Pars_readFactor_44 : decode b_Pars_readFactor 44 = .ok (.invokestatic 89, 3) := by decide +kernel
theorem d_Pars_readFactor_47 : decode b_Pars_readFactor 47 = .ok (.ifCond .eq 20, 3) := by decide +kernel
theorem d_Pars_readFactor_50 : decode b_Pars_readFactor 50 = .ok (.aload_n 0, 1) := by decide +kernel
theorem d_Pars_readFactor_51 : decode b_Pars_readFactor 51 = .ok (.getfield 12, 3) := by decide +kernel
theorem d_Pars_readFactor_54 : decode b_Pars_readFactor 54 = .ok (.aload_n 0, 1) := by decide +kernel
theorem d_Pars_readFactor_55 : decode b_Pars_readFactor 55 = .ok (.getfield 27, 3) := by decide +kernel
theorem d_Pars_readFactor_58 : decode b_Pars_readFactor 58 = .ok (.iload_n 1, 1) := by decide +kernel
theorem d_Pars_readFactor_59 : decode b_Pars_readFactor 59 = .ok (.aaload, 1) := by decide +kernel
theorem d_Pars_readFactor_60 : decode b_Pars_readFactor 60 = .ok (.iload_n 3, 1) := by decide +kernel
theorem d_Pars_readFactor_61 : decode b_Pars_readFactor 61 = .ok (.invokevirtual 92, 3) := by decide +kernel
theorem d_Pars_readFactor_64 : decode b_Pars_readFactor 64 = .ok (.goto 19, 3) := by decide +kernel
theorem d_Pars_readFactor_67 : decode b_Pars_readFactor 67 = .ok (.aload_n 0, 1) := by decide +kernel
theorem d_Pars_readFactor_68 : decode b_Pars_readFactor 68 = .ok (.aload_n 0, 1) := by decide +kernel
theorem d_Pars_readFactor_69 : decode b_Pars_readFactor 69 = .ok (.getfield 27, 3) := by decide +kernel
theorem d_Pars_readFactor_72 : decode b_Pars_readFactor 72 = .ok (.iload_n 1, 1) := by decide +kernel
theorem d_Pars_readFactor_73 : decode b_Pars_readFactor 73 = .ok (.aaload, 1) := by decide +kernel
theorem d_Pars_readFactor_74 : decode b_Pars_readFactor 74 = .ok (.iload_n 3, 1) := by decide +kernel
theorem d_Pars_readFactor_75 : decode b_Pars_readFactor 75 = .ok (.invokevirtual 96, 3) := by decide +kernel
theorem d_Pars_readFactor_78 : decode b_Pars_readFactor 78 = .ok (.ifCond .ne 5, 3) := by decide +kernel
theorem d_Pars_readFactor_81 : decode b_Pars_readFactor 81 = .ok (.iconst 0, 1) := by decide +kernel
theorem d_Pars_readFactor_82 : decode b_Pars_readFactor 82 = .ok (.ireturn, 1) := by decide +kernel
theorem d_Pars_readFactor_83 : decode b_Pars_readFactor 83 = .ok (.iinc 2 1, 3) := by decide +kernel
theorem d_Pars_readFactor_86 : decode b_Pars_readFactor 86 = .ok (.goto (-74), 3) := by decide +kernel
theorem d_Pars_readFactor_89 : decode b_Pars_readFactor 89 = .ok (.iconst 1, 1) := by decide +kernel
theorem d_Pars_readFactor_90 : decode b_Pars_readFactor 90 = .ok (.ireturn, 1) := by decide +kernel
theorem d_Pars_readTerm_0 : decode b_Pars_readTerm 0 = .ok (.aload_n 0, 1) := by decide +kernel
theorem d_Pars_readTerm_1 : decode b_Pars_readTerm 1 = .ok (.iload_n 1, 1) := by decide +kernel
theorem d_Pars_readTerm_2 : decode b_Pars_readTerm 2 = .ok (.invokevirtual 70, 3) := by decide +kernel
theorem d_Pars_readTerm_5 : decode b_Pars_readTerm 5 = .ok (.ifCond .ne 5, 3) := by decide +kernel
theorem d_Pars_readTerm_8 : decode b_Pars_readTerm 8 = .ok (.iconst 0, 1) := by decide +kernel
theorem d_Pars_readTerm_9 : decode b_Pars_readTerm 9 = .ok (.ireturn, 1) := by decide +kernel
theorem d_Pars_readTerm_10 : decode b_Pars_readTerm 10 = .ok (.aload_n 0, 1) := by decide +kernel
theorem d_Pars_readTerm_11 : decode b_Pars_readTerm 11 = .ok (.getfield 24, 3) := by decide +kernel
theorem d_Pars_readTerm_14 : decode b_Pars_readTerm 14 = .ok (.iload_n 1, 1) := by decide +kernel
theorem d_Pars_readTerm_15 : decode b_Pars_readTerm 15 = .ok (.aaload, 1) := by decide +kernel
theorem d_Pars_readTerm_16 : decode b_Pars_readTerm 16 = .ok (.aload_n 0, 1) := by decide +kernel
theorem d_Pars_readTerm_17 : decode b_Pars_readTerm 17 = .ok (.getfield 27, 3) := by decide +kernel
theorem d_Pars_readTerm_20 : decode b_Pars_readTerm 20 = .ok (.iload_n 1, 1) := by decide +kernel
theorem d_Pars_readTerm_21 : decode b_Pars_readTerm 21 = .ok (.aaload, 1) := by decide +kernel
theorem d_Pars_readTerm_22 : decode b_Pars_readTerm 22 = .ok (.invokevirtual 62, 3) := by decide +kernel
theorem d_Pars_readTerm_25 : decode b_Pars_readTerm 25 = .ok (.iconst 0, 1) := by decide +kernel
theorem d_Pars_readTerm_26 : decode b_Pars_readTerm 26 = .ok (.istore_n 2, 1) := by decide +kernel
theorem d_Pars_readTerm_27 : decode b_Pars_readTerm 27 = .ok (.iload_n 2, 1) := by decide +kernel
theorem d_Pars_readTerm_28 : decode b_Pars_readTerm 28 = .ok (.bipush 80, 2) := by decide +kernel
theorem d_Pars_readTerm_30 : decode b_Pars_readTerm 30 = .ok (.if_icmp .ge 48, 3) := by decide +kernel
theorem d_Pars_readTerm_33 : decode b_Pars_readTerm 33 = .ok (.aload_n 0, 1) := by decide +kernel
theorem d_Pars_readTerm_34 : decode b_Pars_readTerm 34 = .ok (.invokevirtual 55, 3) := by decide +kernel
theorem d_Pars_readTerm_37 : decode b_Pars_readTerm 37 = .ok (.invokestatic 73, 3) := by decide +kernel
theorem d_Pars_readTerm_40 : decode b_Pars_readTerm 40 = .ok (.ifCond .eq 38, 3) := by decide +kernel
theorem d_Pars_readTerm_43 : decode b_Pars_readTerm 43 = .ok (.aload_n 0, 1) := by decide +kernel
theorem d_Pars_readTerm_44 : decode b_Pars_readTerm 44 = .ok (.iload_n 1, 1) := by decide +kernel
theorem d_Pars_readTerm_45 : decode b_Pars_readTerm 45 = .ok (.invokevirtual 70, 3) := by decide +kernel
theorem d_Pars_readTerm_48 : decode b_Pars_readTerm 48 = .ok (.ifCond .ne 5, 3) := by decide +kernel
theorem d_Pars_readTerm_51 : decode b_Pars_readTerm 51 = .ok (.iconst 0, 1) := by decide +kernel
theorem d_Pars_readTerm_52 : decode b_Pars_readTerm 52 = .ok (.ireturn, 1) := by decide +kernel
theorem d_Pars_readTerm_53 : decode b_Pars_readTerm 53 = .ok (.aload_n 0, 1) := by decide +kernel
theorem d_Pars_readTerm_54 : decode b_Pars_readTerm 54 = .ok (.getfield 12, 3) := by decide +kernel
theorem d_Pars_readTerm_57 : decode b_Pars_readTerm 57 = .ok (.aload_n 0, 1) := by decide +kernel
theorem d_Pars_readTerm_58 : decode b_Pars_readTerm 58 = .ok (.getfield 24, 3) := by decide +kernel
theorem d_Pars_readTerm_61 : decode b_Pars_readTerm 61 = .ok (.iload_n 1, 1) := by decide +kernel
theorem d_Pars_readTerm_62 : decode b_Pars_readTerm 62 = .ok (.aaload, 1) := by decide +kernel
theorem d_Pars_readTerm_63 : decode b_Pars_readTerm 63 = .ok (.aload_n 0, 1) := by decide +kernel
theorem d_Pars_readTerm_64 : decode b_Pars_readTerm 64 = .ok (.getfield 27, 3) := by decide +kernel
theorem d_Pars_readTerm_67 : decode b_Pars_readTerm 67 = .ok (.iload_n 1, 1) := by decide +kernel
theorem d_Pars_readTerm_68 : decode b_Pars_readTerm 68 = .ok (.aaload, 1) := by decide +kernel
theorem d_Pars_readTerm_69 : decode b_Pars_readTerm 69 = .ok (.invokevirtual 77, 3) := by decide +kernel
theorem d_Pars_readTerm_72 : decode b_Pars_readTerm 72 = .ok (.iinc 2 1, 3) := by decide +kernel
theorem d_Pars_readTerm_75 : decode b_Pars_readTerm 75 = .ok (.goto (-48), 3) := by decide +kernel
theorem d_Pars_readTerm_78 : decode b_Pars_readTerm 78 = .ok (.iconst 1, 1) := by decide +kernel
theorem d_Pars_readTerm_79 : decode b_Pars_readTerm 79 = .ok (.ireturn, 1) := by decide +kernel
theorem d_Pars_readExpression_0 : decode b_Pars_readExpression 0 = .ok (.iload_n 1, 1) := by decide +kernel
theorem d_Pars_readExpression_1 : decode b_Pars_readExpression 1 = .ok (.bipush 8, 2) := by decide +kernel
theorem d_Pars_readExpression_3 : decode b_Pars_readExpression 3 = .ok (.if_icmp .gt 11, 3) := by decide +kernel
theorem d_Pars_readExpression_6 : decode b_Pars_readExpression 6 = .ok (.aload_n 0, 1) := by decide +kernel
theorem d_Pars_readExpression_7 : decode b_Pars_readExpression 7 = .ok (.iload_n 1, 1) := by decide +kernel
theorem d_Pars_readExpression_8 : decode b_Pars_readExpression 8 = .ok (.invokevirtual 59, 3) := by decide +kernel
theorem d_Pars_readExpression_11 : decode b_Pars_readExpression 11 = .ok (.ifCond .ne 5, 3) := by decide +kernel
theorem d_Pars_readExpression_14 : decode b_Pars_readExpression 14 = .ok (.iconst 0, 1) := by decide +kernel
theorem d_Pars_readExpression_15 : decode b_Pars_readExpression 15 = .ok (.ireturn, 1) := by decide +kernel
theorem d_Pars_readExpression_16 : decode b_Pars_readExpression 16 = .ok (.aload_n 0, 1) := by decide +kernel
theorem d_Pars_readExpression_17 : decode b_Pars_readExpression 17 = .ok (.getfield 20, 3) := by decide +kernel
theorem d_Pars_readExpression_20 : decode b_Pars_readExpression 20 = .ok (.iload_n 1, 1) := by decide +kernel
theorem d_Pars_readExpression_21 : decode b_Pars_readExpression 21 = .ok (.aaload, 1) := by decide +kernel
theorem d_Pars_readExpression_22 : decode b_Pars_readExpression 22 = .ok (.aload_n 0, 1) := by decide +kernel
theorem d_Pars_readExpression_23 : decode b_Pars_readExpression 23 = .ok (.getfield 24, 3) := by decide +kernel
theorem d_Pars_readExpression_26 : decode b_Pars_readExpression 26 = .ok (.iload_n 1, 1) := by decide +kernel
theorem d_Pars_readExpression_27 : decode b_Pars_readExpression 27 = .ok (.aaload, 1) := by decide +kernel
theorem d_Pars_readExpression_28 : decode b_Pars_readExpression 28 = .ok (.invokevirtual 62, 3) := by decide +kernel
theorem d_Pars_readExpression_31 : decode b_Pars_readExpression 31 = .ok (.iconst 0, 1) := by decide +kernel
theorem d_Pars_readExpression_32 : decode b_Pars_readExpression 32 = .ok (.istore_n 2, 1) := by decide +kernel
theorem d_Pars_readExpression_33 : decode b_Pars_readExpression 33 = .ok (.iload_n 2, 1) := by decide +kernel
theorem d_Pars_readExpression_34 : decode b_Pars_readExpression 34 = .ok (.bipush 80, 2) := by decide +kernel
theorem d_Pars_readExpression_36 : decode b_Pars_readExpression 36 = .ok (.if_icmp .ge 57, 3) := by decide +kernel
theorem d_Pars_readExpression_39 : decode b_Pars_readExpression 39 = .ok (.aload_n 0, 1) := by decide +kernel
theorem d_Pars_readExpression_40 : decode b_Pars_readExpression 40 = .ok (.invokevirtual 55, 3) := by decide +kernel
theorem d_Pars_readExpression_43 : decode b_Pars_readExpression 43 = .ok (.bipush 124, 2) := by decide +kernel
theorem d_Pars_readExpression_45 : decode b_Pars_readExpression 45 = .ok (.if_icmp .ne 48, 3) := by decide +kernel
theorem d_Pars_readExpression_48 : decode b_Pars_readExpression 48 = .ok (.aload_n 0, 1) := by decide +kernel
theorem d_Pars_readExpression_49 : decode b_Pars_readExpression 49 = .ok (.dup, 1) := by decide +kernel
theorem d_Pars_readExpression_50 : decode b_Pars_readExpression 50 = .ok (.getfield 45, 3) := by decide +kernel
theorem d_Pars_readExpression_53 : decode b_Pars_readExpression 53 = .ok (.iconst 1, 1) := by decide +kernel
theorem d_Pars_readExpression_54 : decode b_Pars_readExpression 54 = .ok (.iadd, 1) := by decide +kernel
theorem d_Pars_readExpression_55 : decode b_Pars_readExpression 55 = .ok (.putfield 45, 3) := by decide +kernel
theorem d_Pars_readExpression_58 : decode b_Pars_readExpression 58 = .ok (.aload_n 0, 1) := by decide +kernel
theorem d_Pars_readExpression_59 : decode b_Pars_readExpression 59 = .ok (.iload_n 1, 1) := by decide +kernel
theorem d_Pars_readExpression_60 : decode b_Pars_readExpression 60 = .ok (.invokevirtual 59, 3) := by decide +kernel
theorem d_Pars_readExpression_63 : decode b_Pars_readExpression 63 = .ok (.ifCond .ne 5, 3) := by decide +kernel
theorem d_Pars_readExpression_66 : decode b_Pars_readExpression 66 = .ok (.iconst 0, 1) := by decide +kernel
theorem d_Pars_readExpression_67 : decode b_Pars_readExpression 67 = .ok (.ireturn, 1) := by decide +kernel
theorem d_Pars_readExpression_68 : decode b_Pars_readExpression 68 = .ok (.aload_n 0, 1) := by decide +kernel
theorem d_Pars_readExpression_69 : decode b_Pars_readExpression 69 = .ok (.getfield 12, 3) := by decide +kernel
theorem d_Pars_readExpression_72 : decode b_Pars_readExpression 72 = .ok (.aload_n 0, 1) := by decide +kernel
theorem d_Pars_readExpression_73 : decode b_Pars_readExpression 73 = .ok (.getfield 20, 3) := by decide +kernel
theorem d_Pars_readExpression_76 : decode b_Pars_readExpression 76 = .ok (.iload_n 1, 1) := by decide +kernel
theorem d_Pars_readExpression_77 : decode b_Pars_readExpression 77 = .ok (.aaload, 1) := by decide +kernel
theorem d_Pars_readExpression_78 : decode b_Pars_readExpression 78 = .ok (.aload_n 0, 1) := by decide +kernel
theorem d_Pars_readExpression_79 : decode b_Pars_readExpression 79 = .ok (.getfield 24, 3) := by decide +kernel
theorem d_Pars_readExpression_82 : decode b_Pars_readExpression 82 = .ok (.iload_n 1, 1) := by decide +kernel
theorem d_Pars_readExpression_83 : decode b_Pars_readExpression 83 = .ok (.aaload, 1) := by decide +kernel
theorem d_Pars_readExpression_84 : decode b_Pars_readExpression 84 = .ok (.invokevirtual 66, 3) := by decide +kernel
theorem d_Pars_readExpression_87 : decode b_Pars_readExpression 87 = .ok (.iinc 2 1, 3) := by decide +kernel
theorem d_Pars_readExpression_90 : decode b_Pars_readExpression 90 = .ok (.goto (-57), 3) := by decide +kernel
theorem d_Pars_readExpression_93 : decode b_Pars_readExpression 93 = .ok (.iconst 1, 1) := by decide +kernel
theorem d_Pars_readExpression_94 : decode b_Pars_readExpression 94 = .ok (.ireturn, 1) := by decide +kernel
