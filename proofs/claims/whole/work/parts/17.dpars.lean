theorem d_Pars_isLetter_0 : decode b_Pars_isLetter 0 = .ok (.iload_n 0, 1) := by decide +kernel
theorem d_Pars_isLetter_1 : decode b_Pars_isLetter 1 = .ok (.bipush 97, 2) := by decide +kernel
theorem d_Pars_isLetter_3 : decode b_Pars_isLetter 3 = .ok (.if_icmp .lt 13, 3) := by decide +kernel
theorem d_Pars_isLetter_6 : decode b_Pars_isLetter 6 = .ok (.iload_n 0, 1) := by decide +kernel
theorem d_Pars_isLetter_7 : decode b_Pars_isLetter 7 = .ok (.bipush 100, 2) := by decide +kernel
theorem d_Pars_isLetter_9 : decode b_Pars_isLetter 9 = .ok (.if_icmp .gt 7, 3) := by decide +kernel
theorem d_Pars_isLetter_12 : decode b_Pars_isLetter 12 = .ok (.iconst 1, 1) := by decide +kernel
theorem d_Pars_isLetter_13 : decode b_Pars_isLetter 13 = .ok (.goto 4, 3) := by decide +kernel
theorem d_Pars_isLetter_16 : decode b_Pars_isLetter 16 = .ok (.iconst 0, 1) := by decide +kernel
theorem d_Pars_isLetter_17 : decode b_Pars_isLetter 17 = .ok (.ireturn, 1) := by decide +kernel
theorem d_Pars_letterBit_0 : decode b_Pars_letterBit 0 = .ok (.iconst 1, 1) := by decide +kernel
theorem d_Pars_letterBit_1 : decode b_Pars_letterBit 1 = .ok (.iload_n 0, 1) := by decide +kernel
theorem d_Pars_letterBit_2 : decode b_Pars_letterBit 2 = .ok (.bipush 97, 2) := by decide +kernel
theorem d_Pars_letterBit_4 : decode b_Pars_letterBit 4 = .ok (.isub, 1) := by decide +kernel
theorem d_Pars_letterBit_5 : decode b_Pars_letterBit 5 = .ok (.ishl, 1) := by decide +kernel
theorem d_Pars_letterBit_6 : decode b_Pars_letterBit 6 = .ok (.ireturn, 1) := by decide +kernel
theorem d_Pars_beginsAtom_0 : decode b_Pars_beginsAtom 0 = .ok (.iload_n 0, 1) := by decide +kernel
theorem d_Pars_beginsAtom_1 : decode b_Pars_beginsAtom 1 = .ok (.invokestatic 123, 3) := by decide +kernel
theorem d_Pars_beginsAtom_4 : decode b_Pars_beginsAtom 4 = .ok (.ifCond .ne 21, 3) := by decide +kernel
theorem d_Pars_beginsAtom_7 : decode b_Pars_beginsAtom 7 = .ok (.iload_n 0, 1) := by decide +kernel
theorem d_Pars_beginsAtom_8 : decode b_Pars_beginsAtom 8 = .ok (.bipush 46, 2) := by decide +kernel
theorem d_Pars_beginsAtom_10 : decode b_Pars_beginsAtom 10 = .ok (.if_icmp .eq 15, 3) := by decide +kernel
theorem d_Pars_beginsAtom_13 : decode b_Pars_beginsAtom 13 = .ok (.iload_n 0, 1) := by decide +kernel
theorem d_Pars_beginsAtom_14 : decode b_Pars_beginsAtom 14 = .ok (.bipush 91, 2) := by decide +kernel
theorem d_Pars_beginsAtom_16 : decode b_Pars_beginsAtom 16 = .ok (.if_icmp .eq 9, 3) := by decide +kernel
theorem d_Pars_beginsAtom_19 : decode b_Pars_beginsAtom 19 = .ok (.iload_n 0, 1) := by decide +kernel
theorem d_Pars_beginsAtom_20 : decode b_Pars_beginsAtom 20 = .ok (.bipush 40, 2) := by decide +kernel
theorem d_Pars_beginsAtom_22 : decode b_Pars_beginsAtom 22 = .ok (.if_icmp .ne 7, 3) := by decide +kernel
theorem d_Pars_beginsAtom_25 : decode b_Pars_beginsAtom 25 = .ok (.iconst 1, 1) := by decide +kernel
theorem d_Pars_beginsAtom_26 : decode b_Pars_beginsAtom 26 = .ok (.goto 4, 3) := by decide +kernel
theorem d_Pars_beginsAtom_29 : decode b_Pars_beginsAtom 29 = .ok (.iconst 0, 1) := by decide +kernel
theorem d_Pars_beginsAtom_30 : decode b_Pars_beginsAtom 30 = .ok (.ireturn, 1) := by decide +kernel
theorem d_Pars_isRepeat_0 : decode b_Pars_isRepeat 0 = .ok (.iload_n 0, 1) := by decide +kernel
theorem d_Pars_isRepeat_1 : decode b_Pars_isRepeat 1 = .ok (.bipush 42, 2) := by decide +kernel
theorem d_Pars_isRepeat_3 : decode b_Pars_isRepeat 3 = .ok (.if_icmp .eq 15, 3) := by decide +kernel
theorem d_Pars_isRepeat_6 : decode b_Pars_isRepeat 6 = .ok (.iload_n 0, 1) := by decide +kernel
theorem d_Pars_isRepeat_7 : decode b_Pars_isRepeat 7 = .ok (.bipush 43, 2) := by decide +kernel
theorem d_Pars_isRepeat_9 : decode b_Pars_isRepeat 9 = .ok (.if_icmp .eq 9, 3) := by decide +kernel
theorem d_Pars_isRepeat_12 : decode b_Pars_isRepeat 12 = .ok (.iload_n 0, 1) := by decide +kernel
theorem d_Pars_isRepeat_13 : decode b_Pars_isRepeat 13 = .ok (.bipush 63, 2) := by decide +kernel
theorem d_Pars_isRepeat_15 : decode b_Pars_isRepeat 15 = .ok (.if_icmp .ne 7, 3) := by decide +kernel
theorem d_Pars_isRepeat_18 : decode b_Pars_isRepeat 18 = .ok (.iconst 1, 1) := by decide +kernel
theorem d_Pars_isRepeat_19 : decode b_Pars_isRepeat 19 = .ok (.goto 4, 3) := by decide +kernel
theorem d_Pars_isRepeat_22 : decode b_Pars_isRepeat 22 = .ok (.iconst 0, 1) := by decide +kernel
theorem d_Pars_isRepeat_23 : decode b_Pars_isRepeat 23 = .ok (.ireturn, 1) := by decide +kernel
theorem d_Pars_isSign_0 : decode b_Pars_isSign 0 = .ok (.iload_n 0, 1) := by decide +kernel
theorem d_Pars_isSign_1 : decode b_Pars_isSign 1 = .ok (.invokestatic 89, 3) := by decide +kernel
theorem d_Pars_isSign_4 : decode b_Pars_isSign 4 = .ok (.ifCond .ne 27, 3) := by decide +kernel
theorem d_Pars_isSign_7 : decode b_Pars_isSign 7 = .ok (.iload_n 0, 1) := by decide +kernel
theorem d_Pars_isSign_8 : decode b_Pars_isSign 8 = .ok (.bipush 62, 2) := by decide +kernel
theorem d_Pars_isSign_10 : decode b_Pars_isSign 10 = .ok (.if_icmp .eq 21, 3) := by decide +kernel
theorem d_Pars_isSign_13 : decode b_Pars_isSign 13 = .ok (.iload_n 0, 1) := by decide +kernel
theorem d_Pars_isSign_14 : decode b_Pars_isSign 14 = .ok (.bipush 64, 2) := by decide +kernel
theorem d_Pars_isSign_16 : decode b_Pars_isSign 16 = .ok (.if_icmp .eq 15, 3) := by decide +kernel
theorem d_Pars_isSign_19 : decode b_Pars_isSign 19 = .ok (.iload_n 0, 1) := by decide +kernel
theorem d_Pars_isSign_20 : decode b_Pars_isSign 20 = .ok (.bipush 36, 2) := by decide +kernel
theorem d_Pars_isSign_22 : decode b_Pars_isSign 22 = .ok (.if_icmp .eq 9, 3) := by decide +kernel
theorem d_Pars_isSign_25 : decode b_Pars_isSign 25 = .ok (.iload_n 0, 1) := by decide +kernel
theorem d_Pars_isSign_26 : decode b_Pars_isSign 26 = .ok (.bipush 37, 2) := by decide +kernel
theorem d_Pars_isSign_28 : decode b_Pars_isSign 28 = .ok (.if_icmp .ne 7, 3) := by decide +kernel
theorem d_Pars_isSign_31 : decode b_Pars_isSign 31 = .ok (.iconst 1, 1) := by decide +kernel
theorem d_Pars_isSign_32 : decode b_Pars_isSign 32 = .ok (.goto 4, 3) := by decide +kernel
theorem d_Pars_isSign_35 : decode b_Pars_isSign 35 = .ok (.iconst 0, 1) := by decide +kernel
theorem d_Pars_isSign_36 : decode b_Pars_isSign 36 = .ok (.ireturn, 1) := by decide +kernel
theorem d_Pars_here_0 : decode b_Pars_here 0 = .ok (.aload_n 0, 1) := by decide +kernel
theorem d_Pars_here_1 : decode b_Pars_here 1 = .ok (.getfield 45, 3) := by decide +kernel
theorem d_Pars_here_4 : decode b_Pars_here 4 = .ok (.aload_n 0, 1) := by decide +kernel
theorem d_Pars_here_5 : decode b_Pars_here 5 = .ok (.getfield 41, 3) := by decide +kernel
theorem d_Pars_here_8 : decode b_Pars_here 8 = .ok (.if_icmp .ge 15, 3) := by decide +kernel
theorem d_Pars_here_11 : decode b_Pars_here 11 = .ok (.aload_n 0, 1) := by decide +kernel
theorem d_Pars_here_12 : decode b_Pars_here 12 = .ok (.getfield 30, 3) := by decide +kernel
theorem d_Pars_here_15 : decode b_Pars_here 15 = .ok (.aload_n 0, 1) := by decide +kernel
theorem d_Pars_here_16 : decode b_Pars_here 16 = .ok (.getfield 45, 3) := by decide +kernel
theorem d_Pars_here_19 : decode b_Pars_here 19 = .ok (.caload, 1) := by decide +kernel
theorem d_Pars_here_20 : decode b_Pars_here 20 = .ok (.goto 4, 3) := by decide +kernel
theorem d_Pars_here_23 : decode b_Pars_here 23 = .ok (.iconst 0, 1) := by decide +kernel
theorem d_Pars_here_24 : decode b_Pars_here 24 = .ok (.ireturn, 1) := by decide +kernel
theorem d_Pars_next_0 : decode b_Pars_next 0 = .ok (.aload_n 0, 1) := by decide +kernel
theorem d_Pars_next_1 : decode b_Pars_next 1 = .ok (.getfield 45, 3) := by decide +kernel
theorem d_Pars_next_4 : decode b_Pars_next 4 = .ok (.aload_n 0, 1) := by decide +kernel
theorem d_Pars_next_5 : decode b_Pars_next 5 = .ok (.getfield 41, 3) := by decide +kernel
theorem d_Pars_next_8 : decode b_Pars_next 8 = .ok (.if_icmp .ge 30, 3) := by decide +kernel
theorem d_Pars_next_11 : decode b_Pars_next 11 = .ok (.aload_n 0, 1) := by decide +kernel
theorem d_Pars_next_12 : decode b_Pars_next 12 = .ok (.getfield 30, 3) := by decide +kernel
theorem d_Pars_next_15 : decode b_Pars_next 15 = .ok (.aload_n 0, 1) := by decide +kernel
theorem d_Pars_next_16 : decode b_Pars_next 16 = .ok (.getfield 45, 3) := by decide +kernel
theorem d_Pars_next_19 : decode b_Pars_next 19 = .ok (.caload, 1) := by decide +kernel
theorem d_Pars_next_20 : decode b_Pars_next 20 = .ok (.bipush 32, 2) := by decide +kernel
theorem d_Pars_next_22 : decode b_Pars_next 22 = .ok (.if_icmp .ne 16, 3) := by decide +kernel
theorem d_Pars_next_25 : decode b_Pars_next 25 = .ok (.aload_n 0, 1) := by decide +kernel
theorem d_Pars_next_26 : decode b_Pars_next 26 = .ok (.dup, 1) := by decide +kernel
theorem d_Pars_next_27 : decode b_Pars_next 27 = .ok (.getfield 45, 3) := by decide +kernel
theorem d_Pars_next_30 : decode b_Pars_next 30 = .ok (.iconst 1, 1) := by decide +kernel
theorem d_Pars_next_31 : decode b_Pars_next 31 = .ok (.iadd, 1) := by decide +kernel
theorem d_Pars_next_32 : decode b_Pars_next 32 = .ok (.putfield 45, 3) := by decide +kernel
theorem d_Pars_next_35 : decode b_Pars_next 35 = .ok (.goto (-35), 3) := by decide +kernel
theorem d_Pars_next_38 : decode b_Pars_next 38 = .ok (.aload_n 0, 1) := by decide +kernel
theorem d_Pars_next_39 : decode b_Pars_next 39 = .ok (.getfield 45, 3) := by decide +kernel
theorem d_Pars_next_42 : decode b_Pars_next 42 = .ok (.aload_n 0, 1) := by decide +kernel
theorem d_Pars_next_43 : decode b_Pars_next 43 = .ok (.getfield 41, 3) := by decide +kernel
theorem d_Pars_next_46 : decode b_Pars_next 46 = .ok (.if_icmp .ge 15, 3) := by decide +kernel
theorem d_Pars_next_49 : decode b_Pars_next 49 = .ok (.aload_n 0, 1) := by decide +kernel
theorem d_Pars_next_50 : decode b_Pars_next 50 = .ok (.getfield 30, 3) := by decide +kernel
theorem d_Pars_next_53 : decode b_Pars_next 53 = .ok (.aload_n 0, 1) := by decide +kernel
theorem d_Pars_next_54 : decode b_Pars_next 54 = .ok (.getfield 45, 3) := by decide +kernel
theorem d_Pars_next_57 : decode b_Pars_next 57 = .ok (.caload, 1) := by decide +kernel
theorem d_Pars_next_58 : decode b_Pars_next 58 = .ok (.goto 4, 3) := by decide +kernel
theorem d_Pars_next_61 : decode b_Pars_next 61 = .ok (.iconst 0, 1) := by decide +kernel
theorem d_Pars_next_62 : decode b_Pars_next 62 = .ok (.ireturn, 1) := by decide +kernel
theorem d_Pars_readLetters_0 : decode b_Pars_readLetters 0 = .ok (.iconst 0, 1) := by decide +kernel
theorem d_Pars_readLetters_1 : decode b_Pars_readLetters 1 = .ok (.istore_n 1, 1) := by decide +kernel
theorem d_Pars_readLetters_2 : decode b_Pars_readLetters 2 = .ok (.aload_n 0, 1) := by decide +kernel
theorem d_Pars_readLetters_3 : decode b_Pars_readLetters 3 = .ok (.getfield 45, 3) := by decide +kernel
theorem d_Pars_readLetters_6 : decode b_Pars_readLetters 6 = .ok (.aload_n 0, 1) := by decide +kernel
theorem d_Pars_readLetters_7 : decode b_Pars_readLetters 7 = .ok (.getfield 41, 3) := by decide +kernel
theorem d_Pars_readLetters_10 : decode b_Pars_readLetters 10 = .ok (.if_icmp .ge 46, 3) := by decide +kernel
theorem d_Pars_readLetters_13 : decode b_Pars_readLetters 13 = .ok (.aload_n 0, 1) := by decide +kernel
theorem d_Pars_readLetters_14 : decode b_Pars_readLetters 14 = .ok (.getfield 30, 3) := by decide +kernel
theorem d_Pars_readLetters_17 : decode b_Pars_readLetters 17 = .ok (.aload_n 0, 1) := by decide +kernel
theorem d_Pars_readLetters_18 : decode b_Pars_readLetters 18 = .ok (.getfield 45, 3) := by decide +kernel
theorem d_Pars_readLetters_21 : decode b_Pars_readLetters 21 = .ok (.caload, 1) := by decide +kernel
theorem d_Pars_readLetters_22 : decode b_Pars_readLetters 22 = .ok (.invokestatic 123, 3) := by decide +kernel
theorem d_Pars_readLetters_25 : decode b_Pars_readLetters 25 = .ok (.ifCond .eq 31, 3) := by decide +kernel
theorem d_Pars_readLetters_28 : decode b_Pars_readLetters 28 = .ok (.iload_n 1, 1) := by decide +kernel
theorem d_Pars_readLetters_29 : decode b_Pars_readLetters 29 = .ok (.aload_n 0, 1) := by decide +kernel
theorem d_Pars_readLetters_30 : decode b_Pars_readLetters 30 = .ok (.getfield 30, 3) := by decide +kernel
theorem d_Pars_readLetters_33 : decode b_Pars_readLetters 33 = .ok (.aload_n 0, 1) := by decide +kernel
theorem d_Pars_readLetters_34 : decode b_Pars_readLetters 34 = .ok (.getfield 45, 3) := by decide +kernel
theorem d_Pars_readLetters_37 : decode b_Pars_readLetters 37 = .ok (.caload, 1) := by decide +kernel
theorem d_Pars_readLetters_38 : decode b_Pars_readLetters 38 = .ok (.invokestatic 115, 3) := by decide +kernel
theorem d_Pars_readLetters_41 : decode b_Pars_readLetters 41 = .ok (.ior, 1) := by decide +kernel
theorem d_Pars_readLetters_42 : decode b_Pars_readLetters 42 = .ok (.istore_n 1, 1) := by decide +kernel
theorem d_Pars_readLetters_43 : decode b_Pars_readLetters 43 = .ok (.aload_n 0, 1) := by decide +kernel
theorem d_Pars_readLetters_44 : decode b_Pars_readLetters 44 = .ok (.dup, 1) := by decide +kernel
theorem d_Pars_readLetters_45 : decode b_Pars_readLetters 45 = .ok (.getfield 45, 3) := by decide +kernel
theorem d_Pars_readLetters_48 : decode b_Pars_readLetters 48 = .ok (.iconst 1, 1) := by decide +kernel
theorem d_Pars_readLetters_49 : decode b_Pars_readLetters 49 = .ok (.iadd, 1) := by decide +kernel
theorem d_Pars_readLetters_50 : decode b_Pars_readLetters 50 = .ok (.putfield 45, 3) := by decide +kernel
theorem d_Pars_readLetters_53 : decode b_Pars_readLetters 53 = .ok (.goto (-51), 3) := by decide +kernel
theorem d_Pars_readLetters_56 : decode b_Pars_readLetters 56 = .ok (.iload_n 1, 1) := by decide +kernel
theorem d_Pars_readLetters_57 : decode b_Pars_readLetters 57 = .ok (.ifCond .eq 12, 3) := by decide +kernel
theorem d_Pars_readLetters_60 : decode b_Pars_readLetters 60 = .ok (.aload_n 0, 1) := by decide +kernel
theorem d_Pars_readLetters_61 : decode b_Pars_readLetters 61 = .ok (.invokevirtual 86, 3) := by decide +kernel
theorem d_Pars_readLetters_64 : decode b_Pars_readLetters 64 = .ok (.bipush 93, 2) := by decide +kernel
theorem d_Pars_readLetters_66 : decode b_Pars_readLetters 66 = .ok (.if_icmp .eq 5, 3) := by decide +kernel
theorem d_Pars_readLetters_69 : decode b_Pars_readLetters 69 = .ok (.iconst 0, 1) := by decide +kernel
theorem d_Pars_readLetters_70 : decode b_Pars_readLetters 70 = .ok (.ireturn, 1) := by decide +kernel
theorem d_Pars_readLetters_71 : decode b_Pars_readLetters 71 = .ok (.aload_n 0, 1) := by decide +kernel
theorem d_Pars_readLetters_72 : decode b_Pars_readLetters 72 = .ok (.dup, 1) := by decide +kernel
theorem d_Pars_readLetters_73 : decode b_Pars_readLetters 73 = .ok (.getfield 45, 3) := by decide +kernel
theorem d_Pars_readLetters_76 : decode b_Pars_readLetters 76 = .ok (.iconst 1, 1) := by decide +kernel
theorem d_Pars_readLetters_77 : decode b_Pars_readLetters 77 = .ok (.iadd, 1) := by decide +kernel
theorem d_Pars_readLetters_78 : decode b_Pars_readLetters 78 = .ok (.putfield 45, 3) := by decide +kernel
theorem d_Pars_readLetters_81 : decode b_Pars_readLetters 81 = .ok (.iload_n 1, 1) := by decide +kernel
theorem d_Pars_readLetters_82 : decode b_Pars_readLetters 82 = .ok (.ireturn, 1) := by decide +kernel
theorem d_Pars_place_0 : decode b_Pars_place 0 = .ok (.aload_n 0, 1) := by decide +kernel
theorem d_Pars_place_1 : decode b_Pars_place 1 = .ok (.getfield 45, 3) := by decide +kernel
theorem d_Pars_place_4 : decode b_Pars_place 4 = .ok (.ireturn, 1) := by decide +kernel
theorem d_Pars_readAction_0 : decode b_Pars_readAction 0 = .ok (.aload_n 0, 1) := by decide +kernel
theorem d_Pars_readAction_1 : decode b_Pars_readAction 1 = .ok (.invokevirtual 86, 3) := by decide +kernel
theorem d_Pars_readAction_4 : decode b_Pars_readAction 4 = .ok (.istore_n 3, 1) := by decide +kernel
theorem d_Pars_readAction_5 : decode b_Pars_readAction 5 = .ok (.iload_n 3, 1) := by decide +kernel
theorem d_Pars_readAction_6 : decode b_Pars_readAction 6 = .ok (.bipush 48, 2) := by decide +kernel
theorem d_Pars_readAction_8 : decode b_Pars_readAction 8 = .ok (.if_icmp .lt 9, 3) := by decide +kernel
theorem d_Pars_readAction_11 : decode b_Pars_readAction 11 = .ok (.iload_n 3, 1) := by decide +kernel
theorem d_Pars_readAction_12 : decode b_Pars_readAction 12 = .ok (.bipush 57, 2) := by decide +kernel
theorem d_Pars_readAction_14 : decode b_Pars_readAction 14 = .ok (.if_icmp .le 5, 3) := by decide +kernel
theorem d_Pars_readAction_17 : decode b_Pars_readAction 17 = .ok (.iconst 0, 1) := by decide +kernel
theorem d_Pars_readAction_18 : decode b_Pars_readAction 18 = .ok (.ireturn, 1) := by decide +kernel
theorem d_Pars_readAction_19 : decode b_Pars_readAction 19 = .ok (.aload_n 0, 1) := by decide +kernel
theorem d_Pars_readAction_20 : decode b_Pars_readAction 20 = .ok (.dup, 1) := by decide +kernel
theorem d_Pars_readAction_21 : decode b_Pars_readAction 21 = .ok (.getfield 45, 3) := by decide +kernel
theorem d_Pars_readAction_24 : decode b_Pars_readAction 24 = .ok (.iconst 1, 1) := by decide +kernel
theorem d_Pars_readAction_25 : decode b_Pars_readAction 25 = .ok (.iadd, 1) := by decide +kernel
theorem d_Pars_readAction_26 : decode b_Pars_readAction 26 = .ok (.putfield 45, 3) := by decide +kernel
theorem d_Pars_readAction_29 : decode b_Pars_readAction 29 = .ok (.aload_n 0, 1) := by decide +kernel
theorem d_Pars_readAction_30 : decode b_Pars_readAction 30 = .ok (.getfield 12, 3) := by decide +kernel
theorem d_Pars_readAction_33 : decode b_Pars_readAction 33 = .ok (.aload_n 1, 1) := by decide +kernel
theorem d_Pars_readAction_34 : decode b_Pars_readAction 34 = .ok (.iload_n 2, 1) := by decide +kernel
theorem d_Pars_readAction_35 : decode b_Pars_readAction 35 = .ok (.iload_n 3, 1) := by decide +kernel
theorem d_Pars_readAction_36 : decode b_Pars_readAction 36 = .ok (.bipush 48, 2) := by decide +kernel
theorem d_Pars_readAction_38 : decode b_Pars_readAction 38 = .ok (.isub, 1) := by decide +kernel
theorem d_Pars_readAction_39 : decode b_Pars_readAction 39 = .ok (.invokevirtual 100, 3) := by decide +kernel
theorem d_Pars_readAction_42 : decode b_Pars_readAction 42 = .ok (.iconst 1, 1) := by decide +kernel
theorem d_Pars_readAction_43 : decode b_Pars_readAction 43 = .ok (.ireturn, 1) := by decide +kernel
