theorem d_Mach_findWay_0 : decode b_Mach_findWay 0 = .ok (.iconst 0, 1) := by decide +kernel
theorem d_Mach_findWay_1 : decode b_Mach_findWay 1 = .ok (.istore 5, 2) := by decide +kernel
theorem d_Mach_findWay_3 : decode b_Mach_findWay 3 = .ok (.iconst 0, 1) := by decide +kernel
theorem d_Mach_findWay_4 : decode b_Mach_findWay 4 = .ok (.istore 6, 2) := by decide +kernel
theorem d_Mach_findWay_6 : decode b_Mach_findWay 6 = .ok (.iload_n 3, 1) := by decide +kernel
theorem d_Mach_findWay_7 : decode b_Mach_findWay 7 = .ok (.ifCond .ne 25, 3) := by decide +kernel
theorem d_Mach_findWay_10 : decode b_Mach_findWay 10 = .ok (.aload_n 2, 1) := by decide +kernel
theorem d_Mach_findWay_11 : decode b_Mach_findWay 11 = .ok (.getfield 55, 3) := by decide +kernel
theorem d_Mach_findWay_14 : decode b_Mach_findWay 14 = .ok (.aload_n 1, 1) := by decide +kernel
theorem d_Mach_findWay_15 : decode b_Mach_findWay 15 = .ok (.getfield 60, 3) := by decide +kernel
theorem d_Mach_findWay_18 : decode b_Mach_findWay 18 = .ok (.iload 4, 2) := by decide +kernel
theorem d_Mach_findWay_20 : decode b_Mach_findWay 20 = .ok (.iaload, 1) := by decide +kernel
theorem d_Mach_findWay_21 : decode b_Mach_findWay 21 = .ok (.iand, 1) := by decide +kernel
theorem d_Mach_findWay_22 : decode b_Mach_findWay 22 = .ok (.istore 5, 2) := by decide +kernel
theorem d_Mach_findWay_24 : decode b_Mach_findWay 24 = .ok (.aload_n 1, 1) := by decide +kernel
theorem d_Mach_findWay_25 : decode b_Mach_findWay 25 = .ok (.iload 5, 2) := by decide +kernel
theorem d_Mach_findWay_27 : decode b_Mach_findWay 27 = .ok (.invokevirtual 63, 3) := by decide +kernel
theorem d_Mach_findWay_30 : decode b_Mach_findWay 30 = .ok (.istore 6, 2) := by decide +kernel
theorem d_Mach_findWay_32 : decode b_Mach_findWay 32 = .ok (.iconst 0, 1) := by decide +kernel
theorem d_Mach_findWay_33 : decode b_Mach_findWay 33 = .ok (.istore 7, 2) := by decide +kernel
theorem d_Mach_findWay_35 : decode b_Mach_findWay 35 = .ok (.iload 7, 2) := by decide +kernel
theorem d_Mach_findWay_37 : decode b_Mach_findWay 37 = .ok (.aload_n 0, 1) := by decide +kernel
theorem d_Mach_findWay_38 : decode b_Mach_findWay 38 = .ok (.getfield 40, 3) := by decide +kernel
theorem d_Mach_findWay_41 : decode b_Mach_findWay 41 = .ok (.if_icmp .ge 60, 3) := by decide +kernel
theorem d_Mach_findWay_44 : decode b_Mach_findWay 44 = .ok (.aload_n 0, 1) := by decide +kernel
theorem d_Mach_findWay_45 : decode b_Mach_findWay 45 = .ok (.getfield 9, 3) := by decide +kernel
theorem d_Mach_findWay_48 : decode b_Mach_findWay 48 = .ok (.iload_n 3, 1) := by decide +kernel
theorem d_Mach_findWay_49 : decode b_Mach_findWay 49 = .ok (.iaload, 1) := by decide +kernel
theorem d_Mach_findWay_50 : decode b_Mach_findWay 50 = .ok (.iload 7, 2) := by decide +kernel
theorem d_Mach_findWay_52 : decode b_Mach_findWay 52 = .ok (.ishr, 1) := by decide +kernel
theorem d_Mach_findWay_53 : decode b_Mach_findWay 53 = .ok (.iconst 1, 1) := by decide +kernel
theorem d_Mach_findWay_54 : decode b_Mach_findWay 54 = .ok (.iand, 1) := by decide +kernel
theorem d_Mach_findWay_55 : decode b_Mach_findWay 55 = .ok (.ifCond .eq 40, 3) := by decide +kernel
theorem d_Mach_findWay_58 : decode b_Mach_findWay 58 = .ok (.aload_n 1, 1) := by decide +kernel
theorem d_Mach_findWay_59 : decode b_Mach_findWay 59 = .ok (.getfield 67, 3) := by decide +kernel
theorem d_Mach_findWay_62 : decode b_Mach_findWay 62 = .ok (.iload 7, 2) := by decide +kernel
theorem d_Mach_findWay_64 : decode b_Mach_findWay 64 = .ok (.iaload, 1) := by decide +kernel
theorem d_Mach_findWay_65 : decode b_Mach_findWay 65 = .ok (.aload_n 1, 1) := by decide +kernel
theorem d_Mach_findWay_66 : decode b_Mach_findWay 66 = .ok (.getfield 60, 3) := by decide +kernel
theorem d_Mach_findWay_69 : decode b_Mach_findWay 69 = .ok (.iload 4, 2) := by decide +kernel
theorem d_Mach_findWay_71 : decode b_Mach_findWay 71 = .ok (.iaload, 1) := by decide +kernel
theorem d_Mach_findWay_72 : decode b_Mach_findWay 72 = .ok (.iand, 1) := by decide +kernel
theorem d_Mach_findWay_73 : decode b_Mach_findWay 73 = .ok (.istore 8, 2) := by decide +kernel
theorem d_Mach_findWay_75 : decode b_Mach_findWay 75 = .ok (.iload 5, 2) := by decide +kernel
theorem d_Mach_findWay_77 : decode b_Mach_findWay 77 = .ok (.iload 8, 2) := by decide +kernel
theorem d_Mach_findWay_79 : decode b_Mach_findWay 79 = .ok (.ior, 1) := by decide +kernel
theorem d_Mach_findWay_80 : decode b_Mach_findWay 80 = .ok (.istore 5, 2) := by decide +kernel
theorem d_Mach_findWay_82 : decode b_Mach_findWay 82 = .ok (.iload 6, 2) := by decide +kernel
theorem d_Mach_findWay_84 : decode b_Mach_findWay 84 = .ok (.aload_n 1, 1) := by decide +kernel
theorem d_Mach_findWay_85 : decode b_Mach_findWay 85 = .ok (.iload 7, 2) := by decide +kernel
theorem d_Mach_findWay_87 : decode b_Mach_findWay 87 = .ok (.iload 8, 2) := by decide +kernel
theorem d_Mach_findWay_89 : decode b_Mach_findWay 89 = .ok (.invokevirtual 70, 3) := by decide +kernel
theorem d_Mach_findWay_92 : decode b_Mach_findWay 92 = .ok (.ior, 1) := by decide +kernel
theorem d_Mach_findWay_93 : decode b_Mach_findWay 93 = .ok (.istore 6, 2) := by decide +kernel
theorem d_Mach_findWay_95 : decode b_Mach_findWay 95 = .ok (.iinc 7 1, 3) := by decide +kernel
theorem d_Mach_findWay_98 : decode b_Mach_findWay 98 = .ok (.goto (-63), 3) := by decide +kernel
theorem d_Mach_findWay_101 : decode b_Mach_findWay 101 = .ok (.iload 5, 2) := by decide +kernel
theorem d_Mach_findWay_103 : decode b_Mach_findWay 103 = .ok (.ifCond .ne 7, 3) := by decide +kernel
theorem d_Mach_findWay_106 : decode b_Mach_findWay 106 = .ok (.iconst (-1), 1) := by decide +kernel
theorem d_Mach_findWay_107 : decode b_Mach_findWay 107 = .ok (.goto 9, 3) := by decide +kernel
theorem d_Mach_findWay_110 : decode b_Mach_findWay 110 = .ok (.aload_n 0, 1) := by decide +kernel
theorem d_Mach_findWay_111 : decode b_Mach_findWay 111 = .ok (.iload 5, 2) := by decide +kernel
theorem d_Mach_findWay_113 : decode b_Mach_findWay 113 = .ok (.invokevirtual 74, 3) := by decide +kernel
theorem d_Mach_findWay_116 : decode b_Mach_findWay 116 = .ok (.istore 7, 2) := by decide +kernel
theorem d_Mach_findWay_118 : decode b_Mach_findWay 118 = .ok (.iload 7, 2) := by decide +kernel
theorem d_Mach_findWay_120 : decode b_Mach_findWay 120 = .ok (.bipush 50, 2) := by decide +kernel
theorem d_Mach_findWay_122 : decode b_Mach_findWay 122 = .ok (.if_icmp .lt 5, 3) := by decide +kernel
theorem d_Mach_findWay_125 : decode b_Mach_findWay 125 = .ok (.iconst 0, 1) := by decide +kernel
theorem d_Mach_findWay_126 : decode b_Mach_findWay 126 = .ok (.ireturn, 1) := by decide +kernel
theorem d_Mach_findWay_127 : decode b_Mach_findWay 127 = .ok (.aload_n 0, 1) := by decide +kernel
theorem d_Mach_findWay_128 : decode b_Mach_findWay 128 = .ok (.getfield 15, 3) := by decide +kernel
theorem d_Mach_findWay_131 : decode b_Mach_findWay 131 = .ok (.iload_n 3, 1) := by decide +kernel
theorem d_Mach_findWay_132 : decode b_Mach_findWay 132 = .ok (.iconst 4, 1) := by decide +kernel
theorem d_Mach_findWay_133 : decode b_Mach_findWay 133 = .ok (.imul, 1) := by decide +kernel
theorem d_Mach_findWay_134 : decode b_Mach_findWay 134 = .ok (.iload 4, 2) := by decide +kernel
theorem d_Mach_findWay_136 : decode b_Mach_findWay 136 = .ok (.iadd, 1) := by decide +kernel
theorem d_Mach_findWay_137 : decode b_Mach_findWay 137 = .ok (.iload 7, 2) := by decide +kernel
theorem d_Mach_findWay_139 : decode b_Mach_findWay 139 = .ok (.iastore, 1) := by decide +kernel
theorem d_Mach_findWay_140 : decode b_Mach_findWay 140 = .ok (.aload_n 0, 1) := by decide +kernel
theorem d_Mach_findWay_141 : decode b_Mach_findWay 141 = .ok (.getfield 18, 3) := by decide +kernel
theorem d_Mach_findWay_144 : decode b_Mach_findWay 144 = .ok (.iload_n 3, 1) := by decide +kernel
theorem d_Mach_findWay_145 : decode b_Mach_findWay 145 = .ok (.iconst 4, 1) := by decide +kernel
theorem d_Mach_findWay_146 : decode b_Mach_findWay 146 = .ok (.imul, 1) := by decide +kernel
theorem d_Mach_findWay_147 : decode b_Mach_findWay 147 = .ok (.iload 4, 2) := by decide +kernel
theorem d_Mach_findWay_149 : decode b_Mach_findWay 149 = .ok (.iadd, 1) := by decide +kernel
theorem d_Mach_findWay_150 : decode b_Mach_findWay 150 = .ok (.iload 6, 2) := by decide +kernel
theorem d_Mach_findWay_152 : decode b_Mach_findWay 152 = .ok (.iastore, 1) := by decide +kernel
theorem d_Mach_findWay_153 : decode b_Mach_findWay 153 = .ok (.iconst 1, 1) := by decide +kernel
theorem d_Mach_findWay_154 : decode b_Mach_findWay 154 = .ok (.ireturn, 1) := by decide +kernel
theorem d_Mach_findEnd_0 : decode b_Mach_findEnd 0 = .ok (.aload_n 0, 1) := by decide +kernel
theorem d_Mach_findEnd_1 : decode b_Mach_findEnd 1 = .ok (.getfield 9, 3) := by decide +kernel
theorem d_Mach_findEnd_4 : decode b_Mach_findEnd 4 = .ok (.iload_n 3, 1) := by decide +kernel
theorem d_Mach_findEnd_5 : decode b_Mach_findEnd 5 = .ok (.iaload, 1) := by decide +kernel
theorem d_Mach_findEnd_6 : decode b_Mach_findEnd 6 = .ok (.aload_n 2, 1) := by decide +kernel
theorem d_Mach_findEnd_7 : decode b_Mach_findEnd 7 = .ok (.getfield 77, 3) := by decide +kernel
theorem d_Mach_findEnd_10 : decode b_Mach_findEnd 10 = .ok (.iand, 1) := by decide +kernel
theorem d_Mach_findEnd_11 : decode b_Mach_findEnd 11 = .ok (.istore 4, 2) := by decide +kernel
theorem d_Mach_findEnd_13 : decode b_Mach_findEnd 13 = .ok (.aload_n 0, 1) := by decide +kernel
theorem d_Mach_findEnd_14 : decode b_Mach_findEnd 14 = .ok (.getfield 21, 3) := by decide +kernel
theorem d_Mach_findEnd_17 : decode b_Mach_findEnd 17 = .ok (.iload_n 3, 1) := by decide +kernel
theorem d_Mach_findEnd_18 : decode b_Mach_findEnd 18 = .ok (.iload_n 3, 1) := by decide +kernel
theorem d_Mach_findEnd_19 : decode b_Mach_findEnd 19 = .ok (.ifCond .ne 10, 3) := by decide +kernel
theorem d_Mach_findEnd_22 : decode b_Mach_findEnd 22 = .ok (.aload_n 2, 1) := by decide +kernel
theorem d_Mach_findEnd_23 : decode b_Mach_findEnd 23 = .ok (.getfield 80, 3) := by decide +kernel
theorem d_Mach_findEnd_26 : decode b_Mach_findEnd 26 = .ok (.goto 13, 3) := by decide +kernel
theorem d_Mach_findEnd_29 : decode b_Mach_findEnd 29 = .ok (.iload 4, 2) := by decide +kernel
theorem d_Mach_findEnd_31 : decode b_Mach_findEnd 31 = .ok (.ifCond .eq 7, 3) := by decide +kernel
theorem d_Mach_findEnd_34 : decode b_Mach_findEnd 34 = .ok (.iconst 1, 1) := by decide +kernel
theorem d_Mach_findEnd_35 : decode b_Mach_findEnd 35 = .ok (.goto 4, 3) := by decide +kernel
theorem d_Mach_findEnd_38 : decode b_Mach_findEnd 38 = .ok (.iconst 0, 1) := by decide +kernel
theorem d_Mach_findEnd_39 : decode b_Mach_findEnd 39 = .ok (.bastore, 1) := by decide +kernel
theorem d_Mach_findEnd_40 : decode b_Mach_findEnd 40 = .ok (.aload_n 0, 1) := by decide +kernel
theorem d_Mach_findEnd_41 : decode b_Mach_findEnd 41 = .ok (.getfield 25, 3) := by decide +kernel
theorem d_Mach_findEnd_44 : decode b_Mach_findEnd 44 = .ok (.iload_n 3, 1) := by decide +kernel
theorem d_Mach_findEnd_45 : decode b_Mach_findEnd 45 = .ok (.iload_n 3, 1) := by decide +kernel
theorem d_Mach_findEnd_46 : decode b_Mach_findEnd 46 = .ok (.ifCond .ne 10, 3) := by decide +kernel
theorem d_Mach_findEnd_49 : decode b_Mach_findEnd 49 = .ok (.aload_n 2, 1) := by decide +kernel
theorem d_Mach_findEnd_50 : decode b_Mach_findEnd 50 = .ok (.getfield 84, 3) := by decide +kernel
theorem d_Mach_findEnd_53 : decode b_Mach_findEnd 53 = .ok (.goto 9, 3) := by decide +kernel
theorem d_Mach_findEnd_56 : decode b_Mach_findEnd 56 = .ok (.aload_n 1, 1) := by decide +kernel
theorem d_Mach_findEnd_57 : decode b_Mach_findEnd 57 = .ok (.iload 4, 2) := by decide +kernel
theorem d_Mach_findEnd_59 : decode b_Mach_findEnd 59 = .ok (.invokevirtual 87, 3) := by decide +kernel
theorem d_Mach_findEnd_62 : decode b_Mach_findEnd 62 = .ok (.iastore, 1) := by decide +kernel
theorem d_Mach_findEnd_63 : decode b_Mach_findEnd 63 = .ok (.return_, 1) := by decide +kernel
theorem d_Mach_build_0 : decode b_Mach_build 0 = .ok (.aload_n 0, 1) := by decide +kernel
theorem d_Mach_build_1 : decode b_Mach_build 1 = .ok (.aload_n 1, 1) := by decide +kernel
theorem d_Mach_build_2 : decode b_Mach_build 2 = .ok (.getfield 34, 3) := by decide +kernel
theorem d_Mach_build_5 : decode b_Mach_build 5 = .ok (.putfield 40, 3) := by decide +kernel
theorem d_Mach_build_8 : decode b_Mach_build 8 = .ok (.aload_n 0, 1) := by decide +kernel
theorem d_Mach_build_9 : decode b_Mach_build 9 = .ok (.getfield 9, 3) := by decide +kernel
theorem d_Mach_build_12 : decode b_Mach_build 12 = .ok (.iconst 0, 1) := by decide +kernel
theorem d_Mach_build_13 : decode b_Mach_build 13 = .ok (.iconst 0, 1) := by decide +kernel
theorem d_Mach_build_14 : decode b_Mach_build 14 = .ok (.iastore, 1) := by decide +kernel
theorem d_Mach_build_15 : decode b_Mach_build 15 = .ok (.aload_n 0, 1) := by decide +kernel
theorem d_Mach_build_16 : decode b_Mach_build 16 = .ok (.iconst 1, 1) := by decide +kernel
theorem d_Mach_build_17 : decode b_Mach_build 17 = .ok (.putfield 41, 3) := by decide +kernel
theorem d_Mach_build_20 : decode b_Mach_build 20 = .ok (.iconst 0, 1) := by decide +kernel
theorem d_Mach_build_21 : decode b_Mach_build 21 = .ok (.istore_n 3, 1) := by decide +kernel
theorem d_Mach_build_22 : decode b_Mach_build 22 = .ok (.iload_n 3, 1) := by decide +kernel
theorem d_Mach_build_23 : decode b_Mach_build 23 = .ok (.aload_n 0, 1) := by decide +kernel
theorem d_Mach_build_24 : decode b_Mach_build 24 = .ok (.getfield 41, 3) := by decide +kernel
theorem d_Mach_build_27 : decode b_Mach_build 27 = .ok (.if_icmp .ge 51, 3) := by decide +kernel
theorem d_Mach_build_30 : decode b_Mach_build 30 = .ok (.iload_n 3, 1) := by decide +kernel
theorem d_Mach_build_31 : decode b_Mach_build 31 = .ok (.bipush 50, 2) := by decide +kernel
theorem d_Mach_build_33 : decode b_Mach_build 33 = .ok (.if_icmp .ge 45, 3) := by decide +kernel
theorem d_Mach_build_36 : decode b_Mach_build 36 = .ok (.iconst 0, 1) := by decide +kernel
theorem d_Mach_build_37 : decode b_Mach_build 37 = .ok (.istore 4, 2) := by decide +kernel
theorem d_Mach_build_39 : decode b_Mach_build 39 = .ok (.iload 4, 2) := by decide +kernel
theorem d_Mach_build_41 : decode b_Mach_build 41 = .ok (.iconst 4, 1) := by decide +kernel
theorem d_Mach_build_42 : decode b_Mach_build 42 = .ok (.if_icmp .ge 23, 3) := by decide +kernel
theorem d_Mach_build_45 : decode b_Mach_build 45 = .ok (.aload_n 0, 1) := by decide +kernel
theorem d_Mach_build_46 : decode b_Mach_build 46 = .ok (.aload_n 1, 1) := by decide +kernel
theorem d_Mach_build_47 : decode b_Mach_build 47 = .ok (.aload_n 2, 1) := by decide +kernel
theorem d_Mach_build_48 : decode b_Mach_build 48 = .ok (.iload_n 3, 1) := by decide +kernel
theorem d_Mach_build_49 : decode b_Mach_build 49 = .ok (.iload 4, 2) := by decide +kernel
theorem d_Mach_build_51 : decode b_Mach_build 51 = .ok (.invokevirtual 44, 3) := by decide +kernel
theorem d_Mach_build_54 : decode b_Mach_build 54 = .ok (.ifCond .ne 5, 3) := by decide +kernel
theorem d_Mach_build_57 : decode b_Mach_build 57 = .ok (.iconst 0, 1) := by decide +kernel
theorem d_Mach_build_58 : decode b_Mach_build 58 = .ok (.ireturn, 1) := by decide +kernel
theorem d_Mach_build_59 : decode b_Mach_build 59 = .ok (.iinc 4 1, 3) := by decide +kernel
theorem d_Mach_build_62 : decode b_Mach_build 62 = .ok (.goto (-23), 3) := by decide +kernel
theorem d_Mach_build_65 : decode b_Mach_build 65 = .ok (.aload_n 0, 1) := by decide +kernel
theorem d_Mach_build_66 : decode b_Mach_build 66 = .ok (.aload_n 1, 1) := by decide +kernel
theorem d_Mach_build_67 : decode b_Mach_build 67 = .ok (.aload_n 2, 1) := by decide +kernel
theorem d_Mach_build_68 : decode b_Mach_build 68 = .ok (.iload_n 3, 1) := by decide +kernel
theorem d_Mach_build_69 : decode b_Mach_build 69 = .ok (.invokevirtual 48, 3) := by decide +kernel
theorem d_Mach_build_72 : decode b_Mach_build 72 = .ok (.iinc 3 1, 3) := by decide +kernel
theorem d_Mach_build_75 : decode b_Mach_build 75 = .ok (.goto (-53), 3) := by decide +kernel
theorem d_Mach_build_78 : decode b_Mach_build 78 = .ok (.aload_n 0, 1) := by decide +kernel
theorem d_Mach_build_79 : decode b_Mach_build 79 = .ok (.invokevirtual 52, 3) := by decide +kernel
theorem d_Mach_build_82 : decode b_Mach_build 82 = .ok (.iconst 1, 1) := by decide +kernel
theorem d_Mach_build_83 : decode b_Mach_build 83 = .ok (.ireturn, 1) := by decide +kernel
