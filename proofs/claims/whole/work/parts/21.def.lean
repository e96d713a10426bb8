theorem d_EF_byteAt_0 : decode b_EF_byteAt 0 = .ok (.lload_n 0, 1) := by decide +kernel
theorem d_EF_byteAt_1 : decode b_EF_byteAt 1 = .ok (.iload_n 2, 1) := by decide +kernel
theorem d_EF_byteAt_2 : decode b_EF_byteAt 2 = .ok (.lushr, 1) := by decide +kernel
theorem d_EF_byteAt_3 : decode b_EF_byteAt 3 = .ok (.l2i, 1) := by decide +kernel
theorem d_EF_byteAt_4 : decode b_EF_byteAt 4 = .ok (.sipush 255, 3) := by decide +kernel
theorem d_EF_byteAt_7 : decode b_EF_byteAt 7 = .ok (.iand, 1) := by decide +kernel
theorem d_EF_byteAt_8 : decode b_EF_byteAt 8 = .ok (.ireturn, 1) := by decide +kernel
theorem d_EF_append_0 : decode b_EF_append 0 = .ok (.bipush 56, 2) := by decide +kernel
theorem d_EF_append_2 : decode b_EF_append 2 = .ok (.istore_n 3, 1) := by decide +kernel
theorem d_EF_append_3 : decode b_EF_append 3 = .ok (.iload_n 3, 1) := by decide +kernel
theorem d_EF_append_4 : decode b_EF_append 4 = .ok (.ifCond .lt 52, 3) := by decide +kernel
theorem d_EF_append_7 : decode b_EF_append 7 = .ok (.lload_n 1, 1) := by decide +kernel
theorem d_EF_append_8 : decode b_EF_append 8 = .ok (.iload_n 3, 1) := by decide +kernel
theorem d_EF_append_9 : decode b_EF_append 9 = .ok (.invokestatic 44, 3) := by decide +kernel
theorem d_EF_append_12 : decode b_EF_append 12 = .ok (.istore 4, 2) := by decide +kernel
theorem d_EF_append_14 : decode b_EF_append 14 = .ok (.iload 4, 2) := by decide +kernel
theorem d_EF_append_16 : decode b_EF_append 16 = .ok (.ifCond .eq 34, 3) := by decide +kernel
theorem d_EF_append_19 : decode b_EF_append 19 = .ok (.aload_n 0, 1) := by decide +kernel
theorem d_EF_append_20 : decode b_EF_append 20 = .ok (.getfield 13, 3) := by decide +kernel
theorem d_EF_append_23 : decode b_EF_append 23 = .ok (.bipush 80, 2) := by decide +kernel
theorem d_EF_append_25 : decode b_EF_append 25 = .ok (.if_icmp .ge 25, 3) := by decide +kernel
theorem d_EF_append_28 : decode b_EF_append 28 = .ok (.aload_n 0, 1) := by decide +kernel
theorem d_EF_append_29 : decode b_EF_append 29 = .ok (.getfield 9, 3) := by decide +kernel
theorem d_EF_append_32 : decode b_EF_append 32 = .ok (.aload_n 0, 1) := by decide +kernel
theorem d_EF_append_33 : decode b_EF_append 33 = .ok (.getfield 13, 3) := by decide +kernel
theorem d_EF_append_36 : decode b_EF_append 36 = .ok (.iload 4, 2) := by decide +kernel
theorem d_EF_append_38 : decode b_EF_append 38 = .ok (.i2c, 1) := by decide +kernel
theorem d_EF_append_39 : decode b_EF_append 39 = .ok (.castore, 1) := by decide +kernel
theorem d_EF_append_40 : decode b_EF_append 40 = .ok (.aload_n 0, 1) := by decide +kernel
theorem d_EF_append_41 : decode b_EF_append 41 = .ok (.dup, 1) := by decide +kernel
theorem d_EF_append_42 : decode b_EF_append 42 = .ok (.getfield 13, 3) := by decide +kernel
theorem d_EF_append_45 : decode b_EF_append 45 = .ok (.iconst 1, 1) := by decide +kernel
theorem d_EF_append_46 : decode b_EF_append 46 = .ok (.iadd, 1) := by decide +kernel
theorem d_EF_append_47 : decode b_EF_append 47 = .ok (.putfield 13, 3) := by decide +kernel
theorem d_EF_append_50 : decode b_EF_append 50 = .ok (.iinc 3 (-8), 3) := by decide +kernel
theorem d_EF_append_53 : decode b_EF_append 53 = .ok (.goto (-50), 3) := by decide +kernel
theorem d_EF_append_56 : decode b_EF_append 56 = .ok (.return_, 1) := by decide +kernel
theorem d_EF_clear_0 : decode b_EF_clear 0 = .ok (.aload_n 0, 1) := by decide +kernel
theorem d_EF_clear_1 : decode b_EF_clear 1 = .ok (.getfield 13, 3) := by decide +kernel
theorem d_EF_clear_4 : decode b_EF_clear 4 = .ok (.istore_n 1, 1) := by decide +kernel
theorem d_EF_clear_5 : decode b_EF_clear 5 = .ok (.aload_n 0, 1) := by decide +kernel
theorem d_EF_clear_6 : decode b_EF_clear 6 = .ok (.iconst 0, 1) := by decide +kernel
theorem d_EF_clear_7 : decode b_EF_clear 7 = .ok (.putfield 13, 3) := by decide +kernel
theorem d_EF_clear_10 : decode b_EF_clear 10 = .ok (.iload_n 1, 1) := by decide +kernel
theorem d_EF_clear_11 : decode b_EF_clear 11 = .ok (.ireturn, 1) := by decide +kernel
theorem d_EF_where_0 : decode b_EF_where 0 = .ok (.aload_n 0, 1) := by decide +kernel
theorem d_EF_where_1 : decode b_EF_where 1 = .ok (.getfield 17, 3) := by decide +kernel
theorem d_EF_where_4 : decode b_EF_where 4 = .ok (.ireturn, 1) := by decide +kernel
