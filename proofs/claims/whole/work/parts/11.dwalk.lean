theorem d_Walk_perform_0 : decode b_Walk_perform 0 = .ok (.iconst 0, 1) := by decide +kernel
theorem d_Walk_perform_1 : decode b_Walk_perform 1 = .ok (.istore_n 2, 1) := by decide +kernel
theorem d_Walk_perform_2 : decode b_Walk_perform 2 = .ok (.iload_n 2, 1) := by decide +kernel
theorem d_Walk_perform_3 : decode b_Walk_perform 3 = .ok (.bipush 10, 2) := by decide +kernel
theorem d_Walk_perform_5 : decode b_Walk_perform 5 = .ok (.if_icmp .ge 27, 3) := by decide +kernel
theorem d_Walk_perform_8 : decode b_Walk_perform 8 = .ok (.iload_n 1, 1) := by decide +kernel
theorem d_Walk_perform_9 : decode b_Walk_perform 9 = .ok (.iload_n 2, 1) := by decide +kernel
theorem d_Walk_perform_10 : decode b_Walk_perform 10 = .ok (.ishr, 1) := by decide +kernel
theorem d_Walk_perform_11 : decode b_Walk_perform 11 = .ok (.iconst 1, 1) := by decide +kernel
theorem d_Walk_perform_12 : decode b_Walk_perform 12 = .ok (.iand, 1) := by decide +kernel
theorem d_Walk_perform_13 : decode b_Walk_perform 13 = .ok (.ifCond .eq 13, 3) := by decide +kernel
theorem d_Walk_perform_16 : decode b_Walk_perform 16 = .ok (.aload_n 0, 1) := by decide +kernel
theorem d_Walk_perform_17 : decode b_Walk_perform 17 = .ok (.getfield 9, 3) := by decide +kernel
theorem d_Walk_perform_20 : decode b_Walk_perform 20 = .ok (.iload_n 2, 1) := by decide +kernel
theorem d_Walk_perform_21 : decode b_Walk_perform 21 = .ok (.dup2, 1) := by decide +kernel
theorem d_Walk_perform_22 : decode b_Walk_perform 22 = .ok (.iaload, 1) := by decide +kernel
theorem d_Walk_perform_23 : decode b_Walk_perform 23 = .ok (.iconst 1, 1) := by decide +kernel
theorem d_Walk_perform_24 : decode b_Walk_perform 24 = .ok (.iadd, 1) := by decide +kernel
theorem d_Walk_perform_25 : decode b_Walk_perform 25 = .ok (.iastore, 1) := by decide +kernel
theorem d_Walk_perform_26 : decode b_Walk_perform 26 = .ok (.iinc 2 1, 3) := by decide +kernel
theorem d_Walk_perform_29 : decode b_Walk_perform 29 = .ok (.goto (-27), 3) := by decide +kernel
theorem d_Walk_perform_32 : decode b_Walk_perform 32 = .ok (.return_, 1) := by decide +kernel
theorem d_Walk_goOn_0 : decode b_Walk_goOn 0 = .ok (.aload_n 0, 1) := by decide +kernel
theorem d_Walk_goOn_1 : decode b_Walk_goOn 1 = .ok (.iload_n 1, 1) := by decide +kernel
theorem d_Walk_goOn_2 : decode b_Walk_goOn 2 = .ok (.putfield 15, 3) := by decide +kernel
theorem d_Walk_goOn_5 : decode b_Walk_goOn 5 = .ok (.aload_n 0, 1) := by decide +kernel
theorem d_Walk_goOn_6 : decode b_Walk_goOn 6 = .ok (.dup, 1) := by decide +kernel
theorem d_Walk_goOn_7 : decode b_Walk_goOn 7 = .ok (.getfield 23, 3) := by decide +kernel
theorem d_Walk_goOn_10 : decode b_Walk_goOn 10 = .ok (.iconst 1, 1) := by decide +kernel
theorem d_Walk_goOn_11 : decode b_Walk_goOn 11 = .ok (.iadd, 1) := by decide +kernel
theorem d_Walk_goOn_12 : decode b_Walk_goOn 12 = .ok (.putfield 23, 3) := by decide +kernel
theorem d_Walk_goOn_15 : decode b_Walk_goOn 15 = .ok (.aload_n 0, 1) := by decide +kernel
theorem d_Walk_goOn_16 : decode b_Walk_goOn 16 = .ok (.iload_n 2, 1) := by decide +kernel
theorem d_Walk_goOn_17 : decode b_Walk_goOn 17 = .ok (.invokevirtual 32, 3) := by decide +kernel
theorem d_Walk_goOn_20 : decode b_Walk_goOn 20 = .ok (.return_, 1) := by decide +kernel
theorem d_Walk_finish_0 : decode b_Walk_finish 0 = .ok (.aload_n 0, 1) := by decide +kernel
theorem d_Walk_finish_1 : decode b_Walk_finish 1 = .ok (.iconst 1, 1) := by decide +kernel
theorem d_Walk_finish_2 : decode b_Walk_finish 2 = .ok (.putfield 19, 3) := by decide +kernel
theorem d_Walk_finish_5 : decode b_Walk_finish 5 = .ok (.aload_n 0, 1) := by decide +kernel
theorem d_Walk_finish_6 : decode b_Walk_finish 6 = .ok (.iload_n 1, 1) := by decide +kernel
theorem d_Walk_finish_7 : decode b_Walk_finish 7 = .ok (.invokevirtual 32, 3) := by decide +kernel
theorem d_Walk_finish_10 : decode b_Walk_finish 10 = .ok (.return_, 1) := by decide +kernel
theorem d_Walk_restart_0 : decode b_Walk_restart 0 = .ok (.aload_n 0, 1) := by decide +kernel
theorem d_Walk_restart_1 : decode b_Walk_restart 1 = .ok (.iload_n 1, 1) := by decide +kernel
theorem d_Walk_restart_2 : decode b_Walk_restart 2 = .ok (.putfield 15, 3) := by decide +kernel
theorem d_Walk_restart_5 : decode b_Walk_restart 5 = .ok (.aload_n 0, 1) := by decide +kernel
theorem d_Walk_restart_6 : decode b_Walk_restart 6 = .ok (.iconst 0, 1) := by decide +kernel
theorem d_Walk_restart_7 : decode b_Walk_restart 7 = .ok (.putfield 19, 3) := by decide +kernel
theorem d_Walk_restart_10 : decode b_Walk_restart 10 = .ok (.aload_n 0, 1) := by decide +kernel
theorem d_Walk_restart_11 : decode b_Walk_restart 11 = .ok (.iconst 0, 1) := by decide +kernel
theorem d_Walk_restart_12 : decode b_Walk_restart 12 = .ok (.putfield 23, 3) := by decide +kernel
theorem d_Walk_restart_15 : decode b_Walk_restart 15 = .ok (.aload_n 0, 1) := by decide +kernel
theorem d_Walk_restart_16 : decode b_Walk_restart 16 = .ok (.getfield 9, 3) := by decide +kernel
theorem d_Walk_restart_19 : decode b_Walk_restart 19 = .ok (.iconst 0, 1) := by decide +kernel
theorem d_Walk_restart_20 : decode b_Walk_restart 20 = .ok (.invokestatic 26, 3) := by decide +kernel
theorem d_Walk_restart_23 : decode b_Walk_restart 23 = .ok (.return_, 1) := by decide +kernel
