theorem d_Model_begin_0 : decode b_Model_begin 0 = .ok (.aload_n 0, 1) := by decide +kernel
theorem d_Model_begin_1 : decode b_Model_begin 1 = .ok (.iconst 1, 1) := by decide +kernel
theorem d_Model_begin_2 : decode b_Model_begin 2 = .ok (.putfield 70, 3) := by decide +kernel
theorem d_Model_begin_5 : decode b_Model_begin 5 = .ok (.aload_n 0, 1) := by decide +kernel
theorem d_Model_begin_6 : decode b_Model_begin 6 = .ok (.iconst 0, 1) := by decide +kernel
theorem d_Model_begin_7 : decode b_Model_begin 7 = .ok (.putfield 80, 3) := by decide +kernel
theorem d_Model_begin_10 : decode b_Model_begin 10 = .ok (.aload_n 0, 1) := by decide +kernel
theorem d_Model_begin_11 : decode b_Model_begin 11 = .ok (.iconst 0, 1) := by decide +kernel
theorem d_Model_begin_12 : decode b_Model_begin 12 = .ok (.putfield 83, 3) := by decide +kernel
theorem d_Model_begin_15 : decode b_Model_begin 15 = .ok (.aload_n 0, 1) := by decide +kernel
theorem d_Model_begin_16 : decode b_Model_begin 16 = .ok (.iconst 0, 1) := by decide +kernel
theorem d_Model_begin_17 : decode b_Model_begin 17 = .ok (.putfield 86, 3) := by decide +kernel
theorem d_Model_begin_20 : decode b_Model_begin 20 = .ok (.aload_n 0, 1) := by decide +kernel
theorem d_Model_begin_21 : decode b_Model_begin 21 = .ok (.iconst 0, 1) := by decide +kernel
theorem d_Model_begin_22 : decode b_Model_begin 22 = .ok (.putfield 89, 3) := by decide +kernel
theorem d_Model_begin_25 : decode b_Model_begin 25 = .ok (.aload_n 0, 1) := by decide +kernel
theorem d_Model_begin_26 : decode b_Model_begin 26 = .ok (.iconst 0, 1) := by decide +kernel
theorem d_Model_begin_27 : decode b_Model_begin 27 = .ok (.putfield 92, 3) := by decide +kernel
theorem d_Model_begin_30 : decode b_Model_begin 30 = .ok (.aload_n 0, 1) := by decide +kernel
theorem d_Model_begin_31 : decode b_Model_begin 31 = .ok (.iconst 0, 1) := by decide +kernel
theorem d_Model_begin_32 : decode b_Model_begin 32 = .ok (.putfield 96, 3) := by decide +kernel
theorem d_Model_begin_35 : decode b_Model_begin 35 = .ok (.aload_n 0, 1) := by decide +kernel
theorem d_Model_begin_36 : decode b_Model_begin 36 = .ok (.iconst (-1), 1) := by decide +kernel
theorem d_Model_begin_37 : decode b_Model_begin 37 = .ok (.putfield 99, 3) := by decide +kernel
theorem d_Model_begin_40 : decode b_Model_begin 40 = .ok (.return_, 1) := by decide +kernel
theorem d_Model_restart_0 : decode b_Model_restart 0 = .ok (.aload_n 0, 1) := by decide +kernel
theorem d_Model_restart_1 : decode b_Model_restart 1 = .ok (.aload_n 0, 1) := by decide +kernel
theorem d_Model_restart_2 : decode b_Model_restart 2 = .ok (.getfield 70, 3) := by decide +kernel
theorem d_Model_restart_5 : decode b_Model_restart 5 = .ok (.ifCond .ne 7, 3) := by decide +kernel
theorem d_Model_restart_8 : decode b_Model_restart 8 = .ok (.iconst 1, 1) := by decide +kernel
theorem d_Model_restart_9 : decode b_Model_restart 9 = .ok (.goto 4, 3) := by decide +kernel
theorem d_Model_restart_12 : decode b_Model_restart 12 = .ok (.iconst 0, 1) := by decide +kernel
theorem d_Model_restart_13 : decode b_Model_restart 13 = .ok (.iconst 0, 1) := by decide +kernel
theorem d_Model_restart_14 : decode b_Model_restart 14 = .ok (.invokevirtual 60, 3) := by decide +kernel
theorem d_Model_restart_17 : decode b_Model_restart 17 = .ok (.ifCond .eq 4, 3) := by decide +kernel
theorem d_Model_restart_20 : decode b_Model_restart 20 = .ok (.return_, 1) := by decide +kernel
theorem d_Model_restart_21 : decode b_Model_restart 21 = .ok (.aload_n 0, 1) := by decide +kernel
theorem d_Model_restart_22 : decode b_Model_restart 22 = .ok (.invokevirtual 77, 3) := by decide +kernel
theorem d_Model_restart_25 : decode b_Model_restart 25 = .ok (.return_, 1) := by decide +kernel
theorem d_Model_reckoned_0 : decode b_Model_reckoned 0 = .ok (.iload_n 0, 1) := by decide +kernel
theorem d_Model_reckoned_1 : decode b_Model_reckoned 1 = .ok (.iconst 4, 1) := by decide +kernel
theorem d_Model_reckoned_2 : decode b_Model_reckoned 2 = .ok (.if_icmp .ne 9, 3) := by decide +kernel
theorem d_Model_reckoned_5 : decode b_Model_reckoned 5 = .ok (.iload_n 1, 1) := by decide +kernel
theorem d_Model_reckoned_6 : decode b_Model_reckoned 6 = .ok (.iload_n 2, 1) := by decide +kernel
theorem d_Model_reckoned_7 : decode b_Model_reckoned 7 = .ok (.iadd, 1) := by decide +kernel
theorem d_Model_reckoned_8 : decode b_Model_reckoned 8 = .ok (.goto 36, 3) := by decide +kernel
theorem d_Model_reckoned_11 : decode b_Model_reckoned 11 = .ok (.iload_n 0, 1) := by decide +kernel
theorem d_Model_reckoned_12 : decode b_Model_reckoned 12 = .ok (.iconst 5, 1) := by decide +kernel
theorem d_Model_reckoned_13 : decode b_Model_reckoned 13 = .ok (.if_icmp .ne 9, 3) := by decide +kernel
theorem d_Model_reckoned_16 : decode b_Model_reckoned 16 = .ok (.iload_n 1, 1) := by decide +kernel
theorem d_Model_reckoned_17 : decode b_Model_reckoned 17 = .ok (.iload_n 2, 1) := by decide +kernel
theorem d_Model_reckoned_18 : decode b_Model_reckoned 18 = .ok (.isub, 1) := by decide +kernel
theorem d_Model_reckoned_19 : decode b_Model_reckoned 19 = .ok (.goto 25, 3) := by decide +kernel
theorem d_Model_reckoned_22 : decode b_Model_reckoned 22 = .ok (.iload_n 0, 1) := by decide +kernel
theorem d_Model_reckoned_23 : decode b_Model_reckoned 23 = .ok (.bipush 6, 2) := by decide +kernel
theorem d_Model_reckoned_25 : decode b_Model_reckoned 25 = .ok (.if_icmp .ne 9, 3) := by decide +kernel
theorem d_Model_reckoned_28 : decode b_Model_reckoned 28 = .ok (.iload_n 1, 1) := by decide +kernel
theorem d_Model_reckoned_29 : decode b_Model_reckoned 29 = .ok (.iload_n 2, 1) := by decide +kernel
theorem d_Model_reckoned_30 : decode b_Model_reckoned 30 = .ok (.imul, 1) := by decide +kernel
theorem d_Model_reckoned_31 : decode b_Model_reckoned 31 = .ok (.goto 13, 3) := by decide +kernel
theorem d_Model_reckoned_34 : decode b_Model_reckoned 34 = .ok (.iload_n 1, 1) := by decide +kernel
theorem d_Model_reckoned_35 : decode b_Model_reckoned 35 = .ok (.iload_n 2, 1) := by decide +kernel
theorem d_Model_reckoned_36 : decode b_Model_reckoned 36 = .ok (.if_icmp .ge 7, 3) := by decide +kernel
theorem d_Model_reckoned_39 : decode b_Model_reckoned 39 = .ok (.iconst 1, 1) := by decide +kernel
theorem d_Model_reckoned_40 : decode b_Model_reckoned 40 = .ok (.goto 4, 3) := by decide +kernel
theorem d_Model_reckoned_43 : decode b_Model_reckoned 43 = .ok (.iconst 0, 1) := by decide +kernel
theorem d_Model_reckoned_44 : decode b_Model_reckoned 44 = .ok (.ireturn, 1) := by decide +kernel
