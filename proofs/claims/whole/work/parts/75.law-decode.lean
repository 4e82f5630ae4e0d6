theorem d_Law_put_0 : decode b_Law_put 0 = .ok (.aload_n 3, 1) := by decide +kernel
theorem d_Law_put_1 : decode b_Law_put 1 = .ok (.iconst 0, 1) := by decide +kernel
theorem d_Law_put_2 : decode b_Law_put 2 = .ok (.aload_n 0, 1) := by decide +kernel
theorem d_Law_put_3 : decode b_Law_put 3 = .ok (.iload_n 1, 1) := by decide +kernel
theorem d_Law_put_4 : decode b_Law_put 4 = .ok (.iload_n 2, 1) := by decide +kernel
theorem d_Law_put_5 : decode b_Law_put 5 = .ok (.invokevirtual 7, 3) := by decide +kernel
theorem d_Law_put_8 : decode b_Law_put 8 = .ok (.i2l, 1) := by decide +kernel
theorem d_Law_put_9 : decode b_Law_put 9 = .ok (.lastore, 1) := by decide +kernel
theorem d_Law_put_10 : decode b_Law_put 10 = .ok (.goto 7, 3) := by decide +kernel
theorem d_Law_put_13 : decode b_Law_put 13 = .ok (.astore 4, 2) := by decide +kernel
theorem d_Law_put_15 : decode b_Law_put 15 = .ok (.iconst 1, 1) := by decide +kernel
theorem d_Law_put_16 : decode b_Law_put 16 = .ok (.ireturn, 1) := by decide +kernel
theorem d_Law_put_17 : decode b_Law_put 17 = .ok (.iconst 0, 1) := by decide +kernel
theorem d_Law_put_18 : decode b_Law_put 18 = .ok (.ireturn, 1) := by decide +kernel
theorem d_Law_restart_0 : decode b_Law_restart 0 = .ok (.aload_n 0, 1) := by decide +kernel
theorem d_Law_restart_1 : decode b_Law_restart 1 = .ok (.invokevirtual 15, 3) := by decide +kernel
theorem d_Law_restart_4 : decode b_Law_restart 4 = .ok (.goto 6, 3) := by decide +kernel
theorem d_Law_restart_7 : decode b_Law_restart 7 = .ok (.astore_n 1, 1) := by decide +kernel
theorem d_Law_restart_8 : decode b_Law_restart 8 = .ok (.iconst 1, 1) := by decide +kernel
theorem d_Law_restart_9 : decode b_Law_restart 9 = .ok (.ireturn, 1) := by decide +kernel
theorem d_Law_restart_10 : decode b_Law_restart 10 = .ok (.iconst 0, 1) := by decide +kernel
theorem d_Law_restart_11 : decode b_Law_restart 11 = .ok (.ireturn, 1) := by decide +kernel
theorem d_Law_run_0 : decode b_Law_run 0 = .ok (.aload_n 2, 1) := by decide +kernel
theorem d_Law_run_1 : decode b_Law_run 1 = .ok (.iconst 0, 1) := by decide +kernel
theorem d_Law_run_2 : decode b_Law_run 2 = .ok (.aload_n 0, 1) := by decide +kernel
theorem d_Law_run_3 : decode b_Law_run 3 = .ok (.iload_n 1, 1) := by decide +kernel
theorem d_Law_run_4 : decode b_Law_run 4 = .ok (.invokevirtual 20, 3) := by decide +kernel
theorem d_Law_run_7 : decode b_Law_run 7 = .ok (.i2l, 1) := by decide +kernel
theorem d_Law_run_8 : decode b_Law_run 8 = .ok (.lastore, 1) := by decide +kernel
theorem d_Law_run_9 : decode b_Law_run 9 = .ok (.goto 9, 3) := by decide +kernel
theorem d_Law_run_12 : decode b_Law_run 12 = .ok (.astore_n 3, 1) := by decide +kernel
theorem d_Law_run_13 : decode b_Law_run 13 = .ok (.iconst 1, 1) := by decide +kernel
theorem d_Law_run_14 : decode b_Law_run 14 = .ok (.ireturn, 1) := by decide +kernel
theorem d_Law_run_15 : decode b_Law_run 15 = .ok (.astore_n 3, 1) := by decide +kernel
theorem d_Law_run_16 : decode b_Law_run 16 = .ok (.iconst 2, 1) := by decide +kernel
theorem d_Law_run_17 : decode b_Law_run 17 = .ok (.ireturn, 1) := by decide +kernel
theorem d_Law_run_18 : decode b_Law_run 18 = .ok (.iconst 0, 1) := by decide +kernel
theorem d_Law_run_19 : decode b_Law_run 19 = .ok (.ireturn, 1) := by decide +kernel
theorem d_Law_result_0 : decode b_Law_result 0 = .ok (.aload_n 2, 1) := by decide +kernel
theorem d_Law_result_1 : decode b_Law_result 1 = .ok (.iconst 0, 1) := by decide +kernel
theorem d_Law_result_2 : decode b_Law_result 2 = .ok (.aload_n 0, 1) := by decide +kernel
theorem d_Law_result_3 : decode b_Law_result 3 = .ok (.iload_n 1, 1) := by decide +kernel
theorem d_Law_result_4 : decode b_Law_result 4 = .ok (.invokevirtual 24, 3) := by decide +kernel
theorem d_Law_result_7 : decode b_Law_result 7 = .ok (.i2l, 1) := by decide +kernel
theorem d_Law_result_8 : decode b_Law_result 8 = .ok (.lastore, 1) := by decide +kernel
theorem d_Law_result_9 : decode b_Law_result 9 = .ok (.goto 6, 3) := by decide +kernel
theorem d_Law_result_12 : decode b_Law_result 12 = .ok (.astore_n 3, 1) := by decide +kernel
theorem d_Law_result_13 : decode b_Law_result 13 = .ok (.iconst 1, 1) := by decide +kernel
theorem d_Law_result_14 : decode b_Law_result 14 = .ok (.ireturn, 1) := by decide +kernel
theorem d_Law_result_15 : decode b_Law_result 15 = .ok (.iconst 0, 1) := by decide +kernel
theorem d_Law_result_16 : decode b_Law_result 16 = .ok (.ireturn, 1) := by decide +kernel
theorem d_Law_into_0 : decode b_Law_into 0 = .ok (.aload_n 2, 1) := by decide +kernel
theorem d_Law_into_1 : decode b_Law_into 1 = .ok (.iconst 0, 1) := by decide +kernel
theorem d_Law_into_2 : decode b_Law_into 2 = .ok (.aload_n 0, 1) := by decide +kernel
theorem d_Law_into_3 : decode b_Law_into 3 = .ok (.iload_n 1, 1) := by decide +kernel
theorem d_Law_into_4 : decode b_Law_into 4 = .ok (.invokevirtual 27, 3) := by decide +kernel
theorem d_Law_into_7 : decode b_Law_into 7 = .ok (.i2l, 1) := by decide +kernel
theorem d_Law_into_8 : decode b_Law_into 8 = .ok (.lastore, 1) := by decide +kernel
theorem d_Law_into_9 : decode b_Law_into 9 = .ok (.goto 9, 3) := by decide +kernel
theorem d_Law_into_12 : decode b_Law_into 12 = .ok (.astore_n 3, 1) := by decide +kernel
theorem d_Law_into_13 : decode b_Law_into 13 = .ok (.iconst 1, 1) := by decide +kernel
theorem d_Law_into_14 : decode b_Law_into 14 = .ok (.ireturn, 1) := by decide +kernel
theorem d_Law_into_15 : decode b_Law_into 15 = .ok (.astore_n 3, 1) := by decide +kernel
theorem d_Law_into_16 : decode b_Law_into 16 = .ok (.iconst 2, 1) := by decide +kernel
theorem d_Law_into_17 : decode b_Law_into 17 = .ok (.ireturn, 1) := by decide +kernel
theorem d_Law_into_18 : decode b_Law_into 18 = .ok (.iconst 0, 1) := by decide +kernel
theorem d_Law_into_19 : decode b_Law_into 19 = .ok (.ireturn, 1) := by decide +kernel
theorem d_Law_apply_0 : decode b_Law_apply 0 = .ok (.aload_n 2, 1) := by decide +kernel
theorem d_Law_apply_1 : decode b_Law_apply 1 = .ok (.iconst 0, 1) := by decide +kernel
theorem d_Law_apply_2 : decode b_Law_apply 2 = .ok (.aload_n 0, 1) := by decide +kernel
theorem d_Law_apply_3 : decode b_Law_apply 3 = .ok (.iload_n 1, 1) := by decide +kernel
theorem d_Law_apply_4 : decode b_Law_apply 4 = .ok (.invokevirtual 30, 3) := by decide +kernel
theorem d_Law_apply_7 : decode b_Law_apply 7 = .ok (.i2l, 1) := by decide +kernel
theorem d_Law_apply_8 : decode b_Law_apply 8 = .ok (.lastore, 1) := by decide +kernel
theorem d_Law_apply_9 : decode b_Law_apply 9 = .ok (.goto 6, 3) := by decide +kernel
theorem d_Law_apply_12 : decode b_Law_apply 12 = .ok (.astore_n 3, 1) := by decide +kernel
theorem d_Law_apply_13 : decode b_Law_apply 13 = .ok (.iconst 1, 1) := by decide +kernel
theorem d_Law_apply_14 : decode b_Law_apply 14 = .ok (.ireturn, 1) := by decide +kernel
theorem d_Law_apply_15 : decode b_Law_apply 15 = .ok (.iconst 0, 1) := by decide +kernel
theorem d_Law_apply_16 : decode b_Law_apply 16 = .ok (.ireturn, 1) := by decide +kernel
