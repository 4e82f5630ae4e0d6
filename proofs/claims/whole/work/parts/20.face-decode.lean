theorem d_LazyMachine_mayBear_0 : decode b_LazyMachine_mayBear 0 = .ok (.iload_n 0, 1) := by decide +kernel
theorem d_LazyMachine_mayBear_1 : decode b_LazyMachine_mayBear 1 = .ok (.ifCond .ne 19, 3) := by decide +kernel
theorem d_LazyMachine_mayBear_4 : decode b_LazyMachine_mayBear 4 = .ok (.iload_n 1, 1) := by decide +kernel
theorem d_LazyMachine_mayBear_5 : decode b_LazyMachine_mayBear 5 = .ok (.ifCond .lt 13, 3) := by decide +kernel
theorem d_LazyMachine_mayBear_8 : decode b_LazyMachine_mayBear 8 = .ok (.iload_n 1, 1) := by decide +kernel
theorem d_LazyMachine_mayBear_9 : decode b_LazyMachine_mayBear 9 = .ok (.bipush 40, 2) := by decide +kernel
theorem d_LazyMachine_mayBear_11 : decode b_LazyMachine_mayBear 11 = .ok (.if_icmp .gt 7, 3) := by decide +kernel
theorem d_LazyMachine_mayBear_14 : decode b_LazyMachine_mayBear 14 = .ok (.iconst 1, 1) := by decide +kernel
theorem d_LazyMachine_mayBear_15 : decode b_LazyMachine_mayBear 15 = .ok (.goto 4, 3) := by decide +kernel
theorem d_LazyMachine_mayBear_18 : decode b_LazyMachine_mayBear 18 = .ok (.iconst 0, 1) := by decide +kernel
theorem d_LazyMachine_mayBear_19 : decode b_LazyMachine_mayBear 19 = .ok (.ireturn, 1) := by decide +kernel
theorem d_LazyMachine_mayBear_20 : decode b_LazyMachine_mayBear 20 = .ok (.iload_n 0, 1) := by decide +kernel
theorem d_LazyMachine_mayBear_21 : decode b_LazyMachine_mayBear 21 = .ok (.iconst 3, 1) := by decide +kernel
theorem d_LazyMachine_mayBear_22 : decode b_LazyMachine_mayBear 22 = .ok (.if_icmp .eq 7, 3) := by decide +kernel
theorem d_LazyMachine_mayBear_25 : decode b_LazyMachine_mayBear 25 = .ok (.iload_n 1, 1) := by decide +kernel
theorem d_LazyMachine_mayBear_26 : decode b_LazyMachine_mayBear 26 = .ok (.ifCond .ne 7, 3) := by decide +kernel
theorem d_LazyMachine_mayBear_29 : decode b_LazyMachine_mayBear 29 = .ok (.iconst 1, 1) := by decide +kernel
theorem d_LazyMachine_mayBear_30 : decode b_LazyMachine_mayBear 30 = .ok (.goto 4, 3) := by decide +kernel
theorem d_LazyMachine_mayBear_33 : decode b_LazyMachine_mayBear 33 = .ok (.iconst 0, 1) := by decide +kernel
theorem d_LazyMachine_mayBear_34 : decode b_LazyMachine_mayBear 34 = .ok (.ireturn, 1) := by decide +kernel
theorem d_LazyMachine_put_0 : decode b_LazyMachine_put 0 = .ok (.iload_n 1, 1) := by decide +kernel
theorem d_LazyMachine_put_1 : decode b_LazyMachine_put 1 = .ok (.ifCond .lt 9, 3) := by decide +kernel
theorem d_LazyMachine_put_4 : decode b_LazyMachine_put 4 = .ok (.iload_n 1, 1) := by decide +kernel
theorem d_LazyMachine_put_5 : decode b_LazyMachine_put 5 = .ok (.bipush 13, 2) := by decide +kernel
theorem d_LazyMachine_put_7 : decode b_LazyMachine_put 7 = .ok (.if_icmp .le 13, 3) := by decide +kernel
theorem d_LazyMachine_put_10 : decode b_LazyMachine_put 10 = .ok (.new 46, 3) := by decide +kernel
theorem d_LazyMachine_put_13 : decode b_LazyMachine_put 13 = .ok (.dup, 1) := by decide +kernel
theorem d_LazyMachine_put_14 : decode b_LazyMachine_put 14 = .ok (.ldc 48, 2) := by decide +kernel
theorem d_LazyMachine_put_16 : decode b_LazyMachine_put 16 = .ok (.invokespecial 50, 3) := by decide +kernel
theorem d_LazyMachine_put_19 : decode b_LazyMachine_put 19 = .ok (.athrow, 1) := by decide +kernel
theorem d_LazyMachine_put_20 : decode b_LazyMachine_put 20 = .ok (.iload_n 1, 1) := by decide +kernel
theorem d_LazyMachine_put_21 : decode b_LazyMachine_put 21 = .ok (.iload_n 2, 1) := by decide +kernel
theorem d_LazyMachine_put_22 : decode b_LazyMachine_put 22 = .ok (.invokestatic 53, 3) := by decide +kernel
theorem d_LazyMachine_put_25 : decode b_LazyMachine_put 25 = .ok (.ifCond .ne 13, 3) := by decide +kernel
theorem d_LazyMachine_put_28 : decode b_LazyMachine_put 28 = .ok (.new 46, 3) := by decide +kernel
theorem d_LazyMachine_put_31 : decode b_LazyMachine_put 31 = .ok (.dup, 1) := by decide +kernel
theorem d_LazyMachine_put_32 : decode b_LazyMachine_put 32 = .ok (.ldc 57, 2) := by decide +kernel
theorem d_LazyMachine_put_34 : decode b_LazyMachine_put 34 = .ok (.invokespecial 50, 3) := by decide +kernel
theorem d_LazyMachine_put_37 : decode b_LazyMachine_put 37 = .ok (.athrow, 1) := by decide +kernel
theorem d_LazyMachine_put_38 : decode b_LazyMachine_put 38 = .ok (.aload_n 0, 1) := by decide +kernel
theorem d_LazyMachine_put_39 : decode b_LazyMachine_put 39 = .ok (.getfield 26, 3) := by decide +kernel
theorem d_LazyMachine_put_42 : decode b_LazyMachine_put 42 = .ok (.iload_n 1, 1) := by decide +kernel
theorem d_LazyMachine_put_43 : decode b_LazyMachine_put 43 = .ok (.iload_n 2, 1) := by decide +kernel
theorem d_LazyMachine_put_44 : decode b_LazyMachine_put 44 = .ok (.invokevirtual 59, 3) := by decide +kernel
theorem d_LazyMachine_put_47 : decode b_LazyMachine_put 47 = .ok (.ifCond .eq 13, 3) := by decide +kernel
theorem d_LazyMachine_put_50 : decode b_LazyMachine_put 50 = .ok (.aload_n 0, 1) := by decide +kernel
theorem d_LazyMachine_put_51 : decode b_LazyMachine_put 51 = .ok (.getfield 26, 3) := by decide +kernel
theorem d_LazyMachine_put_54 : decode b_LazyMachine_put 54 = .ok (.invokevirtual 62, 3) := by decide +kernel
theorem d_LazyMachine_put_57 : decode b_LazyMachine_put 57 = .ok (.goto 4, 3) := by decide +kernel
theorem d_LazyMachine_put_60 : decode b_LazyMachine_put 60 = .ok (.iconst (-1), 1) := by decide +kernel
theorem d_LazyMachine_put_61 : decode b_LazyMachine_put 61 = .ok (.ireturn, 1) := by decide +kernel
theorem d_LazyMachine_load_0 : decode b_LazyMachine_load 0 = .ok (.aload_n 0, 1) := by decide +kernel
theorem d_LazyMachine_load_1 : decode b_LazyMachine_load 1 = .ok (.getfield 26, 3) := by decide +kernel
theorem d_LazyMachine_load_4 : decode b_LazyMachine_load 4 = .ok (.invokevirtual 66, 3) := by decide +kernel
theorem d_LazyMachine_load_7 : decode b_LazyMachine_load 7 = .ok (.istore_n 1, 1) := by decide +kernel
theorem d_LazyMachine_load_8 : decode b_LazyMachine_load 8 = .ok (.aload_n 0, 1) := by decide +kernel
theorem d_LazyMachine_load_9 : decode b_LazyMachine_load 9 = .ok (.getfield 26, 3) := by decide +kernel
theorem d_LazyMachine_load_12 : decode b_LazyMachine_load 12 = .ok (.astore_n 2, 1) := by decide +kernel
theorem d_LazyMachine_load_13 : decode b_LazyMachine_load 13 = .ok (.aload_n 0, 1) := by decide +kernel
theorem d_LazyMachine_load_14 : decode b_LazyMachine_load 14 = .ok (.aload_n 0, 1) := by decide +kernel
theorem d_LazyMachine_load_15 : decode b_LazyMachine_load 15 = .ok (.getfield 30, 3) := by decide +kernel
theorem d_LazyMachine_load_18 : decode b_LazyMachine_load 18 = .ok (.putfield 26, 3) := by decide +kernel
theorem d_LazyMachine_load_21 : decode b_LazyMachine_load 21 = .ok (.aload_n 0, 1) := by decide +kernel
theorem d_LazyMachine_load_22 : decode b_LazyMachine_load 22 = .ok (.aload_n 2, 1) := by decide +kernel
theorem d_LazyMachine_load_23 : decode b_LazyMachine_load 23 = .ok (.putfield 30, 3) := by decide +kernel
theorem d_LazyMachine_load_26 : decode b_LazyMachine_load 26 = .ok (.aload_n 0, 1) := by decide +kernel
theorem d_LazyMachine_load_27 : decode b_LazyMachine_load 27 = .ok (.getfield 26, 3) := by decide +kernel
theorem d_LazyMachine_load_30 : decode b_LazyMachine_load 30 = .ok (.invokevirtual 69, 3) := by decide +kernel
theorem d_LazyMachine_load_33 : decode b_LazyMachine_load 33 = .ok (.iload_n 1, 1) := by decide +kernel
theorem d_LazyMachine_load_34 : decode b_LazyMachine_load 34 = .ok (.ifCond .eq 10, 3) := by decide +kernel
theorem d_LazyMachine_load_37 : decode b_LazyMachine_load 37 = .ok (.aload_n 0, 1) := by decide +kernel
theorem d_LazyMachine_load_38 : decode b_LazyMachine_load 38 = .ok (.getfield 30, 3) := by decide +kernel
theorem d_LazyMachine_load_41 : decode b_LazyMachine_load 41 = .ok (.invokevirtual 69, 3) := by decide +kernel
theorem d_LazyMachine_load_44 : decode b_LazyMachine_load 44 = .ok (.aload_n 0, 1) := by decide +kernel
theorem d_LazyMachine_load_45 : decode b_LazyMachine_load 45 = .ok (.iload_n 1, 1) := by decide +kernel
theorem d_LazyMachine_load_46 : decode b_LazyMachine_load 46 = .ok (.ifCond .ne 7, 3) := by decide +kernel
theorem d_LazyMachine_load_49 : decode b_LazyMachine_load 49 = .ok (.iconst 1, 1) := by decide +kernel
theorem d_LazyMachine_load_50 : decode b_LazyMachine_load 50 = .ok (.goto 4, 3) := by decide +kernel
theorem d_LazyMachine_load_53 : decode b_LazyMachine_load 53 = .ok (.iconst 0, 1) := by decide +kernel
theorem d_LazyMachine_load_54 : decode b_LazyMachine_load 54 = .ok (.invokevirtual 72, 3) := by decide +kernel
theorem d_LazyMachine_load_57 : decode b_LazyMachine_load 57 = .ok (.iload_n 1, 1) := by decide +kernel
theorem d_LazyMachine_load_58 : decode b_LazyMachine_load 58 = .ok (.ireturn, 1) := by decide +kernel
theorem d_LazyMachine_restart_0 : decode b_LazyMachine_restart 0 = .ok (.aload_n 0, 1) := by decide +kernel
theorem d_LazyMachine_restart_1 : decode b_LazyMachine_restart 1 = .ok (.getfield 33, 3) := by decide +kernel
theorem d_LazyMachine_restart_4 : decode b_LazyMachine_restart 4 = .ok (.ifCond .ne 13, 3) := by decide +kernel
theorem d_LazyMachine_restart_7 : decode b_LazyMachine_restart 7 = .ok (.new 76, 3) := by decide +kernel
theorem d_LazyMachine_restart_10 : decode b_LazyMachine_restart 10 = .ok (.dup, 1) := by decide +kernel
theorem d_LazyMachine_restart_11 : decode b_LazyMachine_restart 11 = .ok (.ldc 78, 2) := by decide +kernel
theorem d_LazyMachine_restart_13 : decode b_LazyMachine_restart 13 = .ok (.invokespecial 80, 3) := by decide +kernel
theorem d_LazyMachine_restart_16 : decode b_LazyMachine_restart 16 = .ok (.athrow, 1) := by decide +kernel
theorem d_LazyMachine_restart_17 : decode b_LazyMachine_restart 17 = .ok (.aload_n 0, 1) := by decide +kernel
theorem d_LazyMachine_restart_18 : decode b_LazyMachine_restart 18 = .ok (.iconst 1, 1) := by decide +kernel
theorem d_LazyMachine_restart_19 : decode b_LazyMachine_restart 19 = .ok (.invokevirtual 72, 3) := by decide +kernel
theorem d_LazyMachine_restart_22 : decode b_LazyMachine_restart 22 = .ok (.return_, 1) := by decide +kernel
theorem d_LazyMachine_result_0 : decode b_LazyMachine_result 0 = .ok (.aload_n 0, 1) := by decide +kernel
theorem d_LazyMachine_result_1 : decode b_LazyMachine_result 1 = .ok (.getfield 33, 3) := by decide +kernel
theorem d_LazyMachine_result_4 : decode b_LazyMachine_result 4 = .ok (.iconst 2, 1) := by decide +kernel
theorem d_LazyMachine_result_5 : decode b_LazyMachine_result 5 = .ok (.if_icmp .eq 13, 3) := by decide +kernel
theorem d_LazyMachine_result_8 : decode b_LazyMachine_result 8 = .ok (.new 76, 3) := by decide +kernel
theorem d_LazyMachine_result_11 : decode b_LazyMachine_result 11 = .ok (.dup, 1) := by decide +kernel
theorem d_LazyMachine_result_12 : decode b_LazyMachine_result 12 = .ok (.ldc 96, 2) := by decide +kernel
theorem d_LazyMachine_result_14 : decode b_LazyMachine_result 14 = .ok (.invokespecial 80, 3) := by decide +kernel
theorem d_LazyMachine_result_17 : decode b_LazyMachine_result 17 = .ok (.athrow, 1) := by decide +kernel
theorem d_LazyMachine_result_18 : decode b_LazyMachine_result 18 = .ok (.iload_n 1, 1) := by decide +kernel
theorem d_LazyMachine_result_19 : decode b_LazyMachine_result 19 = .ok (.ifCond .ne 8, 3) := by decide +kernel
theorem d_LazyMachine_result_22 : decode b_LazyMachine_result 22 = .ok (.aload_n 0, 1) := by decide +kernel
theorem d_LazyMachine_result_23 : decode b_LazyMachine_result 23 = .ok (.getfield 98, 3) := by decide +kernel
theorem d_LazyMachine_result_26 : decode b_LazyMachine_result 26 = .ok (.ireturn, 1) := by decide +kernel
theorem d_LazyMachine_result_27 : decode b_LazyMachine_result 27 = .ok (.iload_n 1, 1) := by decide +kernel
theorem d_LazyMachine_result_28 : decode b_LazyMachine_result 28 = .ok (.iconst 1, 1) := by decide +kernel
theorem d_LazyMachine_result_29 : decode b_LazyMachine_result 29 = .ok (.if_icmp .ne 10, 3) := by decide +kernel
theorem d_LazyMachine_result_32 : decode b_LazyMachine_result 32 = .ok (.aload_n 0, 1) := by decide +kernel
theorem d_LazyMachine_result_33 : decode b_LazyMachine_result 33 = .ok (.getfield 98, 3) := by decide +kernel
theorem d_LazyMachine_result_36 : decode b_LazyMachine_result 36 = .ok (.ifCond .eq 16, 3) := by decide +kernel
theorem d_LazyMachine_result_39 : decode b_LazyMachine_result 39 = .ok (.iload_n 1, 1) := by decide +kernel
theorem d_LazyMachine_result_40 : decode b_LazyMachine_result 40 = .ok (.iconst 2, 1) := by decide +kernel
theorem d_LazyMachine_result_41 : decode b_LazyMachine_result 41 = .ok (.if_icmp .ne 15, 3) := by decide +kernel
theorem d_LazyMachine_result_44 : decode b_LazyMachine_result 44 = .ok (.aload_n 0, 1) := by decide +kernel
theorem d_LazyMachine_result_45 : decode b_LazyMachine_result 45 = .ok (.getfield 98, 3) := by decide +kernel
theorem d_LazyMachine_result_48 : decode b_LazyMachine_result 48 = .ok (.iconst 1, 1) := by decide +kernel
theorem d_LazyMachine_result_49 : decode b_LazyMachine_result 49 = .ok (.if_icmp .ne 7, 3) := by decide +kernel
theorem d_LazyMachine_result_52 : decode b_LazyMachine_result 52 = .ok (.iconst 1, 1) := by decide +kernel
theorem d_LazyMachine_result_53 : decode b_LazyMachine_result 53 = .ok (.goto 4, 3) := by decide +kernel
theorem d_LazyMachine_result_56 : decode b_LazyMachine_result 56 = .ok (.iconst 0, 1) := by decide +kernel
theorem d_LazyMachine_result_57 : decode b_LazyMachine_result 57 = .ok (.istore_n 2, 1) := by decide +kernel
theorem d_LazyMachine_result_58 : decode b_LazyMachine_result 58 = .ok (.iload_n 2, 1) := by decide +kernel
theorem d_LazyMachine_result_59 : decode b_LazyMachine_result 59 = .ok (.ifCond .eq 10, 3) := by decide +kernel
theorem d_LazyMachine_result_62 : decode b_LazyMachine_result 62 = .ok (.aload_n 0, 1) := by decide +kernel
theorem d_LazyMachine_result_63 : decode b_LazyMachine_result 63 = .ok (.getfield 40, 3) := by decide +kernel
theorem d_LazyMachine_result_66 : decode b_LazyMachine_result 66 = .ok (.goto 4, 3) := by decide +kernel
theorem d_LazyMachine_result_69 : decode b_LazyMachine_result 69 = .ok (.iconst (-1), 1) := by decide +kernel
theorem d_LazyMachine_result_70 : decode b_LazyMachine_result 70 = .ok (.ireturn, 1) := by decide +kernel
theorem d_LazyMachine_into_0 : decode b_LazyMachine_into 0 = .ok (.aload_n 0, 1) := by decide +kernel
theorem d_LazyMachine_into_1 : decode b_LazyMachine_into 1 = .ok (.getfield 33, 3) := by decide +kernel
theorem d_LazyMachine_into_4 : decode b_LazyMachine_into 4 = .ok (.iconst 2, 1) := by decide +kernel
theorem d_LazyMachine_into_5 : decode b_LazyMachine_into 5 = .ok (.if_icmp .ne 11, 3) := by decide +kernel
theorem d_LazyMachine_into_8 : decode b_LazyMachine_into 8 = .ok (.aload_n 0, 1) := by decide +kernel
theorem d_LazyMachine_into_9 : decode b_LazyMachine_into 9 = .ok (.getfield 98, 3) := by decide +kernel
theorem d_LazyMachine_into_12 : decode b_LazyMachine_into 12 = .ok (.iconst 2, 1) := by decide +kernel
theorem d_LazyMachine_into_13 : decode b_LazyMachine_into 13 = .ok (.if_icmp .eq 13, 3) := by decide +kernel
theorem d_LazyMachine_into_16 : decode b_LazyMachine_into 16 = .ok (.new 76, 3) := by decide +kernel
theorem d_LazyMachine_into_19 : decode b_LazyMachine_into 19 = .ok (.dup, 1) := by decide +kernel
theorem d_LazyMachine_into_20 : decode b_LazyMachine_into 20 = .ok (.ldc 101, 2) := by decide +kernel
theorem d_LazyMachine_into_22 : decode b_LazyMachine_into 22 = .ok (.invokespecial 80, 3) := by decide +kernel
theorem d_LazyMachine_into_25 : decode b_LazyMachine_into 25 = .ok (.athrow, 1) := by decide +kernel
theorem d_LazyMachine_into_26 : decode b_LazyMachine_into 26 = .ok (.iload_n 1, 1) := by decide +kernel
theorem d_LazyMachine_into_27 : decode b_LazyMachine_into 27 = .ok (.ifCond .eq 18, 3) := by decide +kernel
theorem d_LazyMachine_into_30 : decode b_LazyMachine_into 30 = .ok (.iload_n 1, 1) := by decide +kernel
theorem d_LazyMachine_into_31 : decode b_LazyMachine_into 31 = .ok (.iconst 1, 1) := by decide +kernel
theorem d_LazyMachine_into_32 : decode b_LazyMachine_into 32 = .ok (.if_icmp .eq 13, 3) := by decide +kernel
theorem d_LazyMachine_into_35 : decode b_LazyMachine_into 35 = .ok (.new 46, 3) := by decide +kernel
theorem d_LazyMachine_into_38 : decode b_LazyMachine_into 38 = .ok (.dup, 1) := by decide +kernel
theorem d_LazyMachine_into_39 : decode b_LazyMachine_into 39 = .ok (.ldc 103, 2) := by decide +kernel
theorem d_LazyMachine_into_41 : decode b_LazyMachine_into 41 = .ok (.invokespecial 50, 3) := by decide +kernel
theorem d_LazyMachine_into_44 : decode b_LazyMachine_into 44 = .ok (.athrow, 1) := by decide +kernel
theorem d_LazyMachine_into_45 : decode b_LazyMachine_into 45 = .ok (.aload_n 0, 1) := by decide +kernel
theorem d_LazyMachine_into_46 : decode b_LazyMachine_into 46 = .ok (.aload_n 0, 1) := by decide +kernel
theorem d_LazyMachine_into_47 : decode b_LazyMachine_into 47 = .ok (.iload_n 1, 1) := by decide +kernel
theorem d_LazyMachine_into_48 : decode b_LazyMachine_into 48 = .ok (.ifCond .ne 10, 3) := by decide +kernel
theorem d_LazyMachine_into_51 : decode b_LazyMachine_into 51 = .ok (.aload_n 0, 1) := by decide +kernel
theorem d_LazyMachine_into_52 : decode b_LazyMachine_into 52 = .ok (.getfield 40, 3) := by decide +kernel
theorem d_LazyMachine_into_55 : decode b_LazyMachine_into 55 = .ok (.goto 7, 3) := by decide +kernel
theorem d_LazyMachine_into_58 : decode b_LazyMachine_into 58 = .ok (.aload_n 0, 1) := by decide +kernel
theorem d_LazyMachine_into_59 : decode b_LazyMachine_into 59 = .ok (.getfield 43, 3) := by decide +kernel
theorem d_LazyMachine_into_62 : decode b_LazyMachine_into 62 = .ok (.invokevirtual 105, 3) := by decide +kernel
theorem d_LazyMachine_into_65 : decode b_LazyMachine_into 65 = .ok (.putfield 33, 3) := by decide +kernel
theorem d_LazyMachine_into_68 : decode b_LazyMachine_into 68 = .ok (.aload_n 0, 1) := by decide +kernel
theorem d_LazyMachine_into_69 : decode b_LazyMachine_into 69 = .ok (.getfield 33, 3) := by decide +kernel
theorem d_LazyMachine_into_72 : decode b_LazyMachine_into 72 = .ok (.ireturn, 1) := by decide +kernel
theorem d_LazyMachine_apply_0 : decode b_LazyMachine_apply 0 = .ok (.aload_n 0, 1) := by decide +kernel
theorem d_LazyMachine_apply_1 : decode b_LazyMachine_apply 1 = .ok (.getfield 33, 3) := by decide +kernel
theorem d_LazyMachine_apply_4 : decode b_LazyMachine_apply 4 = .ok (.iconst 2, 1) := by decide +kernel
theorem d_LazyMachine_apply_5 : decode b_LazyMachine_apply 5 = .ok (.if_icmp .ne 11, 3) := by decide +kernel
theorem d_LazyMachine_apply_8 : decode b_LazyMachine_apply 8 = .ok (.aload_n 0, 1) := by decide +kernel
theorem d_LazyMachine_apply_9 : decode b_LazyMachine_apply 9 = .ok (.getfield 98, 3) := by decide +kernel
theorem d_LazyMachine_apply_12 : decode b_LazyMachine_apply 12 = .ok (.iconst 1, 1) := by decide +kernel
theorem d_LazyMachine_apply_13 : decode b_LazyMachine_apply 13 = .ok (.if_icmp .eq 13, 3) := by decide +kernel
theorem d_LazyMachine_apply_16 : decode b_LazyMachine_apply 16 = .ok (.new 76, 3) := by decide +kernel
theorem d_LazyMachine_apply_19 : decode b_LazyMachine_apply 19 = .ok (.dup, 1) := by decide +kernel
theorem d_LazyMachine_apply_20 : decode b_LazyMachine_apply 20 = .ok (.ldc 109, 2) := by decide +kernel
theorem d_LazyMachine_apply_22 : decode b_LazyMachine_apply 22 = .ok (.invokespecial 80, 3) := by decide +kernel
theorem d_LazyMachine_apply_25 : decode b_LazyMachine_apply 25 = .ok (.athrow, 1) := by decide +kernel
theorem d_LazyMachine_apply_26 : decode b_LazyMachine_apply 26 = .ok (.aload_n 0, 1) := by decide +kernel
theorem d_LazyMachine_apply_27 : decode b_LazyMachine_apply 27 = .ok (.iconst 2, 1) := by decide +kernel
theorem d_LazyMachine_apply_28 : decode b_LazyMachine_apply 28 = .ok (.invokevirtual 111, 3) := by decide +kernel
theorem d_LazyMachine_apply_31 : decode b_LazyMachine_apply 31 = .ok (.ifCond .eq 25, 3) := by decide +kernel
theorem d_LazyMachine_apply_34 : decode b_LazyMachine_apply 34 = .ok (.aload_n 0, 1) := by decide +kernel
theorem d_LazyMachine_apply_35 : decode b_LazyMachine_apply 35 = .ok (.aload_n 0, 1) := by decide +kernel
theorem d_LazyMachine_apply_36 : decode b_LazyMachine_apply 36 = .ok (.getfield 10, 3) := by decide +kernel
theorem d_LazyMachine_apply_39 : decode b_LazyMachine_apply 39 = .ok (.iconst 0, 1) := by decide +kernel
theorem d_LazyMachine_apply_40 : decode b_LazyMachine_apply 40 = .ok (.iload_n 1, 1) := by decide +kernel
theorem d_LazyMachine_apply_41 : decode b_LazyMachine_apply 41 = .ok (.iconst (-1), 1) := by decide +kernel
theorem d_LazyMachine_apply_42 : decode b_LazyMachine_apply 42 = .ok (.invokevirtual 115, 3) := by decide +kernel
theorem d_LazyMachine_apply_45 : decode b_LazyMachine_apply 45 = .ok (.invokevirtual 119, 3) := by decide +kernel
theorem d_LazyMachine_apply_48 : decode b_LazyMachine_apply 48 = .ok (.aload_n 0, 1) := by decide +kernel
theorem d_LazyMachine_apply_49 : decode b_LazyMachine_apply 49 = .ok (.iconst 1, 1) := by decide +kernel
theorem d_LazyMachine_apply_50 : decode b_LazyMachine_apply 50 = .ok (.putfield 33, 3) := by decide +kernel
theorem d_LazyMachine_apply_53 : decode b_LazyMachine_apply 53 = .ok (.goto 9, 3) := by decide +kernel
theorem d_LazyMachine_apply_56 : decode b_LazyMachine_apply 56 = .ok (.aload_n 0, 1) := by decide +kernel
theorem d_LazyMachine_apply_57 : decode b_LazyMachine_apply 57 = .ok (.bipush 6, 2) := by decide +kernel
theorem d_LazyMachine_apply_59 : decode b_LazyMachine_apply 59 = .ok (.putfield 33, 3) := by decide +kernel
theorem d_LazyMachine_apply_62 : decode b_LazyMachine_apply 62 = .ok (.aload_n 0, 1) := by decide +kernel
theorem d_LazyMachine_apply_63 : decode b_LazyMachine_apply 63 = .ok (.getfield 33, 3) := by decide +kernel
theorem d_LazyMachine_apply_66 : decode b_LazyMachine_apply 66 = .ok (.ireturn, 1) := by decide +kernel
theorem d_LazyMachine_count_0 : decode b_LazyMachine_count 0 = .ok (.iload_n 1, 1) := by decide +kernel
theorem d_LazyMachine_count_1 : decode b_LazyMachine_count 1 = .ok (.tableswitch 133 0 8 #[51, 59, 67, 72, 77, 82, 90, 102, 125], 51) := by decide +kernel
theorem d_LazyMachine_count_52 : decode b_LazyMachine_count 52 = .ok (.aload_n 0, 1) := by decide +kernel
theorem d_LazyMachine_count_53 : decode b_LazyMachine_count 53 = .ok (.getfield 26, 3) := by decide +kernel
theorem d_LazyMachine_count_56 : decode b_LazyMachine_count 56 = .ok (.invokevirtual 62, 3) := by decide +kernel
theorem d_LazyMachine_count_59 : decode b_LazyMachine_count 59 = .ok (.ireturn, 1) := by decide +kernel
theorem d_LazyMachine_count_60 : decode b_LazyMachine_count 60 = .ok (.aload_n 0, 1) := by decide +kernel
theorem d_LazyMachine_count_61 : decode b_LazyMachine_count 61 = .ok (.getfield 30, 3) := by decide +kernel
theorem d_LazyMachine_count_64 : decode b_LazyMachine_count 64 = .ok (.invokevirtual 62, 3) := by decide +kernel
theorem d_LazyMachine_count_67 : decode b_LazyMachine_count 67 = .ok (.ireturn, 1) := by decide +kernel
theorem d_LazyMachine_count_68 : decode b_LazyMachine_count 68 = .ok (.aload_n 0, 1) := by decide +kernel
theorem d_LazyMachine_count_69 : decode b_LazyMachine_count 69 = .ok (.getfield 33, 3) := by decide +kernel
theorem d_LazyMachine_count_72 : decode b_LazyMachine_count 72 = .ok (.ireturn, 1) := by decide +kernel
theorem d_LazyMachine_count_73 : decode b_LazyMachine_count 73 = .ok (.aload_n 0, 1) := by decide +kernel
theorem d_LazyMachine_count_74 : decode b_LazyMachine_count 74 = .ok (.getfield 93, 3) := by decide +kernel
theorem d_LazyMachine_count_77 : decode b_LazyMachine_count 77 = .ok (.ireturn, 1) := by decide +kernel
theorem d_LazyMachine_count_78 : decode b_LazyMachine_count 78 = .ok (.aload_n 0, 1) := by decide +kernel
theorem d_LazyMachine_count_79 : decode b_LazyMachine_count 79 = .ok (.getfield 122, 3) := by decide +kernel
theorem d_LazyMachine_count_82 : decode b_LazyMachine_count 82 = .ok (.ireturn, 1) := by decide +kernel
theorem d_LazyMachine_count_83 : decode b_LazyMachine_count 83 = .ok (.aload_n 0, 1) := by decide +kernel
theorem d_LazyMachine_count_84 : decode b_LazyMachine_count 84 = .ok (.getfield 19, 3) := by decide +kernel
theorem d_LazyMachine_count_87 : decode b_LazyMachine_count 87 = .ok (.invokevirtual 125, 3) := by decide +kernel
theorem d_LazyMachine_count_90 : decode b_LazyMachine_count 90 = .ok (.ireturn, 1) := by decide +kernel
theorem d_LazyMachine_count_91 : decode b_LazyMachine_count 91 = .ok (.aload_n 0, 1) := by decide +kernel
theorem d_LazyMachine_count_92 : decode b_LazyMachine_count 92 = .ok (.invokevirtual 126, 3) := by decide +kernel
theorem d_LazyMachine_count_95 : decode b_LazyMachine_count 95 = .ok (.aload_n 0, 1) := by decide +kernel
theorem d_LazyMachine_count_96 : decode b_LazyMachine_count 96 = .ok (.getfield 10, 3) := by decide +kernel
theorem d_LazyMachine_count_99 : decode b_LazyMachine_count 99 = .ok (.invokevirtual 129, 3) := by decide +kernel
theorem d_LazyMachine_count_102 : decode b_LazyMachine_count 102 = .ok (.ireturn, 1) := by decide +kernel
theorem d_LazyMachine_count_103 : decode b_LazyMachine_count 103 = .ok (.aload_n 0, 1) := by decide +kernel
theorem d_LazyMachine_count_104 : decode b_LazyMachine_count 104 = .ok (.getfield 33, 3) := by decide +kernel
theorem d_LazyMachine_count_107 : decode b_LazyMachine_count 107 = .ok (.ifCond .eq 10, 3) := by decide +kernel
theorem d_LazyMachine_count_110 : decode b_LazyMachine_count 110 = .ok (.aload_n 0, 1) := by decide +kernel
theorem d_LazyMachine_count_111 : decode b_LazyMachine_count 111 = .ok (.getfield 83, 3) := by decide +kernel
theorem d_LazyMachine_count_114 : decode b_LazyMachine_count 114 = .ok (.ifCond .eq 7, 3) := by decide +kernel
theorem d_LazyMachine_count_117 : decode b_LazyMachine_count 117 = .ok (.iconst (-1), 1) := by decide +kernel
theorem d_LazyMachine_count_118 : decode b_LazyMachine_count 118 = .ok (.goto 7, 3) := by decide +kernel
theorem d_LazyMachine_count_121 : decode b_LazyMachine_count 121 = .ok (.aload_n 0, 1) := by decide +kernel
theorem d_LazyMachine_count_122 : decode b_LazyMachine_count 122 = .ok (.getfield 132, 3) := by decide +kernel
theorem d_LazyMachine_count_125 : decode b_LazyMachine_count 125 = .ok (.ireturn, 1) := by decide +kernel
theorem d_LazyMachine_count_126 : decode b_LazyMachine_count 126 = .ok (.aload_n 0, 1) := by decide +kernel
theorem d_LazyMachine_count_127 : decode b_LazyMachine_count 127 = .ok (.getfield 19, 3) := by decide +kernel
theorem d_LazyMachine_count_130 : decode b_LazyMachine_count 130 = .ok (.invokevirtual 135, 3) := by decide +kernel
theorem d_LazyMachine_count_133 : decode b_LazyMachine_count 133 = .ok (.ireturn, 1) := by decide +kernel
theorem d_LazyMachine_count_134 : decode b_LazyMachine_count 134 = .ok (.iconst (-1), 1) := by decide +kernel
theorem d_LazyMachine_count_135 : decode b_LazyMachine_count 135 = .ok (.ireturn, 1) := by decide +kernel
