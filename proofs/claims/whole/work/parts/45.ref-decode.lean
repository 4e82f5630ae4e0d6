theorem d_Model_run_0 : decode b_Model_run 0 = .ok (.aload_n 0, 1) := by decide +kernel
theorem d_Model_run_1 : decode b_Model_run 1 = .ok (.aload_n 0, 1) := by decide +kernel
theorem d_Model_run_2 : decode b_Model_run 2 = .ok (.getfield 70, 3) := by decide +kernel
theorem d_Model_run_5 : decode b_Model_run 5 = .ok (.ifCond .ne 7, 3) := by decide +kernel
theorem d_Model_run_8 : decode b_Model_run 8 = .ok (.iconst 1, 1) := by decide +kernel
theorem d_Model_run_9 : decode b_Model_run 9 = .ok (.goto 4, 3) := by decide +kernel
theorem d_Model_run_12 : decode b_Model_run 12 = .ok (.iconst 0, 1) := by decide +kernel
theorem d_Model_run_13 : decode b_Model_run 13 = .ok (.aload_n 0, 1) := by decide +kernel
theorem d_Model_run_14 : decode b_Model_run 14 = .ok (.getfield 70, 3) := by decide +kernel
theorem d_Model_run_17 : decode b_Model_run 17 = .ok (.ifCond .le 18, 3) := by decide +kernel
theorem d_Model_run_20 : decode b_Model_run 20 = .ok (.iload_n 1, 1) := by decide +kernel
theorem d_Model_run_21 : decode b_Model_run 21 = .ok (.ifCond .lt 10, 3) := by decide +kernel
theorem d_Model_run_24 : decode b_Model_run 24 = .ok (.iload_n 1, 1) := by decide +kernel
theorem d_Model_run_25 : decode b_Model_run 25 = .ok (.sipush 5000, 3) := by decide +kernel
theorem d_Model_run_28 : decode b_Model_run 28 = .ok (.if_icmp .le 7, 3) := by decide +kernel
theorem d_Model_run_31 : decode b_Model_run 31 = .ok (.iconst 1, 1) := by decide +kernel
theorem d_Model_run_32 : decode b_Model_run 32 = .ok (.goto 4, 3) := by decide +kernel
theorem d_Model_run_35 : decode b_Model_run 35 = .ok (.iconst 0, 1) := by decide +kernel
theorem d_Model_run_36 : decode b_Model_run 36 = .ok (.invokevirtual 60, 3) := by decide +kernel
theorem d_Model_run_39 : decode b_Model_run 39 = .ok (.ifCond .eq 5, 3) := by decide +kernel
theorem d_Model_run_42 : decode b_Model_run 42 = .ok (.iconst 0, 1) := by decide +kernel
theorem d_Model_run_43 : decode b_Model_run 43 = .ok (.ireturn, 1) := by decide +kernel
theorem d_Model_run_44 : decode b_Model_run 44 = .ok (.iconst 0, 1) := by decide +kernel
theorem d_Model_run_45 : decode b_Model_run 45 = .ok (.istore_n 2, 1) := by decide +kernel
theorem d_Model_run_46 : decode b_Model_run 46 = .ok (.iload_n 2, 1) := by decide +kernel
theorem d_Model_run_47 : decode b_Model_run 47 = .ok (.iload_n 1, 1) := by decide +kernel
theorem d_Model_run_48 : decode b_Model_run 48 = .ok (.if_icmp .ge 54, 3) := by decide +kernel
theorem d_Model_run_51 : decode b_Model_run 51 = .ok (.aload_n 0, 1) := by decide +kernel
theorem d_Model_run_52 : decode b_Model_run 52 = .ok (.getfield 70, 3) := by decide +kernel
theorem d_Model_run_55 : decode b_Model_run 55 = .ok (.iconst 1, 1) := by decide +kernel
theorem d_Model_run_56 : decode b_Model_run 56 = .ok (.if_icmp .ne 46, 3) := by decide +kernel
theorem d_Model_run_59 : decode b_Model_run 59 = .ok (.aload_n 0, 1) := by decide +kernel
theorem d_Model_run_60 : decode b_Model_run 60 = .ok (.getfield 92, 3) := by decide +kernel
theorem d_Model_run_63 : decode b_Model_run 63 = .ok (.ifCond .eq 10, 3) := by decide +kernel
theorem d_Model_run_66 : decode b_Model_run 66 = .ok (.aload_n 0, 1) := by decide +kernel
theorem d_Model_run_67 : decode b_Model_run 67 = .ok (.invokevirtual 170, 3) := by decide +kernel
theorem d_Model_run_70 : decode b_Model_run 70 = .ok (.goto 7, 3) := by decide +kernel
theorem d_Model_run_73 : decode b_Model_run 73 = .ok (.aload_n 0, 1) := by decide +kernel
theorem d_Model_run_74 : decode b_Model_run 74 = .ok (.invokevirtual 173, 3) := by decide +kernel
theorem d_Model_run_77 : decode b_Model_run 77 = .ok (.istore_n 3, 1) := by decide +kernel
theorem d_Model_run_78 : decode b_Model_run 78 = .ok (.aload_n 0, 1) := by decide +kernel
theorem d_Model_run_79 : decode b_Model_run 79 = .ok (.dup, 1) := by decide +kernel
theorem d_Model_run_80 : decode b_Model_run 80 = .ok (.getfield 80, 3) := by decide +kernel
theorem d_Model_run_83 : decode b_Model_run 83 = .ok (.iload_n 3, 1) := by decide +kernel
theorem d_Model_run_84 : decode b_Model_run 84 = .ok (.ifCond .eq 7, 3) := by decide +kernel
theorem d_Model_run_87 : decode b_Model_run 87 = .ok (.iconst 0, 1) := by decide +kernel
theorem d_Model_run_88 : decode b_Model_run 88 = .ok (.goto 4, 3) := by decide +kernel
theorem d_Model_run_91 : decode b_Model_run 91 = .ok (.iconst 1, 1) := by decide +kernel
theorem d_Model_run_92 : decode b_Model_run 92 = .ok (.iadd, 1) := by decide +kernel
theorem d_Model_run_93 : decode b_Model_run 93 = .ok (.putfield 80, 3) := by decide +kernel
theorem d_Model_run_96 : decode b_Model_run 96 = .ok (.iinc 2 1, 3) := by decide +kernel
theorem d_Model_run_99 : decode b_Model_run 99 = .ok (.goto (-53), 3) := by decide +kernel
theorem d_Model_run_102 : decode b_Model_run 102 = .ok (.aload_n 0, 1) := by decide +kernel
theorem d_Model_run_103 : decode b_Model_run 103 = .ok (.getfield 70, 3) := by decide +kernel
theorem d_Model_run_106 : decode b_Model_run 106 = .ok (.ireturn, 1) := by decide +kernel
theorem d_Model_into_0 : decode b_Model_into 0 = .ok (.aload_n 0, 1) := by decide +kernel
theorem d_Model_into_1 : decode b_Model_into 1 = .ok (.getfield 70, 3) := by decide +kernel
theorem d_Model_into_4 : decode b_Model_into 4 = .ok (.iconst 2, 1) := by decide +kernel
theorem d_Model_into_5 : decode b_Model_into 5 = .ok (.if_icmp .ne 15, 3) := by decide +kernel
theorem d_Model_into_8 : decode b_Model_into 8 = .ok (.aload_n 0, 1) := by decide +kernel
theorem d_Model_into_9 : decode b_Model_into 9 = .ok (.getfield 109, 3) := by decide +kernel
theorem d_Model_into_12 : decode b_Model_into 12 = .ok (.iconst 2, 1) := by decide +kernel
theorem d_Model_into_13 : decode b_Model_into 13 = .ok (.if_icmp .ne 7, 3) := by decide +kernel
theorem d_Model_into_16 : decode b_Model_into 16 = .ok (.iconst 1, 1) := by decide +kernel
theorem d_Model_into_17 : decode b_Model_into 17 = .ok (.goto 4, 3) := by decide +kernel
theorem d_Model_into_20 : decode b_Model_into 20 = .ok (.iconst 0, 1) := by decide +kernel
theorem d_Model_into_21 : decode b_Model_into 21 = .ok (.istore_n 2, 1) := by decide +kernel
theorem d_Model_into_22 : decode b_Model_into 22 = .ok (.aload_n 0, 1) := by decide +kernel
theorem d_Model_into_23 : decode b_Model_into 23 = .ok (.iload_n 2, 1) := by decide +kernel
theorem d_Model_into_24 : decode b_Model_into 24 = .ok (.ifCond .ne 7, 3) := by decide +kernel
theorem d_Model_into_27 : decode b_Model_into 27 = .ok (.iconst 1, 1) := by decide +kernel
theorem d_Model_into_28 : decode b_Model_into 28 = .ok (.goto 4, 3) := by decide +kernel
theorem d_Model_into_31 : decode b_Model_into 31 = .ok (.iconst 0, 1) := by decide +kernel
theorem d_Model_into_32 : decode b_Model_into 32 = .ok (.iload_n 2, 1) := by decide +kernel
theorem d_Model_into_33 : decode b_Model_into 33 = .ok (.ifCond .eq 16, 3) := by decide +kernel
theorem d_Model_into_36 : decode b_Model_into 36 = .ok (.iload_n 1, 1) := by decide +kernel
theorem d_Model_into_37 : decode b_Model_into 37 = .ok (.ifCond .lt 8, 3) := by decide +kernel
theorem d_Model_into_40 : decode b_Model_into 40 = .ok (.iload_n 1, 1) := by decide +kernel
theorem d_Model_into_41 : decode b_Model_into 41 = .ok (.iconst 1, 1) := by decide +kernel
theorem d_Model_into_42 : decode b_Model_into 42 = .ok (.if_icmp .le 7, 3) := by decide +kernel
theorem d_Model_into_45 : decode b_Model_into 45 = .ok (.iconst 1, 1) := by decide +kernel
theorem d_Model_into_46 : decode b_Model_into 46 = .ok (.goto 4, 3) := by decide +kernel
theorem d_Model_into_49 : decode b_Model_into 49 = .ok (.iconst 0, 1) := by decide +kernel
theorem d_Model_into_50 : decode b_Model_into 50 = .ok (.invokevirtual 60, 3) := by decide +kernel
theorem d_Model_into_53 : decode b_Model_into 53 = .ok (.ifCond .eq 5, 3) := by decide +kernel
theorem d_Model_into_56 : decode b_Model_into 56 = .ok (.iconst 0, 1) := by decide +kernel
theorem d_Model_into_57 : decode b_Model_into 57 = .ok (.ireturn, 1) := by decide +kernel
theorem d_Model_into_58 : decode b_Model_into 58 = .ok (.aload_n 0, 1) := by decide +kernel
theorem d_Model_into_59 : decode b_Model_into 59 = .ok (.iconst 1, 1) := by decide +kernel
theorem d_Model_into_60 : decode b_Model_into 60 = .ok (.putfield 70, 3) := by decide +kernel
theorem d_Model_into_63 : decode b_Model_into 63 = .ok (.aload_n 0, 1) := by decide +kernel
theorem d_Model_into_64 : decode b_Model_into 64 = .ok (.iload_n 1, 1) := by decide +kernel
theorem d_Model_into_65 : decode b_Model_into 65 = .ok (.ifCond .ne 10, 3) := by decide +kernel
theorem d_Model_into_68 : decode b_Model_into 68 = .ok (.aload_n 0, 1) := by decide +kernel
theorem d_Model_into_69 : decode b_Model_into 69 = .ok (.getfield 112, 3) := by decide +kernel
theorem d_Model_into_72 : decode b_Model_into 72 = .ok (.goto 7, 3) := by decide +kernel
theorem d_Model_into_75 : decode b_Model_into 75 = .ok (.aload_n 0, 1) := by decide +kernel
theorem d_Model_into_76 : decode b_Model_into 76 = .ok (.getfield 115, 3) := by decide +kernel
theorem d_Model_into_79 : decode b_Model_into 79 = .ok (.iconst 1, 1) := by decide +kernel
theorem d_Model_into_80 : decode b_Model_into 80 = .ok (.invokevirtual 151, 3) := by decide +kernel
theorem d_Model_into_83 : decode b_Model_into 83 = .ok (.pop, 1) := by decide +kernel
theorem d_Model_into_84 : decode b_Model_into 84 = .ok (.aload_n 0, 1) := by decide +kernel
theorem d_Model_into_85 : decode b_Model_into 85 = .ok (.getfield 70, 3) := by decide +kernel
theorem d_Model_into_88 : decode b_Model_into 88 = .ok (.ireturn, 1) := by decide +kernel
theorem d_Model_apply_0 : decode b_Model_apply 0 = .ok (.aload_n 0, 1) := by decide +kernel
theorem d_Model_apply_1 : decode b_Model_apply 1 = .ok (.aload_n 0, 1) := by decide +kernel
theorem d_Model_apply_2 : decode b_Model_apply 2 = .ok (.getfield 70, 3) := by decide +kernel
theorem d_Model_apply_5 : decode b_Model_apply 5 = .ok (.iconst 2, 1) := by decide +kernel
theorem d_Model_apply_6 : decode b_Model_apply 6 = .ok (.if_icmp .ne 11, 3) := by decide +kernel
theorem d_Model_apply_9 : decode b_Model_apply 9 = .ok (.aload_n 0, 1) := by decide +kernel
theorem d_Model_apply_10 : decode b_Model_apply 10 = .ok (.getfield 109, 3) := by decide +kernel
theorem d_Model_apply_13 : decode b_Model_apply 13 = .ok (.iconst 1, 1) := by decide +kernel
theorem d_Model_apply_14 : decode b_Model_apply 14 = .ok (.if_icmp .eq 7, 3) := by decide +kernel
theorem d_Model_apply_17 : decode b_Model_apply 17 = .ok (.iconst 1, 1) := by decide +kernel
theorem d_Model_apply_18 : decode b_Model_apply 18 = .ok (.goto 4, 3) := by decide +kernel
theorem d_Model_apply_21 : decode b_Model_apply 21 = .ok (.iconst 0, 1) := by decide +kernel
theorem d_Model_apply_22 : decode b_Model_apply 22 = .ok (.iconst 0, 1) := by decide +kernel
theorem d_Model_apply_23 : decode b_Model_apply 23 = .ok (.invokevirtual 60, 3) := by decide +kernel
theorem d_Model_apply_26 : decode b_Model_apply 26 = .ok (.ifCond .eq 5, 3) := by decide +kernel
theorem d_Model_apply_29 : decode b_Model_apply 29 = .ok (.iconst 0, 1) := by decide +kernel
theorem d_Model_apply_30 : decode b_Model_apply 30 = .ok (.ireturn, 1) := by decide +kernel
theorem d_Model_apply_31 : decode b_Model_apply 31 = .ok (.aload_n 0, 1) := by decide +kernel
theorem d_Model_apply_32 : decode b_Model_apply 32 = .ok (.iconst 1, 1) := by decide +kernel
theorem d_Model_apply_33 : decode b_Model_apply 33 = .ok (.putfield 70, 3) := by decide +kernel
theorem d_Model_apply_36 : decode b_Model_apply 36 = .ok (.aload_n 0, 1) := by decide +kernel
theorem d_Model_apply_37 : decode b_Model_apply 37 = .ok (.iconst 2, 1) := by decide +kernel
theorem d_Model_apply_38 : decode b_Model_apply 38 = .ok (.invokevirtual 158, 3) := by decide +kernel
theorem d_Model_apply_41 : decode b_Model_apply 41 = .ok (.ifCond .eq 8, 3) := by decide +kernel
theorem d_Model_apply_44 : decode b_Model_apply 44 = .ok (.aload_n 0, 1) := by decide +kernel
theorem d_Model_apply_45 : decode b_Model_apply 45 = .ok (.getfield 70, 3) := by decide +kernel
theorem d_Model_apply_48 : decode b_Model_apply 48 = .ok (.ireturn, 1) := by decide +kernel
theorem d_Model_apply_49 : decode b_Model_apply 49 = .ok (.aload_n 0, 1) := by decide +kernel
theorem d_Model_apply_50 : decode b_Model_apply 50 = .ok (.iconst 0, 1) := by decide +kernel
theorem d_Model_apply_51 : decode b_Model_apply 51 = .ok (.iload_n 1, 1) := by decide +kernel
theorem d_Model_apply_52 : decode b_Model_apply 52 = .ok (.iconst 0, 1) := by decide +kernel
theorem d_Model_apply_53 : decode b_Model_apply 53 = .ok (.invokevirtual 125, 3) := by decide +kernel
theorem d_Model_apply_56 : decode b_Model_apply 56 = .ok (.istore_n 2, 1) := by decide +kernel
theorem d_Model_apply_57 : decode b_Model_apply 57 = .ok (.aload_n 0, 1) := by decide +kernel
theorem d_Model_apply_58 : decode b_Model_apply 58 = .ok (.getfield 115, 3) := by decide +kernel
theorem d_Model_apply_61 : decode b_Model_apply 61 = .ok (.istore_n 3, 1) := by decide +kernel
theorem d_Model_apply_62 : decode b_Model_apply 62 = .ok (.aload_n 0, 1) := by decide +kernel
theorem d_Model_apply_63 : decode b_Model_apply 63 = .ok (.aload_n 0, 1) := by decide +kernel
theorem d_Model_apply_64 : decode b_Model_apply 64 = .ok (.getfield 22, 3) := by decide +kernel
theorem d_Model_apply_67 : decode b_Model_apply 67 = .ok (.iconst 3, 1) := by decide +kernel
theorem d_Model_apply_68 : decode b_Model_apply 68 = .ok (.aload_n 0, 1) := by decide +kernel
theorem d_Model_apply_69 : decode b_Model_apply 69 = .ok (.getfield 112, 3) := by decide +kernel
theorem d_Model_apply_72 : decode b_Model_apply 72 = .ok (.imul, 1) := by decide +kernel
theorem d_Model_apply_73 : decode b_Model_apply 73 = .ok (.iaload, 1) := by decide +kernel
theorem d_Model_apply_74 : decode b_Model_apply 74 = .ok (.aload_n 0, 1) := by decide +kernel
theorem d_Model_apply_75 : decode b_Model_apply 75 = .ok (.iconst 5, 1) := by decide +kernel
theorem d_Model_apply_76 : decode b_Model_apply 76 = .ok (.iload_n 2, 1) := by decide +kernel
theorem d_Model_apply_77 : decode b_Model_apply 77 = .ok (.iload_n 3, 1) := by decide +kernel
theorem d_Model_apply_78 : decode b_Model_apply 78 = .ok (.invokevirtual 125, 3) := by decide +kernel
theorem d_Model_apply_81 : decode b_Model_apply 81 = .ok (.invokevirtual 147, 3) := by decide +kernel
theorem d_Model_apply_84 : decode b_Model_apply 84 = .ok (.aload_n 0, 1) := by decide +kernel
theorem d_Model_apply_85 : decode b_Model_apply 85 = .ok (.getfield 70, 3) := by decide +kernel
theorem d_Model_apply_88 : decode b_Model_apply 88 = .ok (.ireturn, 1) := by decide +kernel
