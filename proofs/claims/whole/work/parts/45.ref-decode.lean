theorem d_Model_run_0 : decode b_Model_run 0 = .ok (.aload_n 0, 1) := by decide +kernel
theorem d_Model_run_1 : decode b_Model_run 1 = .ok (.aload_n 0, 1) := by decide +kernel
theorem d_Model_run_2 : decode b_Model_run 2 = .ok (.getfield 70, 3) := by decide +kernel
theorem d_Model_run_5 : decode b_Model_run 5 = .ok (.ifCond .ne 7, 3) := by decide +kernel
theorem d_Model_run_8 : decode b_Model_run 8 = .ok (.iconst 1, 1) := by decide +kernel
theorem d_Model_run_9 : decode b_Model_run 9 = .ok (.goto 4, 3) := by decide +kernel
theorem d_Model_run_12 : decode b_Model_run 12 = .ok (.iconst 0, 1) := by decide +kernel
theorem d_Model_run_13 : decode b_Model_run 13 = .ok (.aload_n 0, 1) := by decide +kernel
theorem d_Model_run_14 : decode b_Model_run 14 = .ok (.getfield 70, 3) := by decide +kernel
theorem d_Model_run_17 : decode b_Model_run 17 = .ok (.ifCond .le 18, 3) := by decide +kernel
theorem d_Model_run_20 : decode b_Model_run 20 = .ok (.iload_n 1, 1) := by decide +kernel
theorem d_Model_run_21 : decode b_Model_run 21 = .ok (.ifCond .lt 10, 3) := by decide +kernel
theorem d_Model_run_24 : decode b_Model_run 24 = .ok (.iload_n 1, 1) := by decide +kernel
theorem d_Model_run_25 : decode b_Model_run 25 = .ok (.sipush 5000, 3) := by decide +kernel
theorem d_Model_run_28 : decode b_Model_run 28 = .ok (.if_icmp .le 7, 3) := by decide +kernel
theorem d_Model_run_31 : decode b_Model_run 31 = .ok (.iconst 1, 1) := by decide +kernel
theorem d_Model_run_32 : decode b_Model_run 32 = .ok (.goto 4, 3) := by decide +kernel
theorem d_Model_run_35 : decode b_Model_run 35 = .ok (.iconst 0, 1) := by decide +kernel
theorem d_Model_run_36 : decode b_Model_run 36 = .ok (.invokevirtual 60, 3) := by decide +kernel
theorem d_Model_run_39 : decode b_Model_run 39 = .ok (.ifCond .eq 5, 3) := by decide +kernel
theorem d_Model_run_42 : decode b_Model_run 42 = .ok (.iconst 0, 1) := by decide +kernel
theorem d_Model_run_43 : decode b_Model_run 43 = .ok (.ireturn, 1) := by decide +kernel
theorem d_Model_run_44 : decode b_Model_run 44 = .ok (.iconst 0, 1) := by decide +kernel
theorem d_Model_run_45 : decode b_Model_run 45 = .ok (.istore_n 2, 1) := by decide +kernel
theorem d_Model_run_46 : decode b_Model_run 46 = .ok (.iload_n 2, 1) := by decide +kernel
theorem d_Model_run_47 : decode b_Model_run 47 = .ok (.iload_n 1, 1) := by decide +kernel
theorem d_Model_run_48 : decode b_Model_run 48 = .ok (.if_icmp .ge 54, 3) := by decide +kernel
theorem d_Model_run_51 : decode b_Model_run 51 = .ok (.aload_n 0, 1) := by decide +kernel
theorem d_Model_run_52 : decode b_Model_run 52 = .ok (.getfield 70, 3) := by decide +kernel
theorem d_Model_run_55 : decode b_Model_run 55 = .ok (.iconst 1, 1) := by decide +kernel
theorem d_Model_run_56 : decode b_Model_run 56 = .ok (.if_icmp .ne 46, 3) := by decide +kernel
theorem d_Model_run_59 : decode b_Model_run 59 = .ok (.aload_n 0, 1) := by decide +kernel
theorem d_Model_run_60 : decode b_Model_run 60 = .ok (.getfield 92, 3) := by decide +kernel
theorem d_Model_run_63 : decode b_Model_run 63 = .ok (.ifCond .eq 10, 3) := by decide +kernel
theorem d_Model_run_66 : decode b_Model_run 66 = .ok (.aload_n 0, 1) := by decide +kernel
theorem d_Model_run_67 : decode b_Model_run 67 = .ok (.invokevirtual 170, 3) := by decide +kernel
theorem d_Model_run_70 : decode b_Model_run 70 = .ok (.goto 7, 3) := by decide +kernel
theorem d_Model_run_73 : decode b_Model_run 73 = .ok (.aload_n 0, 1) := by decide +kernel
theorem d_Model_run_74 : decode b_Model_run 74 = .ok (.invokevirtual 173, 3) := by decide +kernel
theorem d_Model_run_77 : decode b_Model_run 77 = .ok (.istore_n 3, 1) := by decide +kernel
theorem d_Model_run_78 : decode b_Model_run 78 = .ok (.aload_n 0, 1) := by decide +kernel
theorem d_Model_run_79 : decode b_Model_run 79 = .ok (.dup, 1) := by decide +kernel
theorem d_Model_run_80 : decode b_Model_run 80 = .ok (.getfield 80, 3) := by decide +kernel
theorem d_Model_run_83 : decode b_Model_run 83 = .ok (.iload_n 3, 1) := by decide +kernel
theorem d_Model_run_84 : decode b_Model_run 84 = .ok (.ifCond .eq 7, 3) := by decide +kernel
theorem d_Model_run_87 : decode b_Model_run 87 = .ok (.iconst 0, 1) := by decide +kernel
theorem d_Model_run_88 : decode b_Model_run 88 = .ok (.goto 4, 3) := by decide +kernel
theorem d_Model_run_91 : decode b_Model_run 91 = .ok (.iconst 1, 1) := by decide +kernel
theorem d_Model_run_92 : decode b_Model_run 92 = .ok (.iadd, 1) := by decide +kernel
theorem d_Model_run_93 : decode b_Model_run 93 = .ok (.putfield 80, 3) := by decide +kernel
theorem d_Model_run_96 : decode b_Model_run 96 = .ok (.iinc 2 1, 3) := by decide +kernel
theorem d_Model_run_99 : decode b_Model_run 99 = .ok (.goto (-53), 3) := by decide +kernel
theorem d_Model_run_102 : decode b_Model_run 102 = .ok (.aload_n 0, 1) := by decide +kernel
theorem d_Model_run_103 : decode b_Model_run 103 = .ok (.getfield 70, 3) := by decide +kernel
theorem d_Model_run_106 : decode b_Model_run 106 = .ok (.ireturn, 1) := by decide +kernel
