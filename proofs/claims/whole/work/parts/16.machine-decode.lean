theorem d_LazyMachine_ask_0 : decode b_LazyMachine_ask 0 = .ok (.aload_n 0, 1) := by decide +kernel
theorem d_LazyMachine_ask_1 : decode b_LazyMachine_ask 1 = .ok (.getfield 10, 3) := by decide +kernel
theorem d_LazyMachine_ask_4 : decode b_LazyMachine_ask 4 = .ok (.iload_n 1, 1) := by decide +kernel
theorem d_LazyMachine_ask_5 : decode b_LazyMachine_ask 5 = .ok (.invokevirtual 224, 3) := by decide +kernel
theorem d_LazyMachine_ask_8 : decode b_LazyMachine_ask 8 = .ok (.istore_n 2, 1) := by decide +kernel
theorem d_LazyMachine_ask_9 : decode b_LazyMachine_ask 9 = .ok (.iload_n 2, 1) := by decide +kernel
theorem d_LazyMachine_ask_10 : decode b_LazyMachine_ask 10 = .ok (.iconst 4, 1) := by decide +kernel
theorem d_LazyMachine_ask_11 : decode b_LazyMachine_ask 11 = .ok (.if_icmp .ne 5, 3) := by decide +kernel
theorem d_LazyMachine_ask_14 : decode b_LazyMachine_ask 14 = .ok (.iconst 4, 1) := by decide +kernel
theorem d_LazyMachine_ask_15 : decode b_LazyMachine_ask 15 = .ok (.ireturn, 1) := by decide +kernel
theorem d_LazyMachine_ask_16 : decode b_LazyMachine_ask 16 = .ok (.aload_n 0, 1) := by decide +kernel
theorem d_LazyMachine_ask_17 : decode b_LazyMachine_ask 17 = .ok (.getfield 10, 3) := by decide +kernel
theorem d_LazyMachine_ask_20 : decode b_LazyMachine_ask 20 = .ok (.iload_n 1, 1) := by decide +kernel
theorem d_LazyMachine_ask_21 : decode b_LazyMachine_ask 21 = .ok (.invokevirtual 227, 3) := by decide +kernel
theorem d_LazyMachine_ask_24 : decode b_LazyMachine_ask 24 = .ok (.istore_n 3, 1) := by decide +kernel
theorem d_LazyMachine_ask_25 : decode b_LazyMachine_ask 25 = .ok (.aload_n 0, 1) := by decide +kernel
theorem d_LazyMachine_ask_26 : decode b_LazyMachine_ask 26 = .ok (.getfield 10, 3) := by decide +kernel
theorem d_LazyMachine_ask_29 : decode b_LazyMachine_ask 29 = .ok (.iload_n 1, 1) := by decide +kernel
theorem d_LazyMachine_ask_30 : decode b_LazyMachine_ask 30 = .ok (.invokevirtual 230, 3) := by decide +kernel
theorem d_LazyMachine_ask_33 : decode b_LazyMachine_ask 33 = .ok (.istore 4, 2) := by decide +kernel
theorem d_LazyMachine_ask_35 : decode b_LazyMachine_ask 35 = .ok (.iload_n 2, 1) := by decide +kernel
theorem d_LazyMachine_ask_36 : decode b_LazyMachine_ask 36 = .ok (.iconst 3, 1) := by decide +kernel
theorem d_LazyMachine_ask_37 : decode b_LazyMachine_ask 37 = .ok (.if_icmp .eq 12, 3) := by decide +kernel
theorem d_LazyMachine_ask_40 : decode b_LazyMachine_ask 40 = .ok (.aload_n 0, 1) := by decide +kernel
theorem d_LazyMachine_ask_41 : decode b_LazyMachine_ask 41 = .ok (.iload_n 2, 1) := by decide +kernel
theorem d_LazyMachine_ask_42 : decode b_LazyMachine_ask 42 = .ok (.iload_n 3, 1) := by decide +kernel
theorem d_LazyMachine_ask_43 : decode b_LazyMachine_ask 43 = .ok (.iload 4, 2) := by decide +kernel
theorem d_LazyMachine_ask_45 : decode b_LazyMachine_ask 45 = .ok (.invokevirtual 156, 3) := by decide +kernel
theorem d_LazyMachine_ask_48 : decode b_LazyMachine_ask 48 = .ok (.ireturn, 1) := by decide +kernel
theorem d_LazyMachine_ask_49 : decode b_LazyMachine_ask 49 = .ok (.aload_n 0, 1) := by decide +kernel
theorem d_LazyMachine_ask_50 : decode b_LazyMachine_ask 50 = .ok (.getfield 19, 3) := by decide +kernel
theorem d_LazyMachine_ask_53 : decode b_LazyMachine_ask 53 = .ok (.invokevirtual 174, 3) := by decide +kernel
theorem d_LazyMachine_ask_56 : decode b_LazyMachine_ask 56 = .ok (.ifCond .eq 5, 3) := by decide +kernel
theorem d_LazyMachine_ask_59 : decode b_LazyMachine_ask 59 = .ok (.iconst 5, 1) := by decide +kernel
theorem d_LazyMachine_ask_60 : decode b_LazyMachine_ask 60 = .ok (.ireturn, 1) := by decide +kernel
theorem d_LazyMachine_ask_61 : decode b_LazyMachine_ask 61 = .ok (.aload_n 0, 1) := by decide +kernel
theorem d_LazyMachine_ask_62 : decode b_LazyMachine_ask 62 = .ok (.getfield 10, 3) := by decide +kernel
theorem d_LazyMachine_ask_65 : decode b_LazyMachine_ask 65 = .ok (.iload_n 1, 1) := by decide +kernel
theorem d_LazyMachine_ask_66 : decode b_LazyMachine_ask 66 = .ok (.iconst 4, 1) := by decide +kernel
theorem d_LazyMachine_ask_67 : decode b_LazyMachine_ask 67 = .ok (.iconst (-1), 1) := by decide +kernel
theorem d_LazyMachine_ask_68 : decode b_LazyMachine_ask 68 = .ok (.iconst (-1), 1) := by decide +kernel
theorem d_LazyMachine_ask_69 : decode b_LazyMachine_ask 69 = .ok (.invokevirtual 199, 3) := by decide +kernel
theorem d_LazyMachine_ask_72 : decode b_LazyMachine_ask 72 = .ok (.aload_n 0, 1) := by decide +kernel
theorem d_LazyMachine_ask_73 : decode b_LazyMachine_ask 73 = .ok (.dup, 1) := by decide +kernel
theorem d_LazyMachine_ask_74 : decode b_LazyMachine_ask 74 = .ok (.getfield 122, 3) := by decide +kernel
theorem d_LazyMachine_ask_77 : decode b_LazyMachine_ask 77 = .ok (.iconst 1, 1) := by decide +kernel
theorem d_LazyMachine_ask_78 : decode b_LazyMachine_ask 78 = .ok (.iadd, 1) := by decide +kernel
theorem d_LazyMachine_ask_79 : decode b_LazyMachine_ask 79 = .ok (.putfield 122, 3) := by decide +kernel
theorem d_LazyMachine_ask_82 : decode b_LazyMachine_ask 82 = .ok (.aload_n 0, 1) := by decide +kernel
theorem d_LazyMachine_ask_83 : decode b_LazyMachine_ask 83 = .ok (.getfield 19, 3) := by decide +kernel
theorem d_LazyMachine_ask_86 : decode b_LazyMachine_ask 86 = .ok (.iconst 0, 1) := by decide +kernel
theorem d_LazyMachine_ask_87 : decode b_LazyMachine_ask 87 = .ok (.iload_n 1, 1) := by decide +kernel
theorem d_LazyMachine_ask_88 : decode b_LazyMachine_ask 88 = .ok (.iconst (-1), 1) := by decide +kernel
theorem d_LazyMachine_ask_89 : decode b_LazyMachine_ask 89 = .ok (.invokevirtual 178, 3) := by decide +kernel
theorem d_LazyMachine_ask_92 : decode b_LazyMachine_ask 92 = .ok (.aload_n 0, 1) := by decide +kernel
theorem d_LazyMachine_ask_93 : decode b_LazyMachine_ask 93 = .ok (.iload_n 3, 1) := by decide +kernel
theorem d_LazyMachine_ask_94 : decode b_LazyMachine_ask 94 = .ok (.iload 4, 2) := by decide +kernel
theorem d_LazyMachine_ask_96 : decode b_LazyMachine_ask 96 = .ok (.invokevirtual 142, 3) := by decide +kernel
theorem d_LazyMachine_ask_99 : decode b_LazyMachine_ask 99 = .ok (.iconst 1, 1) := by decide +kernel
theorem d_LazyMachine_ask_100 : decode b_LazyMachine_ask 100 = .ok (.ireturn, 1) := by decide +kernel
theorem d_LazyMachine_stepUnder_0 : decode b_LazyMachine_stepUnder 0 = .ok (.aload_n 0, 1) := by decide +kernel
theorem d_LazyMachine_stepUnder_1 : decode b_LazyMachine_stepUnder 1 = .ok (.getfield 19, 3) := by decide +kernel
theorem d_LazyMachine_stepUnder_4 : decode b_LazyMachine_stepUnder 4 = .ok (.invokevirtual 174, 3) := by decide +kernel
theorem d_LazyMachine_stepUnder_7 : decode b_LazyMachine_stepUnder 7 = .ok (.ifCond .eq 5, 3) := by decide +kernel
theorem d_LazyMachine_stepUnder_10 : decode b_LazyMachine_stepUnder 10 = .ok (.iconst 5, 1) := by decide +kernel
theorem d_LazyMachine_stepUnder_11 : decode b_LazyMachine_stepUnder 11 = .ok (.ireturn, 1) := by decide +kernel
theorem d_LazyMachine_stepUnder_12 : decode b_LazyMachine_stepUnder 12 = .ok (.aload_n 0, 1) := by decide +kernel
theorem d_LazyMachine_stepUnder_13 : decode b_LazyMachine_stepUnder 13 = .ok (.getfield 19, 3) := by decide +kernel
theorem d_LazyMachine_stepUnder_16 : decode b_LazyMachine_stepUnder 16 = .ok (.iload_n 1, 1) := by decide +kernel
theorem d_LazyMachine_stepUnder_17 : decode b_LazyMachine_stepUnder 17 = .ok (.iload_n 2, 1) := by decide +kernel
theorem d_LazyMachine_stepUnder_18 : decode b_LazyMachine_stepUnder 18 = .ok (.iload_n 3, 1) := by decide +kernel
theorem d_LazyMachine_stepUnder_19 : decode b_LazyMachine_stepUnder 19 = .ok (.invokevirtual 178, 3) := by decide +kernel
theorem d_LazyMachine_stepUnder_22 : decode b_LazyMachine_stepUnder 22 = .ok (.aload_n 0, 1) := by decide +kernel
theorem d_LazyMachine_stepUnder_23 : decode b_LazyMachine_stepUnder 23 = .ok (.aload_n 0, 1) := by decide +kernel
theorem d_LazyMachine_stepUnder_24 : decode b_LazyMachine_stepUnder 24 = .ok (.getfield 30, 3) := by decide +kernel
theorem d_LazyMachine_stepUnder_27 : decode b_LazyMachine_stepUnder 27 = .ok (.aload_n 0, 1) := by decide +kernel
theorem d_LazyMachine_stepUnder_28 : decode b_LazyMachine_stepUnder 28 = .ok (.getfield 132, 3) := by decide +kernel
theorem d_LazyMachine_stepUnder_31 : decode b_LazyMachine_stepUnder 31 = .ok (.iconst 0, 1) := by decide +kernel
theorem d_LazyMachine_stepUnder_32 : decode b_LazyMachine_stepUnder 32 = .ok (.invokevirtual 181, 3) := by decide +kernel
theorem d_LazyMachine_stepUnder_35 : decode b_LazyMachine_stepUnder 35 = .ok (.aload_n 0, 1) := by decide +kernel
theorem d_LazyMachine_stepUnder_36 : decode b_LazyMachine_stepUnder 36 = .ok (.getfield 37, 3) := by decide +kernel
theorem d_LazyMachine_stepUnder_39 : decode b_LazyMachine_stepUnder 39 = .ok (.invokevirtual 142, 3) := by decide +kernel
theorem d_LazyMachine_stepUnder_42 : decode b_LazyMachine_stepUnder 42 = .ok (.iconst 1, 1) := by decide +kernel
theorem d_LazyMachine_stepUnder_43 : decode b_LazyMachine_stepUnder 43 = .ok (.ireturn, 1) := by decide +kernel
theorem d_LazyMachine_stepApply_0 : decode b_LazyMachine_stepApply 0 = .ok (.aload_n 0, 1) := by decide +kernel
theorem d_LazyMachine_stepApply_1 : decode b_LazyMachine_stepApply 1 = .ok (.getfield 19, 3) := by decide +kernel
theorem d_LazyMachine_stepApply_4 : decode b_LazyMachine_stepApply 4 = .ok (.invokevirtual 174, 3) := by decide +kernel
theorem d_LazyMachine_stepApply_7 : decode b_LazyMachine_stepApply 7 = .ok (.ifCond .eq 5, 3) := by decide +kernel
theorem d_LazyMachine_stepApply_10 : decode b_LazyMachine_stepApply 10 = .ok (.iconst 5, 1) := by decide +kernel
theorem d_LazyMachine_stepApply_11 : decode b_LazyMachine_stepApply 11 = .ok (.ireturn, 1) := by decide +kernel
theorem d_LazyMachine_stepApply_12 : decode b_LazyMachine_stepApply 12 = .ok (.aload_n 0, 1) := by decide +kernel
theorem d_LazyMachine_stepApply_13 : decode b_LazyMachine_stepApply 13 = .ok (.getfield 30, 3) := by decide +kernel
theorem d_LazyMachine_stepApply_16 : decode b_LazyMachine_stepApply 16 = .ok (.aload_n 0, 1) := by decide +kernel
theorem d_LazyMachine_stepApply_17 : decode b_LazyMachine_stepApply 17 = .ok (.getfield 132, 3) := by decide +kernel
theorem d_LazyMachine_stepApply_20 : decode b_LazyMachine_stepApply 20 = .ok (.iconst 1, 1) := by decide +kernel
theorem d_LazyMachine_stepApply_21 : decode b_LazyMachine_stepApply 21 = .ok (.invokevirtual 181, 3) := by decide +kernel
theorem d_LazyMachine_stepApply_24 : decode b_LazyMachine_stepApply 24 = .ok (.istore_n 1, 1) := by decide +kernel
theorem d_LazyMachine_stepApply_25 : decode b_LazyMachine_stepApply 25 = .ok (.aload_n 0, 1) := by decide +kernel
theorem d_LazyMachine_stepApply_26 : decode b_LazyMachine_stepApply 26 = .ok (.aload_n 0, 1) := by decide +kernel
theorem d_LazyMachine_stepApply_27 : decode b_LazyMachine_stepApply 27 = .ok (.iload_n 1, 1) := by decide +kernel
theorem d_LazyMachine_stepApply_28 : decode b_LazyMachine_stepApply 28 = .ok (.invokevirtual 184, 3) := by decide +kernel
theorem d_LazyMachine_stepApply_31 : decode b_LazyMachine_stepApply 31 = .ok (.invokevirtual 111, 3) := by decide +kernel
theorem d_LazyMachine_stepApply_34 : decode b_LazyMachine_stepApply 34 = .ok (.ifCond .ne 6, 3) := by decide +kernel
theorem d_LazyMachine_stepApply_37 : decode b_LazyMachine_stepApply 37 = .ok (.bipush 6, 2) := by decide +kernel
theorem d_LazyMachine_stepApply_39 : decode b_LazyMachine_stepApply 39 = .ok (.ireturn, 1) := by decide +kernel
theorem d_LazyMachine_stepApply_40 : decode b_LazyMachine_stepApply 40 = .ok (.aload_n 0, 1) := by decide +kernel
theorem d_LazyMachine_stepApply_41 : decode b_LazyMachine_stepApply 41 = .ok (.iconst 1, 1) := by decide +kernel
theorem d_LazyMachine_stepApply_42 : decode b_LazyMachine_stepApply 42 = .ok (.aload_n 0, 1) := by decide +kernel
theorem d_LazyMachine_stepApply_43 : decode b_LazyMachine_stepApply 43 = .ok (.iload_n 1, 1) := by decide +kernel
theorem d_LazyMachine_stepApply_44 : decode b_LazyMachine_stepApply 44 = .ok (.invokevirtual 187, 3) := by decide +kernel
theorem d_LazyMachine_stepApply_47 : decode b_LazyMachine_stepApply 47 = .ok (.iconst (-1), 1) := by decide +kernel
theorem d_LazyMachine_stepApply_48 : decode b_LazyMachine_stepApply 48 = .ok (.invokevirtual 162, 3) := by decide +kernel
theorem d_LazyMachine_stepApply_51 : decode b_LazyMachine_stepApply 51 = .ok (.ireturn, 1) := by decide +kernel
theorem d_LazyMachine_stepFix_0 : decode b_LazyMachine_stepFix 0 = .ok (.aload_n 0, 1) := by decide +kernel
theorem d_LazyMachine_stepFix_1 : decode b_LazyMachine_stepFix 1 = .ok (.getfield 19, 3) := by decide +kernel
theorem d_LazyMachine_stepFix_4 : decode b_LazyMachine_stepFix 4 = .ok (.invokevirtual 174, 3) := by decide +kernel
theorem d_LazyMachine_stepFix_7 : decode b_LazyMachine_stepFix 7 = .ok (.ifCond .eq 5, 3) := by decide +kernel
theorem d_LazyMachine_stepFix_10 : decode b_LazyMachine_stepFix 10 = .ok (.iconst 5, 1) := by decide +kernel
theorem d_LazyMachine_stepFix_11 : decode b_LazyMachine_stepFix 11 = .ok (.ireturn, 1) := by decide +kernel
theorem d_LazyMachine_stepFix_12 : decode b_LazyMachine_stepFix 12 = .ok (.aload_n 0, 1) := by decide +kernel
theorem d_LazyMachine_stepFix_13 : decode b_LazyMachine_stepFix 13 = .ok (.iconst 2, 1) := by decide +kernel
theorem d_LazyMachine_stepFix_14 : decode b_LazyMachine_stepFix 14 = .ok (.invokevirtual 111, 3) := by decide +kernel
theorem d_LazyMachine_stepFix_17 : decode b_LazyMachine_stepFix 17 = .ok (.ifCond .ne 6, 3) := by decide +kernel
theorem d_LazyMachine_stepFix_20 : decode b_LazyMachine_stepFix 20 = .ok (.bipush 6, 2) := by decide +kernel
theorem d_LazyMachine_stepFix_22 : decode b_LazyMachine_stepFix 22 = .ok (.ireturn, 1) := by decide +kernel
theorem d_LazyMachine_stepFix_23 : decode b_LazyMachine_stepFix 23 = .ok (.aload_n 0, 1) := by decide +kernel
theorem d_LazyMachine_stepFix_24 : decode b_LazyMachine_stepFix 24 = .ok (.getfield 10, 3) := by decide +kernel
theorem d_LazyMachine_stepFix_27 : decode b_LazyMachine_stepFix 27 = .ok (.iconst 4, 1) := by decide +kernel
theorem d_LazyMachine_stepFix_28 : decode b_LazyMachine_stepFix 28 = .ok (.iconst (-1), 1) := by decide +kernel
theorem d_LazyMachine_stepFix_29 : decode b_LazyMachine_stepFix 29 = .ok (.iconst (-1), 1) := by decide +kernel
theorem d_LazyMachine_stepFix_30 : decode b_LazyMachine_stepFix 30 = .ok (.invokevirtual 115, 3) := by decide +kernel
theorem d_LazyMachine_stepFix_33 : decode b_LazyMachine_stepFix 33 = .ok (.istore_n 1, 1) := by decide +kernel
theorem d_LazyMachine_stepFix_34 : decode b_LazyMachine_stepFix 34 = .ok (.aload_n 0, 1) := by decide +kernel
theorem d_LazyMachine_stepFix_35 : decode b_LazyMachine_stepFix 35 = .ok (.dup, 1) := by decide +kernel
theorem d_LazyMachine_stepFix_36 : decode b_LazyMachine_stepFix 36 = .ok (.getfield 122, 3) := by decide +kernel
theorem d_LazyMachine_stepFix_39 : decode b_LazyMachine_stepFix 39 = .ok (.iconst 1, 1) := by decide +kernel
theorem d_LazyMachine_stepFix_40 : decode b_LazyMachine_stepFix 40 = .ok (.iadd, 1) := by decide +kernel
theorem d_LazyMachine_stepFix_41 : decode b_LazyMachine_stepFix 41 = .ok (.putfield 122, 3) := by decide +kernel
theorem d_LazyMachine_stepFix_44 : decode b_LazyMachine_stepFix 44 = .ok (.aload_n 0, 1) := by decide +kernel
theorem d_LazyMachine_stepFix_45 : decode b_LazyMachine_stepFix 45 = .ok (.getfield 19, 3) := by decide +kernel
theorem d_LazyMachine_stepFix_48 : decode b_LazyMachine_stepFix 48 = .ok (.iconst 0, 1) := by decide +kernel
theorem d_LazyMachine_stepFix_49 : decode b_LazyMachine_stepFix 49 = .ok (.iload_n 1, 1) := by decide +kernel
theorem d_LazyMachine_stepFix_50 : decode b_LazyMachine_stepFix 50 = .ok (.iconst (-1), 1) := by decide +kernel
theorem d_LazyMachine_stepFix_51 : decode b_LazyMachine_stepFix 51 = .ok (.invokevirtual 178, 3) := by decide +kernel
theorem d_LazyMachine_stepFix_54 : decode b_LazyMachine_stepFix 54 = .ok (.aload_n 0, 1) := by decide +kernel
theorem d_LazyMachine_stepFix_55 : decode b_LazyMachine_stepFix 55 = .ok (.aload_n 0, 1) := by decide +kernel
theorem d_LazyMachine_stepFix_56 : decode b_LazyMachine_stepFix 56 = .ok (.getfield 30, 3) := by decide +kernel
theorem d_LazyMachine_stepFix_59 : decode b_LazyMachine_stepFix 59 = .ok (.aload_n 0, 1) := by decide +kernel
theorem d_LazyMachine_stepFix_60 : decode b_LazyMachine_stepFix 60 = .ok (.getfield 132, 3) := by decide +kernel
theorem d_LazyMachine_stepFix_63 : decode b_LazyMachine_stepFix 63 = .ok (.iconst 0, 1) := by decide +kernel
theorem d_LazyMachine_stepFix_64 : decode b_LazyMachine_stepFix 64 = .ok (.invokevirtual 181, 3) := by decide +kernel
theorem d_LazyMachine_stepFix_67 : decode b_LazyMachine_stepFix 67 = .ok (.aload_n 0, 1) := by decide +kernel
theorem d_LazyMachine_stepFix_68 : decode b_LazyMachine_stepFix 68 = .ok (.getfield 10, 3) := by decide +kernel
theorem d_LazyMachine_stepFix_71 : decode b_LazyMachine_stepFix 71 = .ok (.iconst 5, 1) := by decide +kernel
theorem d_LazyMachine_stepFix_72 : decode b_LazyMachine_stepFix 72 = .ok (.iload_n 1, 1) := by decide +kernel
theorem d_LazyMachine_stepFix_73 : decode b_LazyMachine_stepFix 73 = .ok (.aload_n 0, 1) := by decide +kernel
theorem d_LazyMachine_stepFix_74 : decode b_LazyMachine_stepFix 74 = .ok (.getfield 37, 3) := by decide +kernel
theorem d_LazyMachine_stepFix_77 : decode b_LazyMachine_stepFix 77 = .ok (.invokevirtual 115, 3) := by decide +kernel
theorem d_LazyMachine_stepFix_80 : decode b_LazyMachine_stepFix 80 = .ok (.invokevirtual 142, 3) := by decide +kernel
theorem d_LazyMachine_stepFix_83 : decode b_LazyMachine_stepFix 83 = .ok (.iconst 1, 1) := by decide +kernel
theorem d_LazyMachine_stepFix_84 : decode b_LazyMachine_stepFix 84 = .ok (.ireturn, 1) := by decide +kernel
theorem d_LazyMachine_stepLet_0 : decode b_LazyMachine_stepLet 0 = .ok (.aload_n 0, 1) := by decide +kernel
theorem d_LazyMachine_stepLet_1 : decode b_LazyMachine_stepLet 1 = .ok (.getfield 30, 3) := by decide +kernel
theorem d_LazyMachine_stepLet_4 : decode b_LazyMachine_stepLet 4 = .ok (.aload_n 0, 1) := by decide +kernel
theorem d_LazyMachine_stepLet_5 : decode b_LazyMachine_stepLet 5 = .ok (.getfield 132, 3) := by decide +kernel
theorem d_LazyMachine_stepLet_8 : decode b_LazyMachine_stepLet 8 = .ok (.iconst 0, 1) := by decide +kernel
theorem d_LazyMachine_stepLet_9 : decode b_LazyMachine_stepLet 9 = .ok (.invokevirtual 181, 3) := by decide +kernel
theorem d_LazyMachine_stepLet_12 : decode b_LazyMachine_stepLet 12 = .ok (.istore_n 1, 1) := by decide +kernel
theorem d_LazyMachine_stepLet_13 : decode b_LazyMachine_stepLet 13 = .ok (.aload_n 0, 1) := by decide +kernel
theorem d_LazyMachine_stepLet_14 : decode b_LazyMachine_stepLet 14 = .ok (.aload_n 0, 1) := by decide +kernel
theorem d_LazyMachine_stepLet_15 : decode b_LazyMachine_stepLet 15 = .ok (.iload_n 1, 1) := by decide +kernel
theorem d_LazyMachine_stepLet_16 : decode b_LazyMachine_stepLet 16 = .ok (.invokevirtual 184, 3) := by decide +kernel
theorem d_LazyMachine_stepLet_19 : decode b_LazyMachine_stepLet 19 = .ok (.iconst 1, 1) := by decide +kernel
theorem d_LazyMachine_stepLet_20 : decode b_LazyMachine_stepLet 20 = .ok (.iadd, 1) := by decide +kernel
theorem d_LazyMachine_stepLet_21 : decode b_LazyMachine_stepLet 21 = .ok (.invokevirtual 111, 3) := by decide +kernel
theorem d_LazyMachine_stepLet_24 : decode b_LazyMachine_stepLet 24 = .ok (.ifCond .ne 6, 3) := by decide +kernel
theorem d_LazyMachine_stepLet_27 : decode b_LazyMachine_stepLet 27 = .ok (.bipush 6, 2) := by decide +kernel
theorem d_LazyMachine_stepLet_29 : decode b_LazyMachine_stepLet 29 = .ok (.ireturn, 1) := by decide +kernel
theorem d_LazyMachine_stepLet_30 : decode b_LazyMachine_stepLet 30 = .ok (.aload_n 0, 1) := by decide +kernel
theorem d_LazyMachine_stepLet_31 : decode b_LazyMachine_stepLet 31 = .ok (.iload_n 1, 1) := by decide +kernel
theorem d_LazyMachine_stepLet_32 : decode b_LazyMachine_stepLet 32 = .ok (.invokevirtual 187, 3) := by decide +kernel
theorem d_LazyMachine_stepLet_35 : decode b_LazyMachine_stepLet 35 = .ok (.istore_n 2, 1) := by decide +kernel
theorem d_LazyMachine_stepLet_36 : decode b_LazyMachine_stepLet 36 = .ok (.aload_n 0, 1) := by decide +kernel
theorem d_LazyMachine_stepLet_37 : decode b_LazyMachine_stepLet 37 = .ok (.aload_n 0, 1) := by decide +kernel
theorem d_LazyMachine_stepLet_38 : decode b_LazyMachine_stepLet 38 = .ok (.getfield 30, 3) := by decide +kernel
theorem d_LazyMachine_stepLet_41 : decode b_LazyMachine_stepLet 41 = .ok (.aload_n 0, 1) := by decide +kernel
theorem d_LazyMachine_stepLet_42 : decode b_LazyMachine_stepLet 42 = .ok (.getfield 132, 3) := by decide +kernel
theorem d_LazyMachine_stepLet_45 : decode b_LazyMachine_stepLet 45 = .ok (.iconst 1, 1) := by decide +kernel
theorem d_LazyMachine_stepLet_46 : decode b_LazyMachine_stepLet 46 = .ok (.invokevirtual 181, 3) := by decide +kernel
theorem d_LazyMachine_stepLet_49 : decode b_LazyMachine_stepLet 49 = .ok (.aload_n 0, 1) := by decide +kernel
theorem d_LazyMachine_stepLet_50 : decode b_LazyMachine_stepLet 50 = .ok (.getfield 10, 3) := by decide +kernel
theorem d_LazyMachine_stepLet_53 : decode b_LazyMachine_stepLet 53 = .ok (.iconst 5, 1) := by decide +kernel
theorem d_LazyMachine_stepLet_54 : decode b_LazyMachine_stepLet 54 = .ok (.iload_n 2, 1) := by decide +kernel
theorem d_LazyMachine_stepLet_55 : decode b_LazyMachine_stepLet 55 = .ok (.aload_n 0, 1) := by decide +kernel
theorem d_LazyMachine_stepLet_56 : decode b_LazyMachine_stepLet 56 = .ok (.getfield 37, 3) := by decide +kernel
theorem d_LazyMachine_stepLet_59 : decode b_LazyMachine_stepLet 59 = .ok (.invokevirtual 115, 3) := by decide +kernel
theorem d_LazyMachine_stepLet_62 : decode b_LazyMachine_stepLet 62 = .ok (.invokevirtual 142, 3) := by decide +kernel
theorem d_LazyMachine_stepLet_65 : decode b_LazyMachine_stepLet 65 = .ok (.iconst 1, 1) := by decide +kernel
theorem d_LazyMachine_stepLet_66 : decode b_LazyMachine_stepLet 66 = .ok (.ireturn, 1) := by decide +kernel
theorem d_LazyMachine_stepPair_0 : decode b_LazyMachine_stepPair 0 = .ok (.aload_n 0, 1) := by decide +kernel
theorem d_LazyMachine_stepPair_1 : decode b_LazyMachine_stepPair 1 = .ok (.getfield 30, 3) := by decide +kernel
theorem d_LazyMachine_stepPair_4 : decode b_LazyMachine_stepPair 4 = .ok (.aload_n 0, 1) := by decide +kernel
theorem d_LazyMachine_stepPair_5 : decode b_LazyMachine_stepPair 5 = .ok (.getfield 132, 3) := by decide +kernel
theorem d_LazyMachine_stepPair_8 : decode b_LazyMachine_stepPair 8 = .ok (.iconst 0, 1) := by decide +kernel
theorem d_LazyMachine_stepPair_9 : decode b_LazyMachine_stepPair 9 = .ok (.invokevirtual 181, 3) := by decide +kernel
theorem d_LazyMachine_stepPair_12 : decode b_LazyMachine_stepPair 12 = .ok (.istore_n 1, 1) := by decide +kernel
theorem d_LazyMachine_stepPair_13 : decode b_LazyMachine_stepPair 13 = .ok (.aload_n 0, 1) := by decide +kernel
theorem d_LazyMachine_stepPair_14 : decode b_LazyMachine_stepPair 14 = .ok (.getfield 30, 3) := by decide +kernel
theorem d_LazyMachine_stepPair_17 : decode b_LazyMachine_stepPair 17 = .ok (.aload_n 0, 1) := by decide +kernel
theorem d_LazyMachine_stepPair_18 : decode b_LazyMachine_stepPair 18 = .ok (.getfield 132, 3) := by decide +kernel
theorem d_LazyMachine_stepPair_21 : decode b_LazyMachine_stepPair 21 = .ok (.iconst 1, 1) := by decide +kernel
theorem d_LazyMachine_stepPair_22 : decode b_LazyMachine_stepPair 22 = .ok (.invokevirtual 181, 3) := by decide +kernel
theorem d_LazyMachine_stepPair_25 : decode b_LazyMachine_stepPair 25 = .ok (.istore_n 2, 1) := by decide +kernel
theorem d_LazyMachine_stepPair_26 : decode b_LazyMachine_stepPair 26 = .ok (.aload_n 0, 1) := by decide +kernel
theorem d_LazyMachine_stepPair_27 : decode b_LazyMachine_stepPair 27 = .ok (.aload_n 0, 1) := by decide +kernel
theorem d_LazyMachine_stepPair_28 : decode b_LazyMachine_stepPair 28 = .ok (.iload_n 1, 1) := by decide +kernel
theorem d_LazyMachine_stepPair_29 : decode b_LazyMachine_stepPair 29 = .ok (.invokevirtual 184, 3) := by decide +kernel
theorem d_LazyMachine_stepPair_32 : decode b_LazyMachine_stepPair 32 = .ok (.aload_n 0, 1) := by decide +kernel
theorem d_LazyMachine_stepPair_33 : decode b_LazyMachine_stepPair 33 = .ok (.iload_n 2, 1) := by decide +kernel
theorem d_LazyMachine_stepPair_34 : decode b_LazyMachine_stepPair 34 = .ok (.invokevirtual 184, 3) := by decide +kernel
theorem d_LazyMachine_stepPair_37 : decode b_LazyMachine_stepPair 37 = .ok (.iadd, 1) := by decide +kernel
theorem d_LazyMachine_stepPair_38 : decode b_LazyMachine_stepPair 38 = .ok (.invokevirtual 111, 3) := by decide +kernel
theorem d_LazyMachine_stepPair_41 : decode b_LazyMachine_stepPair 41 = .ok (.ifCond .ne 6, 3) := by decide +kernel
theorem d_LazyMachine_stepPair_44 : decode b_LazyMachine_stepPair 44 = .ok (.bipush 6, 2) := by decide +kernel
theorem d_LazyMachine_stepPair_46 : decode b_LazyMachine_stepPair 46 = .ok (.ireturn, 1) := by decide +kernel
theorem d_LazyMachine_stepPair_47 : decode b_LazyMachine_stepPair 47 = .ok (.aload_n 0, 1) := by decide +kernel
theorem d_LazyMachine_stepPair_48 : decode b_LazyMachine_stepPair 48 = .ok (.iload_n 1, 1) := by decide +kernel
theorem d_LazyMachine_stepPair_49 : decode b_LazyMachine_stepPair 49 = .ok (.invokevirtual 187, 3) := by decide +kernel
theorem d_LazyMachine_stepPair_52 : decode b_LazyMachine_stepPair 52 = .ok (.istore_n 3, 1) := by decide +kernel
theorem d_LazyMachine_stepPair_53 : decode b_LazyMachine_stepPair 53 = .ok (.aload_n 0, 1) := by decide +kernel
theorem d_LazyMachine_stepPair_54 : decode b_LazyMachine_stepPair 54 = .ok (.iconst 2, 1) := by decide +kernel
theorem d_LazyMachine_stepPair_55 : decode b_LazyMachine_stepPair 55 = .ok (.iload_n 3, 1) := by decide +kernel
theorem d_LazyMachine_stepPair_56 : decode b_LazyMachine_stepPair 56 = .ok (.aload_n 0, 1) := by decide +kernel
theorem d_LazyMachine_stepPair_57 : decode b_LazyMachine_stepPair 57 = .ok (.iload_n 2, 1) := by decide +kernel
theorem d_LazyMachine_stepPair_58 : decode b_LazyMachine_stepPair 58 = .ok (.invokevirtual 187, 3) := by decide +kernel
theorem d_LazyMachine_stepPair_61 : decode b_LazyMachine_stepPair 61 = .ok (.invokevirtual 156, 3) := by decide +kernel
theorem d_LazyMachine_stepPair_64 : decode b_LazyMachine_stepPair 64 = .ok (.ireturn, 1) := by decide +kernel
theorem d_LazyMachine_enterFunction_0 : decode b_LazyMachine_enterFunction 0 = .ok (.aload_n 0, 1) := by decide +kernel
theorem d_LazyMachine_enterFunction_1 : decode b_LazyMachine_enterFunction 1 = .ok (.aload_n 0, 1) := by decide +kernel
theorem d_LazyMachine_enterFunction_2 : decode b_LazyMachine_enterFunction 2 = .ok (.getfield 30, 3) := by decide +kernel
theorem d_LazyMachine_enterFunction_5 : decode b_LazyMachine_enterFunction 5 = .ok (.aload_n 0, 1) := by decide +kernel
theorem d_LazyMachine_enterFunction_6 : decode b_LazyMachine_enterFunction 6 = .ok (.getfield 40, 3) := by decide +kernel
theorem d_LazyMachine_enterFunction_9 : decode b_LazyMachine_enterFunction 9 = .ok (.iconst 0, 1) := by decide +kernel
theorem d_LazyMachine_enterFunction_10 : decode b_LazyMachine_enterFunction 10 = .ok (.invokevirtual 181, 3) := by decide +kernel
theorem d_LazyMachine_enterFunction_13 : decode b_LazyMachine_enterFunction 13 = .ok (.aload_n 0, 1) := by decide +kernel
theorem d_LazyMachine_enterFunction_14 : decode b_LazyMachine_enterFunction 14 = .ok (.getfield 10, 3) := by decide +kernel
theorem d_LazyMachine_enterFunction_17 : decode b_LazyMachine_enterFunction 17 = .ok (.iconst 5, 1) := by decide +kernel
theorem d_LazyMachine_enterFunction_18 : decode b_LazyMachine_enterFunction 18 = .ok (.iload_n 1, 1) := by decide +kernel
theorem d_LazyMachine_enterFunction_19 : decode b_LazyMachine_enterFunction 19 = .ok (.aload_n 0, 1) := by decide +kernel
theorem d_LazyMachine_enterFunction_20 : decode b_LazyMachine_enterFunction 20 = .ok (.getfield 43, 3) := by decide +kernel
theorem d_LazyMachine_enterFunction_23 : decode b_LazyMachine_enterFunction 23 = .ok (.invokevirtual 115, 3) := by decide +kernel
theorem d_LazyMachine_enterFunction_26 : decode b_LazyMachine_enterFunction 26 = .ok (.invokevirtual 142, 3) := by decide +kernel
theorem d_LazyMachine_enterFunction_29 : decode b_LazyMachine_enterFunction 29 = .ok (.return_, 1) := by decide +kernel
theorem d_LazyMachine_stepArgument_0 : decode b_LazyMachine_stepArgument 0 = .ok (.aload_n 0, 1) := by decide +kernel
theorem d_LazyMachine_stepArgument_1 : decode b_LazyMachine_stepArgument 1 = .ok (.getfield 98, 3) := by decide +kernel
theorem d_LazyMachine_stepArgument_4 : decode b_LazyMachine_stepArgument 4 = .ok (.iconst 1, 1) := by decide +kernel
theorem d_LazyMachine_stepArgument_5 : decode b_LazyMachine_stepArgument 5 = .ok (.if_icmp .eq 5, 3) := by decide +kernel
theorem d_LazyMachine_stepArgument_8 : decode b_LazyMachine_stepArgument 8 = .ok (.iconst 3, 1) := by decide +kernel
theorem d_LazyMachine_stepArgument_9 : decode b_LazyMachine_stepArgument 9 = .ok (.ireturn, 1) := by decide +kernel
theorem d_LazyMachine_stepArgument_10 : decode b_LazyMachine_stepArgument 10 = .ok (.aload_n 0, 1) := by decide +kernel
theorem d_LazyMachine_stepArgument_11 : decode b_LazyMachine_stepArgument 11 = .ok (.iconst 1, 1) := by decide +kernel
theorem d_LazyMachine_stepArgument_12 : decode b_LazyMachine_stepArgument 12 = .ok (.invokevirtual 111, 3) := by decide +kernel
theorem d_LazyMachine_stepArgument_15 : decode b_LazyMachine_stepArgument 15 = .ok (.ifCond .ne 6, 3) := by decide +kernel
theorem d_LazyMachine_stepArgument_18 : decode b_LazyMachine_stepArgument 18 = .ok (.bipush 6, 2) := by decide +kernel
theorem d_LazyMachine_stepArgument_20 : decode b_LazyMachine_stepArgument 20 = .ok (.ireturn, 1) := by decide +kernel
theorem d_LazyMachine_stepArgument_21 : decode b_LazyMachine_stepArgument 21 = .ok (.aload_n 0, 1) := by decide +kernel
theorem d_LazyMachine_stepArgument_22 : decode b_LazyMachine_stepArgument 22 = .ok (.getfield 19, 3) := by decide +kernel
theorem d_LazyMachine_stepArgument_25 : decode b_LazyMachine_stepArgument 25 = .ok (.invokevirtual 196, 3) := by decide +kernel
theorem d_LazyMachine_stepArgument_28 : decode b_LazyMachine_stepArgument 28 = .ok (.aload_n 0, 1) := by decide +kernel
theorem d_LazyMachine_stepArgument_29 : decode b_LazyMachine_stepArgument 29 = .ok (.iload_n 1, 1) := by decide +kernel
theorem d_LazyMachine_stepArgument_30 : decode b_LazyMachine_stepArgument 30 = .ok (.invokevirtual 119, 3) := by decide +kernel
theorem d_LazyMachine_stepArgument_33 : decode b_LazyMachine_stepArgument 33 = .ok (.iconst 1, 1) := by decide +kernel
theorem d_LazyMachine_stepArgument_34 : decode b_LazyMachine_stepArgument 34 = .ok (.ireturn, 1) := by decide +kernel
theorem d_LazyMachine_stepLeft_0 : decode b_LazyMachine_stepLeft 0 = .ok (.aload_n 0, 1) := by decide +kernel
theorem d_LazyMachine_stepLeft_1 : decode b_LazyMachine_stepLeft 1 = .ok (.getfield 98, 3) := by decide +kernel
theorem d_LazyMachine_stepLeft_4 : decode b_LazyMachine_stepLeft 4 = .ok (.ifCond .eq 5, 3) := by decide +kernel
theorem d_LazyMachine_stepLeft_7 : decode b_LazyMachine_stepLeft 7 = .ok (.iconst 3, 1) := by decide +kernel
theorem d_LazyMachine_stepLeft_8 : decode b_LazyMachine_stepLeft 8 = .ok (.ireturn, 1) := by decide +kernel
theorem d_LazyMachine_stepLeft_9 : decode b_LazyMachine_stepLeft 9 = .ok (.aload_n 0, 1) := by decide +kernel
theorem d_LazyMachine_stepLeft_10 : decode b_LazyMachine_stepLeft 10 = .ok (.getfield 19, 3) := by decide +kernel
theorem d_LazyMachine_stepLeft_13 : decode b_LazyMachine_stepLeft 13 = .ok (.invokevirtual 196, 3) := by decide +kernel
theorem d_LazyMachine_stepLeft_16 : decode b_LazyMachine_stepLeft 16 = .ok (.aload_n 0, 1) := by decide +kernel
theorem d_LazyMachine_stepLeft_17 : decode b_LazyMachine_stepLeft 17 = .ok (.getfield 19, 3) := by decide +kernel
theorem d_LazyMachine_stepLeft_20 : decode b_LazyMachine_stepLeft 20 = .ok (.iconst 3, 1) := by decide +kernel
theorem d_LazyMachine_stepLeft_21 : decode b_LazyMachine_stepLeft 21 = .ok (.iload_n 1, 1) := by decide +kernel
theorem d_LazyMachine_stepLeft_22 : decode b_LazyMachine_stepLeft 22 = .ok (.aload_n 0, 1) := by decide +kernel
theorem d_LazyMachine_stepLeft_23 : decode b_LazyMachine_stepLeft 23 = .ok (.getfield 40, 3) := by decide +kernel
theorem d_LazyMachine_stepLeft_26 : decode b_LazyMachine_stepLeft 26 = .ok (.invokevirtual 178, 3) := by decide +kernel
theorem d_LazyMachine_stepLeft_29 : decode b_LazyMachine_stepLeft 29 = .ok (.aload_n 0, 1) := by decide +kernel
theorem d_LazyMachine_stepLeft_30 : decode b_LazyMachine_stepLeft 30 = .ok (.aload_n 0, 1) := by decide +kernel
theorem d_LazyMachine_stepLeft_31 : decode b_LazyMachine_stepLeft 31 = .ok (.getfield 30, 3) := by decide +kernel
theorem d_LazyMachine_stepLeft_34 : decode b_LazyMachine_stepLeft 34 = .ok (.iload_n 1, 1) := by decide +kernel
theorem d_LazyMachine_stepLeft_35 : decode b_LazyMachine_stepLeft 35 = .ok (.iconst 1, 1) := by decide +kernel
theorem d_LazyMachine_stepLeft_36 : decode b_LazyMachine_stepLeft 36 = .ok (.invokevirtual 181, 3) := by decide +kernel
theorem d_LazyMachine_stepLeft_39 : decode b_LazyMachine_stepLeft 39 = .ok (.iload_n 2, 1) := by decide +kernel
theorem d_LazyMachine_stepLeft_40 : decode b_LazyMachine_stepLeft 40 = .ok (.invokevirtual 142, 3) := by decide +kernel
theorem d_LazyMachine_stepLeft_43 : decode b_LazyMachine_stepLeft 43 = .ok (.iconst 1, 1) := by decide +kernel
theorem d_LazyMachine_stepLeft_44 : decode b_LazyMachine_stepLeft 44 = .ok (.ireturn, 1) := by decide +kernel
theorem d_LazyMachine_reckon_0 : decode b_LazyMachine_reckon 0 = .ok (.iload_n 0, 1) := by decide +kernel
theorem d_LazyMachine_reckon_1 : decode b_LazyMachine_reckon 1 = .ok (.tableswitch 39 4 6 #[27, 31, 35], 27) := by decide +kernel
theorem d_LazyMachine_reckon_28 : decode b_LazyMachine_reckon 28 = .ok (.iload_n 1, 1) := by decide +kernel
theorem d_LazyMachine_reckon_29 : decode b_LazyMachine_reckon 29 = .ok (.iload_n 2, 1) := by decide +kernel
theorem d_LazyMachine_reckon_30 : decode b_LazyMachine_reckon 30 = .ok (.iadd, 1) := by decide +kernel
theorem d_LazyMachine_reckon_31 : decode b_LazyMachine_reckon 31 = .ok (.ireturn, 1) := by decide +kernel
theorem d_LazyMachine_reckon_32 : decode b_LazyMachine_reckon 32 = .ok (.iload_n 1, 1) := by decide +kernel
theorem d_LazyMachine_reckon_33 : decode b_LazyMachine_reckon 33 = .ok (.iload_n 2, 1) := by decide +kernel
theorem d_LazyMachine_reckon_34 : decode b_LazyMachine_reckon 34 = .ok (.isub, 1) := by decide +kernel
theorem d_LazyMachine_reckon_35 : decode b_LazyMachine_reckon 35 = .ok (.ireturn, 1) := by decide +kernel
theorem d_LazyMachine_reckon_36 : decode b_LazyMachine_reckon 36 = .ok (.iload_n 1, 1) := by decide +kernel
theorem d_LazyMachine_reckon_37 : decode b_LazyMachine_reckon 37 = .ok (.iload_n 2, 1) := by decide +kernel
theorem d_LazyMachine_reckon_38 : decode b_LazyMachine_reckon 38 = .ok (.imul, 1) := by decide +kernel
theorem d_LazyMachine_reckon_39 : decode b_LazyMachine_reckon 39 = .ok (.ireturn, 1) := by decide +kernel
theorem d_LazyMachine_reckon_40 : decode b_LazyMachine_reckon 40 = .ok (.iload_n 1, 1) := by decide +kernel
theorem d_LazyMachine_reckon_41 : decode b_LazyMachine_reckon 41 = .ok (.iload_n 2, 1) := by decide +kernel
theorem d_LazyMachine_reckon_42 : decode b_LazyMachine_reckon 42 = .ok (.if_icmp .ge 7, 3) := by decide +kernel
theorem d_LazyMachine_reckon_45 : decode b_LazyMachine_reckon 45 = .ok (.iconst 1, 1) := by decide +kernel
theorem d_LazyMachine_reckon_46 : decode b_LazyMachine_reckon 46 = .ok (.goto 4, 3) := by decide +kernel
theorem d_LazyMachine_reckon_49 : decode b_LazyMachine_reckon 49 = .ok (.iconst 0, 1) := by decide +kernel
theorem d_LazyMachine_reckon_50 : decode b_LazyMachine_reckon 50 = .ok (.ireturn, 1) := by decide +kernel
theorem d_LazyMachine_stepRight_0 : decode b_LazyMachine_stepRight 0 = .ok (.aload_n 0, 1) := by decide +kernel
theorem d_LazyMachine_stepRight_1 : decode b_LazyMachine_stepRight 1 = .ok (.getfield 98, 3) := by decide +kernel
theorem d_LazyMachine_stepRight_4 : decode b_LazyMachine_stepRight 4 = .ok (.ifCond .eq 5, 3) := by decide +kernel
theorem d_LazyMachine_stepRight_7 : decode b_LazyMachine_stepRight 7 = .ok (.iconst 3, 1) := by decide +kernel
theorem d_LazyMachine_stepRight_8 : decode b_LazyMachine_stepRight 8 = .ok (.ireturn, 1) := by decide +kernel
theorem d_LazyMachine_stepRight_9 : decode b_LazyMachine_stepRight 9 = .ok (.aload_n 0, 1) := by decide +kernel
theorem d_LazyMachine_stepRight_10 : decode b_LazyMachine_stepRight 10 = .ok (.getfield 19, 3) := by decide +kernel
theorem d_LazyMachine_stepRight_13 : decode b_LazyMachine_stepRight 13 = .ok (.invokevirtual 196, 3) := by decide +kernel
theorem d_LazyMachine_stepRight_16 : decode b_LazyMachine_stepRight 16 = .ok (.aload_n 0, 1) := by decide +kernel
theorem d_LazyMachine_stepRight_17 : decode b_LazyMachine_stepRight 17 = .ok (.iconst 0, 1) := by decide +kernel
theorem d_LazyMachine_stepRight_18 : decode b_LazyMachine_stepRight 18 = .ok (.aload_n 0, 1) := by decide +kernel
theorem d_LazyMachine_stepRight_19 : decode b_LazyMachine_stepRight 19 = .ok (.getfield 30, 3) := by decide +kernel
theorem d_LazyMachine_stepRight_22 : decode b_LazyMachine_stepRight 22 = .ok (.iload_n 1, 1) := by decide +kernel
theorem d_LazyMachine_stepRight_23 : decode b_LazyMachine_stepRight 23 = .ok (.invokevirtual 146, 3) := by decide +kernel
theorem d_LazyMachine_stepRight_26 : decode b_LazyMachine_stepRight 26 = .ok (.iload_n 2, 1) := by decide +kernel
theorem d_LazyMachine_stepRight_27 : decode b_LazyMachine_stepRight 27 = .ok (.aload_n 0, 1) := by decide +kernel
theorem d_LazyMachine_stepRight_28 : decode b_LazyMachine_stepRight 28 = .ok (.getfield 40, 3) := by decide +kernel
theorem d_LazyMachine_stepRight_31 : decode b_LazyMachine_stepRight 31 = .ok (.invokestatic 221, 3) := by decide +kernel
theorem d_LazyMachine_stepRight_34 : decode b_LazyMachine_stepRight 34 = .ok (.iconst (-1), 1) := by decide +kernel
theorem d_LazyMachine_stepRight_35 : decode b_LazyMachine_stepRight 35 = .ok (.invokevirtual 156, 3) := by decide +kernel
theorem d_LazyMachine_stepRight_38 : decode b_LazyMachine_stepRight 38 = .ok (.ireturn, 1) := by decide +kernel
theorem d_LazyMachine_stepTest_0 : decode b_LazyMachine_stepTest 0 = .ok (.aload_n 0, 1) := by decide +kernel
theorem d_LazyMachine_stepTest_1 : decode b_LazyMachine_stepTest 1 = .ok (.getfield 98, 3) := by decide +kernel
theorem d_LazyMachine_stepTest_4 : decode b_LazyMachine_stepTest 4 = .ok (.ifCond .eq 5, 3) := by decide +kernel
theorem d_LazyMachine_stepTest_7 : decode b_LazyMachine_stepTest 7 = .ok (.iconst 3, 1) := by decide +kernel
theorem d_LazyMachine_stepTest_8 : decode b_LazyMachine_stepTest 8 = .ok (.ireturn, 1) := by decide +kernel
theorem d_LazyMachine_stepTest_9 : decode b_LazyMachine_stepTest 9 = .ok (.aload_n 0, 1) := by decide +kernel
theorem d_LazyMachine_stepTest_10 : decode b_LazyMachine_stepTest 10 = .ok (.getfield 19, 3) := by decide +kernel
theorem d_LazyMachine_stepTest_13 : decode b_LazyMachine_stepTest 13 = .ok (.invokevirtual 196, 3) := by decide +kernel
theorem d_LazyMachine_stepTest_16 : decode b_LazyMachine_stepTest 16 = .ok (.aload_n 0, 1) := by decide +kernel
theorem d_LazyMachine_stepTest_17 : decode b_LazyMachine_stepTest 17 = .ok (.aload_n 0, 1) := by decide +kernel
theorem d_LazyMachine_stepTest_18 : decode b_LazyMachine_stepTest 18 = .ok (.getfield 30, 3) := by decide +kernel
theorem d_LazyMachine_stepTest_21 : decode b_LazyMachine_stepTest 21 = .ok (.iload_n 1, 1) := by decide +kernel
theorem d_LazyMachine_stepTest_22 : decode b_LazyMachine_stepTest 22 = .ok (.aload_n 0, 1) := by decide +kernel
theorem d_LazyMachine_stepTest_23 : decode b_LazyMachine_stepTest 23 = .ok (.getfield 40, 3) := by decide +kernel
theorem d_LazyMachine_stepTest_26 : decode b_LazyMachine_stepTest 26 = .ok (.ifCond .ne 7, 3) := by decide +kernel
theorem d_LazyMachine_stepTest_29 : decode b_LazyMachine_stepTest 29 = .ok (.iconst 1, 1) := by decide +kernel
theorem d_LazyMachine_stepTest_30 : decode b_LazyMachine_stepTest 30 = .ok (.goto 4, 3) := by decide +kernel
theorem d_LazyMachine_stepTest_33 : decode b_LazyMachine_stepTest 33 = .ok (.iconst 2, 1) := by decide +kernel
theorem d_LazyMachine_stepTest_34 : decode b_LazyMachine_stepTest 34 = .ok (.invokevirtual 181, 3) := by decide +kernel
theorem d_LazyMachine_stepTest_37 : decode b_LazyMachine_stepTest 37 = .ok (.iload_n 2, 1) := by decide +kernel
theorem d_LazyMachine_stepTest_38 : decode b_LazyMachine_stepTest 38 = .ok (.invokevirtual 142, 3) := by decide +kernel
theorem d_LazyMachine_stepTest_41 : decode b_LazyMachine_stepTest 41 = .ok (.iconst 1, 1) := by decide +kernel
theorem d_LazyMachine_stepTest_42 : decode b_LazyMachine_stepTest 42 = .ok (.ireturn, 1) := by decide +kernel
theorem d_LazyMachine_stepPart_0 : decode b_LazyMachine_stepPart 0 = .ok (.aload_n 0, 1) := by decide +kernel
theorem d_LazyMachine_stepPart_1 : decode b_LazyMachine_stepPart 1 = .ok (.getfield 98, 3) := by decide +kernel
theorem d_LazyMachine_stepPart_4 : decode b_LazyMachine_stepPart 4 = .ok (.iconst 2, 1) := by decide +kernel
theorem d_LazyMachine_stepPart_5 : decode b_LazyMachine_stepPart 5 = .ok (.if_icmp .eq 5, 3) := by decide +kernel
theorem d_LazyMachine_stepPart_8 : decode b_LazyMachine_stepPart 8 = .ok (.iconst 3, 1) := by decide +kernel
theorem d_LazyMachine_stepPart_9 : decode b_LazyMachine_stepPart 9 = .ok (.ireturn, 1) := by decide +kernel
theorem d_LazyMachine_stepPart_10 : decode b_LazyMachine_stepPart 10 = .ok (.iload_n 1, 1) := by decide +kernel
theorem d_LazyMachine_stepPart_11 : decode b_LazyMachine_stepPart 11 = .ok (.ifCond .ne 10, 3) := by decide +kernel
theorem d_LazyMachine_stepPart_14 : decode b_LazyMachine_stepPart 14 = .ok (.aload_n 0, 1) := by decide +kernel
theorem d_LazyMachine_stepPart_15 : decode b_LazyMachine_stepPart 15 = .ok (.getfield 40, 3) := by decide +kernel
theorem d_LazyMachine_stepPart_18 : decode b_LazyMachine_stepPart 18 = .ok (.goto 7, 3) := by decide +kernel
theorem d_LazyMachine_stepPart_21 : decode b_LazyMachine_stepPart 21 = .ok (.aload_n 0, 1) := by decide +kernel
theorem d_LazyMachine_stepPart_22 : decode b_LazyMachine_stepPart 22 = .ok (.getfield 43, 3) := by decide +kernel
theorem d_LazyMachine_stepPart_25 : decode b_LazyMachine_stepPart 25 = .ok (.istore_n 2, 1) := by decide +kernel
theorem d_LazyMachine_stepPart_26 : decode b_LazyMachine_stepPart 26 = .ok (.aload_n 0, 1) := by decide +kernel
theorem d_LazyMachine_stepPart_27 : decode b_LazyMachine_stepPart 27 = .ok (.getfield 10, 3) := by decide +kernel
theorem d_LazyMachine_stepPart_30 : decode b_LazyMachine_stepPart 30 = .ok (.iload_n 2, 1) := by decide +kernel
theorem d_LazyMachine_stepPart_31 : decode b_LazyMachine_stepPart 31 = .ok (.invokevirtual 224, 3) := by decide +kernel
theorem d_LazyMachine_stepPart_34 : decode b_LazyMachine_stepPart 34 = .ok (.iconst 4, 1) := by decide +kernel
theorem d_LazyMachine_stepPart_35 : decode b_LazyMachine_stepPart 35 = .ok (.if_icmp .ne 5, 3) := by decide +kernel
theorem d_LazyMachine_stepPart_38 : decode b_LazyMachine_stepPart 38 = .ok (.iconst 4, 1) := by decide +kernel
theorem d_LazyMachine_stepPart_39 : decode b_LazyMachine_stepPart 39 = .ok (.ireturn, 1) := by decide +kernel
theorem d_LazyMachine_stepPart_40 : decode b_LazyMachine_stepPart 40 = .ok (.aload_n 0, 1) := by decide +kernel
theorem d_LazyMachine_stepPart_41 : decode b_LazyMachine_stepPart 41 = .ok (.getfield 19, 3) := by decide +kernel
theorem d_LazyMachine_stepPart_44 : decode b_LazyMachine_stepPart 44 = .ok (.invokevirtual 196, 3) := by decide +kernel
theorem d_LazyMachine_stepPart_47 : decode b_LazyMachine_stepPart 47 = .ok (.aload_n 0, 1) := by decide +kernel
theorem d_LazyMachine_stepPart_48 : decode b_LazyMachine_stepPart 48 = .ok (.iload_n 2, 1) := by decide +kernel
theorem d_LazyMachine_stepPart_49 : decode b_LazyMachine_stepPart 49 = .ok (.invokevirtual 105, 3) := by decide +kernel
theorem d_LazyMachine_stepPart_52 : decode b_LazyMachine_stepPart 52 = .ok (.ireturn, 1) := by decide +kernel
