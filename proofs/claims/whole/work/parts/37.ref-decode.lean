theorem d_Model_put_0 : decode b_Model_put 0 = .ok (.iload_n 1, 1) := by decide +kernel
theorem d_Model_put_1 : decode b_Model_put 1 = .ok (.ifCond .lt 39, 3) := by decide +kernel
theorem d_Model_put_4 : decode b_Model_put 4 = .ok (.iload_n 1, 1) := by decide +kernel
theorem d_Model_put_5 : decode b_Model_put 5 = .ok (.bipush 14, 2) := by decide +kernel
theorem d_Model_put_7 : decode b_Model_put 7 = .ok (.if_icmp .ge 33, 3) := by decide +kernel
theorem d_Model_put_10 : decode b_Model_put 10 = .ok (.iload_n 1, 1) := by decide +kernel
theorem d_Model_put_11 : decode b_Model_put 11 = .ok (.iconst 3, 1) := by decide +kernel
theorem d_Model_put_12 : decode b_Model_put 12 = .ok (.if_icmp .eq 24, 3) := by decide +kernel
theorem d_Model_put_15 : decode b_Model_put 15 = .ok (.iload_n 1, 1) := by decide +kernel
theorem d_Model_put_16 : decode b_Model_put 16 = .ok (.ifCond .ne 16, 3) := by decide +kernel
theorem d_Model_put_19 : decode b_Model_put 19 = .ok (.iload_n 2, 1) := by decide +kernel
theorem d_Model_put_20 : decode b_Model_put 20 = .ok (.ifCond .lt 20, 3) := by decide +kernel
theorem d_Model_put_23 : decode b_Model_put 23 = .ok (.iload_n 2, 1) := by decide +kernel
theorem d_Model_put_24 : decode b_Model_put 24 = .ok (.bipush 40, 2) := by decide +kernel
theorem d_Model_put_26 : decode b_Model_put 26 = .ok (.if_icmp .gt 14, 3) := by decide +kernel
theorem d_Model_put_29 : decode b_Model_put 29 = .ok (.goto 7, 3) := by decide +kernel
theorem d_Model_put_32 : decode b_Model_put 32 = .ok (.iload_n 2, 1) := by decide +kernel
theorem d_Model_put_33 : decode b_Model_put 33 = .ok (.ifCond .ne 7, 3) := by decide +kernel
theorem d_Model_put_36 : decode b_Model_put 36 = .ok (.iconst 1, 1) := by decide +kernel
theorem d_Model_put_37 : decode b_Model_put 37 = .ok (.goto 4, 3) := by decide +kernel
theorem d_Model_put_40 : decode b_Model_put 40 = .ok (.iconst 0, 1) := by decide +kernel
theorem d_Model_put_41 : decode b_Model_put 41 = .ok (.istore_n 3, 1) := by decide +kernel
theorem d_Model_put_42 : decode b_Model_put 42 = .ok (.aload_n 0, 1) := by decide +kernel
theorem d_Model_put_43 : decode b_Model_put 43 = .ok (.iload_n 3, 1) := by decide +kernel
theorem d_Model_put_44 : decode b_Model_put 44 = .ok (.ifCond .ne 7, 3) := by decide +kernel
theorem d_Model_put_47 : decode b_Model_put 47 = .ok (.iconst 1, 1) := by decide +kernel
theorem d_Model_put_48 : decode b_Model_put 48 = .ok (.goto 4, 3) := by decide +kernel
theorem d_Model_put_51 : decode b_Model_put 51 = .ok (.iconst 0, 1) := by decide +kernel
theorem d_Model_put_52 : decode b_Model_put 52 = .ok (.iconst 0, 1) := by decide +kernel
theorem d_Model_put_53 : decode b_Model_put 53 = .ok (.invokevirtual 60, 3) := by decide +kernel
theorem d_Model_put_56 : decode b_Model_put 56 = .ok (.ifCond .eq 5, 3) := by decide +kernel
theorem d_Model_put_59 : decode b_Model_put 59 = .ok (.iconst 0, 1) := by decide +kernel
theorem d_Model_put_60 : decode b_Model_put 60 = .ok (.ireturn, 1) := by decide +kernel
theorem d_Model_put_61 : decode b_Model_put 61 = .ok (.aload_n 0, 1) := by decide +kernel
theorem d_Model_put_62 : decode b_Model_put 62 = .ok (.getfield 64, 3) := by decide +kernel
theorem d_Model_put_65 : decode b_Model_put 65 = .ok (.sipush 200, 3) := by decide +kernel
theorem d_Model_put_68 : decode b_Model_put 68 = .ok (.if_icmp .ne 5, 3) := by decide +kernel
theorem d_Model_put_71 : decode b_Model_put 71 = .ok (.iconst (-1), 1) := by decide +kernel
theorem d_Model_put_72 : decode b_Model_put 72 = .ok (.ireturn, 1) := by decide +kernel
theorem d_Model_put_73 : decode b_Model_put 73 = .ok (.aload_n 0, 1) := by decide +kernel
theorem d_Model_put_74 : decode b_Model_put 74 = .ok (.getfield 7, 3) := by decide +kernel
theorem d_Model_put_77 : decode b_Model_put 77 = .ok (.aload_n 0, 1) := by decide +kernel
theorem d_Model_put_78 : decode b_Model_put 78 = .ok (.getfield 64, 3) := by decide +kernel
theorem d_Model_put_81 : decode b_Model_put 81 = .ok (.iload_n 1, 1) := by decide +kernel
theorem d_Model_put_82 : decode b_Model_put 82 = .ok (.iastore, 1) := by decide +kernel
theorem d_Model_put_83 : decode b_Model_put 83 = .ok (.aload_n 0, 1) := by decide +kernel
theorem d_Model_put_84 : decode b_Model_put 84 = .ok (.getfield 13, 3) := by decide +kernel
theorem d_Model_put_87 : decode b_Model_put 87 = .ok (.aload_n 0, 1) := by decide +kernel
theorem d_Model_put_88 : decode b_Model_put 88 = .ok (.getfield 64, 3) := by decide +kernel
theorem d_Model_put_91 : decode b_Model_put 91 = .ok (.iload_n 2, 1) := by decide +kernel
theorem d_Model_put_92 : decode b_Model_put 92 = .ok (.iastore, 1) := by decide +kernel
theorem d_Model_put_93 : decode b_Model_put 93 = .ok (.aload_n 0, 1) := by decide +kernel
theorem d_Model_put_94 : decode b_Model_put 94 = .ok (.dup, 1) := by decide +kernel
theorem d_Model_put_95 : decode b_Model_put 95 = .ok (.getfield 64, 3) := by decide +kernel
theorem d_Model_put_98 : decode b_Model_put 98 = .ok (.iconst 1, 1) := by decide +kernel
theorem d_Model_put_99 : decode b_Model_put 99 = .ok (.iadd, 1) := by decide +kernel
theorem d_Model_put_100 : decode b_Model_put 100 = .ok (.putfield 64, 3) := by decide +kernel
theorem d_Model_put_103 : decode b_Model_put 103 = .ok (.aload_n 0, 1) := by decide +kernel
theorem d_Model_put_104 : decode b_Model_put 104 = .ok (.getfield 64, 3) := by decide +kernel
theorem d_Model_put_107 : decode b_Model_put 107 = .ok (.ireturn, 1) := by decide +kernel
theorem d_Model_count_0 : decode b_Model_count 0 = .ok (.aload_n 0, 1) := by decide +kernel
theorem d_Model_count_1 : decode b_Model_count 1 = .ok (.iconst 0, 1) := by decide +kernel
theorem d_Model_count_2 : decode b_Model_count 2 = .ok (.putfield 56, 3) := by decide +kernel
theorem d_Model_count_5 : decode b_Model_count 5 = .ok (.aload_n 0, 1) := by decide +kernel
theorem d_Model_count_6 : decode b_Model_count 6 = .ok (.getfield 70, 3) := by decide +kernel
theorem d_Model_count_9 : decode b_Model_count 9 = .ok (.ifCond .le 7, 3) := by decide +kernel
theorem d_Model_count_12 : decode b_Model_count 12 = .ok (.iconst 1, 1) := by decide +kernel
theorem d_Model_count_13 : decode b_Model_count 13 = .ok (.goto 4, 3) := by decide +kernel
theorem d_Model_count_16 : decode b_Model_count 16 = .ok (.iconst 0, 1) := by decide +kernel
theorem d_Model_count_17 : decode b_Model_count 17 = .ok (.istore_n 2, 1) := by decide +kernel
theorem d_Model_count_18 : decode b_Model_count 18 = .ok (.iload_n 1, 1) := by decide +kernel
theorem d_Model_count_19 : decode b_Model_count 19 = .ok (.tableswitch 157 0 8 #[49, 54, 67, 72, 85, 98, 111, 124, 144], 49) := by decide +kernel
theorem d_Model_count_68 : decode b_Model_count 68 = .ok (.aload_n 0, 1) := by decide +kernel
theorem d_Model_count_69 : decode b_Model_count 69 = .ok (.getfield 64, 3) := by decide +kernel
theorem d_Model_count_72 : decode b_Model_count 72 = .ok (.ireturn, 1) := by decide +kernel
theorem d_Model_count_73 : decode b_Model_count 73 = .ok (.iload_n 2, 1) := by decide +kernel
theorem d_Model_count_74 : decode b_Model_count 74 = .ok (.ifCond .eq 10, 3) := by decide +kernel
theorem d_Model_count_77 : decode b_Model_count 77 = .ok (.aload_n 0, 1) := by decide +kernel
theorem d_Model_count_78 : decode b_Model_count 78 = .ok (.getfield 67, 3) := by decide +kernel
theorem d_Model_count_81 : decode b_Model_count 81 = .ok (.goto 4, 3) := by decide +kernel
theorem d_Model_count_84 : decode b_Model_count 84 = .ok (.iconst 0, 1) := by decide +kernel
theorem d_Model_count_85 : decode b_Model_count 85 = .ok (.ireturn, 1) := by decide +kernel
theorem d_Model_count_86 : decode b_Model_count 86 = .ok (.aload_n 0, 1) := by decide +kernel
theorem d_Model_count_87 : decode b_Model_count 87 = .ok (.getfield 70, 3) := by decide +kernel
theorem d_Model_count_90 : decode b_Model_count 90 = .ok (.ireturn, 1) := by decide +kernel
theorem d_Model_count_91 : decode b_Model_count 91 = .ok (.iload_n 2, 1) := by decide +kernel
theorem d_Model_count_92 : decode b_Model_count 92 = .ok (.ifCond .eq 10, 3) := by decide +kernel
theorem d_Model_count_95 : decode b_Model_count 95 = .ok (.aload_n 0, 1) := by decide +kernel
theorem d_Model_count_96 : decode b_Model_count 96 = .ok (.getfield 80, 3) := by decide +kernel
theorem d_Model_count_99 : decode b_Model_count 99 = .ok (.goto 4, 3) := by decide +kernel
theorem d_Model_count_102 : decode b_Model_count 102 = .ok (.iconst 0, 1) := by decide +kernel
theorem d_Model_count_103 : decode b_Model_count 103 = .ok (.ireturn, 1) := by decide +kernel
theorem d_Model_count_104 : decode b_Model_count 104 = .ok (.iload_n 2, 1) := by decide +kernel
theorem d_Model_count_105 : decode b_Model_count 105 = .ok (.ifCond .eq 10, 3) := by decide +kernel
theorem d_Model_count_108 : decode b_Model_count 108 = .ok (.aload_n 0, 1) := by decide +kernel
theorem d_Model_count_109 : decode b_Model_count 109 = .ok (.getfield 83, 3) := by decide +kernel
theorem d_Model_count_112 : decode b_Model_count 112 = .ok (.goto 4, 3) := by decide +kernel
theorem d_Model_count_115 : decode b_Model_count 115 = .ok (.iconst 0, 1) := by decide +kernel
theorem d_Model_count_116 : decode b_Model_count 116 = .ok (.ireturn, 1) := by decide +kernel
theorem d_Model_count_117 : decode b_Model_count 117 = .ok (.iload_n 2, 1) := by decide +kernel
theorem d_Model_count_118 : decode b_Model_count 118 = .ok (.ifCond .eq 10, 3) := by decide +kernel
theorem d_Model_count_121 : decode b_Model_count 121 = .ok (.aload_n 0, 1) := by decide +kernel
theorem d_Model_count_122 : decode b_Model_count 122 = .ok (.getfield 86, 3) := by decide +kernel
theorem d_Model_count_125 : decode b_Model_count 125 = .ok (.goto 4, 3) := by decide +kernel
theorem d_Model_count_128 : decode b_Model_count 128 = .ok (.iconst 0, 1) := by decide +kernel
theorem d_Model_count_129 : decode b_Model_count 129 = .ok (.ireturn, 1) := by decide +kernel
theorem d_Model_count_130 : decode b_Model_count 130 = .ok (.iload_n 2, 1) := by decide +kernel
theorem d_Model_count_131 : decode b_Model_count 131 = .ok (.ifCond .eq 10, 3) := by decide +kernel
theorem d_Model_count_134 : decode b_Model_count 134 = .ok (.aload_n 0, 1) := by decide +kernel
theorem d_Model_count_135 : decode b_Model_count 135 = .ok (.invokevirtual 133, 3) := by decide +kernel
theorem d_Model_count_138 : decode b_Model_count 138 = .ok (.goto 4, 3) := by decide +kernel
theorem d_Model_count_141 : decode b_Model_count 141 = .ok (.iconst 0, 1) := by decide +kernel
theorem d_Model_count_142 : decode b_Model_count 142 = .ok (.ireturn, 1) := by decide +kernel
theorem d_Model_count_143 : decode b_Model_count 143 = .ok (.iload_n 2, 1) := by decide +kernel
theorem d_Model_count_144 : decode b_Model_count 144 = .ok (.ifCond .eq 17, 3) := by decide +kernel
theorem d_Model_count_147 : decode b_Model_count 147 = .ok (.aload_n 0, 1) := by decide +kernel
theorem d_Model_count_148 : decode b_Model_count 148 = .ok (.getfield 92, 3) := by decide +kernel
theorem d_Model_count_151 : decode b_Model_count 151 = .ok (.ifCond .ne 10, 3) := by decide +kernel
theorem d_Model_count_154 : decode b_Model_count 154 = .ok (.aload_n 0, 1) := by decide +kernel
theorem d_Model_count_155 : decode b_Model_count 155 = .ok (.getfield 96, 3) := by decide +kernel
theorem d_Model_count_158 : decode b_Model_count 158 = .ok (.goto 4, 3) := by decide +kernel
theorem d_Model_count_161 : decode b_Model_count 161 = .ok (.iconst (-1), 1) := by decide +kernel
theorem d_Model_count_162 : decode b_Model_count 162 = .ok (.ireturn, 1) := by decide +kernel
theorem d_Model_count_163 : decode b_Model_count 163 = .ok (.iload_n 2, 1) := by decide +kernel
theorem d_Model_count_164 : decode b_Model_count 164 = .ok (.ifCond .eq 10, 3) := by decide +kernel
theorem d_Model_count_167 : decode b_Model_count 167 = .ok (.aload_n 0, 1) := by decide +kernel
theorem d_Model_count_168 : decode b_Model_count 168 = .ok (.getfield 89, 3) := by decide +kernel
theorem d_Model_count_171 : decode b_Model_count 171 = .ok (.goto 4, 3) := by decide +kernel
theorem d_Model_count_174 : decode b_Model_count 174 = .ok (.iconst 0, 1) := by decide +kernel
theorem d_Model_count_175 : decode b_Model_count 175 = .ok (.ireturn, 1) := by decide +kernel
theorem d_Model_count_176 : decode b_Model_count 176 = .ok (.iconst (-1), 1) := by decide +kernel
theorem d_Model_count_177 : decode b_Model_count 177 = .ok (.ireturn, 1) := by decide +kernel
theorem d_Model_result_0 : decode b_Model_result 0 = .ok (.aload_n 0, 1) := by decide +kernel
theorem d_Model_result_1 : decode b_Model_result 1 = .ok (.aload_n 0, 1) := by decide +kernel
theorem d_Model_result_2 : decode b_Model_result 2 = .ok (.getfield 70, 3) := by decide +kernel
theorem d_Model_result_5 : decode b_Model_result 5 = .ok (.iconst 2, 1) := by decide +kernel
theorem d_Model_result_6 : decode b_Model_result 6 = .ok (.if_icmp .eq 7, 3) := by decide +kernel
theorem d_Model_result_9 : decode b_Model_result 9 = .ok (.iconst 1, 1) := by decide +kernel
theorem d_Model_result_10 : decode b_Model_result 10 = .ok (.goto 4, 3) := by decide +kernel
theorem d_Model_result_13 : decode b_Model_result 13 = .ok (.iconst 0, 1) := by decide +kernel
theorem d_Model_result_14 : decode b_Model_result 14 = .ok (.iconst 0, 1) := by decide +kernel
theorem d_Model_result_15 : decode b_Model_result 15 = .ok (.invokevirtual 60, 3) := by decide +kernel
theorem d_Model_result_18 : decode b_Model_result 18 = .ok (.ifCond .eq 5, 3) := by decide +kernel
theorem d_Model_result_21 : decode b_Model_result 21 = .ok (.iconst 0, 1) := by decide +kernel
theorem d_Model_result_22 : decode b_Model_result 22 = .ok (.ireturn, 1) := by decide +kernel
theorem d_Model_result_23 : decode b_Model_result 23 = .ok (.iload_n 1, 1) := by decide +kernel
theorem d_Model_result_24 : decode b_Model_result 24 = .ok (.ifCond .ne 8, 3) := by decide +kernel
theorem d_Model_result_27 : decode b_Model_result 27 = .ok (.aload_n 0, 1) := by decide +kernel
theorem d_Model_result_28 : decode b_Model_result 28 = .ok (.getfield 109, 3) := by decide +kernel
theorem d_Model_result_31 : decode b_Model_result 31 = .ok (.ireturn, 1) := by decide +kernel
theorem d_Model_result_32 : decode b_Model_result 32 = .ok (.iload_n 1, 1) := by decide +kernel
theorem d_Model_result_33 : decode b_Model_result 33 = .ok (.iconst 1, 1) := by decide +kernel
theorem d_Model_result_34 : decode b_Model_result 34 = .ok (.if_icmp .ne 10, 3) := by decide +kernel
theorem d_Model_result_37 : decode b_Model_result 37 = .ok (.aload_n 0, 1) := by decide +kernel
theorem d_Model_result_38 : decode b_Model_result 38 = .ok (.getfield 109, 3) := by decide +kernel
theorem d_Model_result_41 : decode b_Model_result 41 = .ok (.ifCond .eq 16, 3) := by decide +kernel
theorem d_Model_result_44 : decode b_Model_result 44 = .ok (.iload_n 1, 1) := by decide +kernel
theorem d_Model_result_45 : decode b_Model_result 45 = .ok (.iconst 2, 1) := by decide +kernel
theorem d_Model_result_46 : decode b_Model_result 46 = .ok (.if_icmp .ne 18, 3) := by decide +kernel
theorem d_Model_result_49 : decode b_Model_result 49 = .ok (.aload_n 0, 1) := by decide +kernel
theorem d_Model_result_50 : decode b_Model_result 50 = .ok (.getfield 109, 3) := by decide +kernel
theorem d_Model_result_53 : decode b_Model_result 53 = .ok (.iconst 1, 1) := by decide +kernel
theorem d_Model_result_54 : decode b_Model_result 54 = .ok (.if_icmp .ne 10, 3) := by decide +kernel
theorem d_Model_result_57 : decode b_Model_result 57 = .ok (.aload_n 0, 1) := by decide +kernel
theorem d_Model_result_58 : decode b_Model_result 58 = .ok (.getfield 112, 3) := by decide +kernel
theorem d_Model_result_61 : decode b_Model_result 61 = .ok (.goto 4, 3) := by decide +kernel
theorem d_Model_result_64 : decode b_Model_result 64 = .ok (.iconst (-1), 1) := by decide +kernel
theorem d_Model_result_65 : decode b_Model_result 65 = .ok (.ireturn, 1) := by decide +kernel
