theorem d_Model_load_0 : decode b_Model_load 0 = .ok (.aload_n 0, 1) := by decide +kernel
theorem d_Model_load_1 : decode b_Model_load 1 = .ok (.iconst 0, 1) := by decide +kernel
theorem d_Model_load_2 : decode b_Model_load 2 = .ok (.putfield 56, 3) := by decide +kernel
theorem d_Model_load_5 : decode b_Model_load 5 = .ok (.aload_n 0, 1) := by decide +kernel
theorem d_Model_load_6 : decode b_Model_load 6 = .ok (.getfield 64, 3) := by decide +kernel
theorem d_Model_load_9 : decode b_Model_load 9 = .ok (.istore_n 1, 1) := by decide +kernel
theorem d_Model_load_10 : decode b_Model_load 10 = .ok (.aload_n 0, 1) := by decide +kernel
theorem d_Model_load_11 : decode b_Model_load 11 = .ok (.iconst 0, 1) := by decide +kernel
theorem d_Model_load_12 : decode b_Model_load 12 = .ok (.putfield 64, 3) := by decide +kernel
theorem d_Model_load_15 : decode b_Model_load 15 = .ok (.aload_n 0, 1) := by decide +kernel
theorem d_Model_load_16 : decode b_Model_load 16 = .ok (.iconst 0, 1) := by decide +kernel
theorem d_Model_load_17 : decode b_Model_load 17 = .ok (.putfield 67, 3) := by decide +kernel
theorem d_Model_load_20 : decode b_Model_load 20 = .ok (.aload_n 0, 1) := by decide +kernel
theorem d_Model_load_21 : decode b_Model_load 21 = .ok (.iconst 0, 1) := by decide +kernel
theorem d_Model_load_22 : decode b_Model_load 22 = .ok (.putfield 70, 3) := by decide +kernel
theorem d_Model_load_25 : decode b_Model_load 25 = .ok (.iconst 1, 1) := by decide +kernel
theorem d_Model_load_26 : decode b_Model_load 26 = .ok (.istore_n 2, 1) := by decide +kernel
theorem d_Model_load_27 : decode b_Model_load 27 = .ok (.aload_n 0, 1) := by decide +kernel
theorem d_Model_load_28 : decode b_Model_load 28 = .ok (.getfield 25, 3) := by decide +kernel
theorem d_Model_load_31 : decode b_Model_load 31 = .ok (.iconst 0, 1) := by decide +kernel
theorem d_Model_load_32 : decode b_Model_load 32 = .ok (.iconst (-1), 1) := by decide +kernel
theorem d_Model_load_33 : decode b_Model_load 33 = .ok (.iastore, 1) := by decide +kernel
theorem d_Model_load_34 : decode b_Model_load 34 = .ok (.aload_n 0, 1) := by decide +kernel
theorem d_Model_load_35 : decode b_Model_load 35 = .ok (.getfield 28, 3) := by decide +kernel
theorem d_Model_load_38 : decode b_Model_load 38 = .ok (.iconst 0, 1) := by decide +kernel
theorem d_Model_load_39 : decode b_Model_load 39 = .ok (.iconst 0, 1) := by decide +kernel
theorem d_Model_load_40 : decode b_Model_load 40 = .ok (.iastore, 1) := by decide +kernel
theorem d_Model_load_41 : decode b_Model_load 41 = .ok (.iconst 0, 1) := by decide +kernel
theorem d_Model_load_42 : decode b_Model_load 42 = .ok (.istore_n 3, 1) := by decide +kernel
theorem d_Model_load_43 : decode b_Model_load 43 = .ok (.iload_n 3, 1) := by decide +kernel
theorem d_Model_load_44 : decode b_Model_load 44 = .ok (.iload_n 1, 1) := by decide +kernel
theorem d_Model_load_45 : decode b_Model_load 45 = .ok (.if_icmp .ge 205, 3) := by decide +kernel
theorem d_Model_load_48 : decode b_Model_load 48 = .ok (.iload_n 2, 1) := by decide +kernel
theorem d_Model_load_49 : decode b_Model_load 49 = .ok (.ifCond .ne 7, 3) := by decide +kernel
theorem d_Model_load_52 : decode b_Model_load 52 = .ok (.iconst 1, 1) := by decide +kernel
theorem d_Model_load_53 : decode b_Model_load 53 = .ok (.iload_n 3, 1) := by decide +kernel
theorem d_Model_load_54 : decode b_Model_load 54 = .ok (.iadd, 1) := by decide +kernel
theorem d_Model_load_55 : decode b_Model_load 55 = .ok (.ireturn, 1) := by decide +kernel
theorem d_Model_load_56 : decode b_Model_load 56 = .ok (.iinc 2 (-1), 3) := by decide +kernel
theorem d_Model_load_59 : decode b_Model_load 59 = .ok (.aload_n 0, 1) := by decide +kernel
theorem d_Model_load_60 : decode b_Model_load 60 = .ok (.getfield 28, 3) := by decide +kernel
theorem d_Model_load_63 : decode b_Model_load 63 = .ok (.iload_n 2, 1) := by decide +kernel
theorem d_Model_load_64 : decode b_Model_load 64 = .ok (.iaload, 1) := by decide +kernel
theorem d_Model_load_65 : decode b_Model_load 65 = .ok (.istore 4, 2) := by decide +kernel
theorem d_Model_load_67 : decode b_Model_load 67 = .ok (.aload_n 0, 1) := by decide +kernel
theorem d_Model_load_68 : decode b_Model_load 68 = .ok (.getfield 25, 3) := by decide +kernel
theorem d_Model_load_71 : decode b_Model_load 71 = .ok (.iload_n 2, 1) := by decide +kernel
theorem d_Model_load_72 : decode b_Model_load 72 = .ok (.iaload, 1) := by decide +kernel
theorem d_Model_load_73 : decode b_Model_load 73 = .ok (.iconst (-1), 1) := by decide +kernel
theorem d_Model_load_74 : decode b_Model_load 74 = .ok (.if_icmp .eq 15, 3) := by decide +kernel
theorem d_Model_load_77 : decode b_Model_load 77 = .ok (.aload_n 0, 1) := by decide +kernel
theorem d_Model_load_78 : decode b_Model_load 78 = .ok (.getfield 22, 3) := by decide +kernel
theorem d_Model_load_81 : decode b_Model_load 81 = .ok (.aload_n 0, 1) := by decide +kernel
theorem d_Model_load_82 : decode b_Model_load 82 = .ok (.getfield 25, 3) := by decide +kernel
theorem d_Model_load_85 : decode b_Model_load 85 = .ok (.iload_n 2, 1) := by decide +kernel
theorem d_Model_load_86 : decode b_Model_load 86 = .ok (.iaload, 1) := by decide +kernel
theorem d_Model_load_87 : decode b_Model_load 87 = .ok (.iload_n 3, 1) := by decide +kernel
theorem d_Model_load_88 : decode b_Model_load 88 = .ok (.iastore, 1) := by decide +kernel
theorem d_Model_load_89 : decode b_Model_load 89 = .ok (.aload_n 0, 1) := by decide +kernel
theorem d_Model_load_90 : decode b_Model_load 90 = .ok (.getfield 7, 3) := by decide +kernel
theorem d_Model_load_93 : decode b_Model_load 93 = .ok (.iload_n 3, 1) := by decide +kernel
theorem d_Model_load_94 : decode b_Model_load 94 = .ok (.iaload, 1) := by decide +kernel
theorem d_Model_load_95 : decode b_Model_load 95 = .ok (.ifCond .ne 18, 3) := by decide +kernel
theorem d_Model_load_98 : decode b_Model_load 98 = .ok (.aload_n 0, 1) := by decide +kernel
theorem d_Model_load_99 : decode b_Model_load 99 = .ok (.getfield 13, 3) := by decide +kernel
theorem d_Model_load_102 : decode b_Model_load 102 = .ok (.iload_n 3, 1) := by decide +kernel
theorem d_Model_load_103 : decode b_Model_load 103 = .ok (.iaload, 1) := by decide +kernel
theorem d_Model_load_104 : decode b_Model_load 104 = .ok (.iload 4, 2) := by decide +kernel
theorem d_Model_load_106 : decode b_Model_load 106 = .ok (.if_icmp .lt 7, 3) := by decide +kernel
theorem d_Model_load_109 : decode b_Model_load 109 = .ok (.iconst 1, 1) := by decide +kernel
theorem d_Model_load_110 : decode b_Model_load 110 = .ok (.iload_n 3, 1) := by decide +kernel
theorem d_Model_load_111 : decode b_Model_load 111 = .ok (.iadd, 1) := by decide +kernel
theorem d_Model_load_112 : decode b_Model_load 112 = .ok (.ireturn, 1) := by decide +kernel
theorem d_Model_load_113 : decode b_Model_load 113 = .ok (.aload_n 0, 1) := by decide +kernel
theorem d_Model_load_114 : decode b_Model_load 114 = .ok (.getfield 16, 3) := by decide +kernel
theorem d_Model_load_117 : decode b_Model_load 117 = .ok (.iload_n 3, 1) := by decide +kernel
theorem d_Model_load_118 : decode b_Model_load 118 = .ok (.aload_n 0, 1) := by decide +kernel
theorem d_Model_load_119 : decode b_Model_load 119 = .ok (.getfield 7, 3) := by decide +kernel
theorem d_Model_load_122 : decode b_Model_load 122 = .ok (.iload_n 3, 1) := by decide +kernel
theorem d_Model_load_123 : decode b_Model_load 123 = .ok (.iaload, 1) := by decide +kernel
theorem d_Model_load_124 : decode b_Model_load 124 = .ok (.iastore, 1) := by decide +kernel
theorem d_Model_load_125 : decode b_Model_load 125 = .ok (.aload_n 0, 1) := by decide +kernel
theorem d_Model_load_126 : decode b_Model_load 126 = .ok (.getfield 19, 3) := by decide +kernel
theorem d_Model_load_129 : decode b_Model_load 129 = .ok (.iload_n 3, 1) := by decide +kernel
theorem d_Model_load_130 : decode b_Model_load 130 = .ok (.aload_n 0, 1) := by decide +kernel
theorem d_Model_load_131 : decode b_Model_load 131 = .ok (.getfield 13, 3) := by decide +kernel
theorem d_Model_load_134 : decode b_Model_load 134 = .ok (.iload_n 3, 1) := by decide +kernel
theorem d_Model_load_135 : decode b_Model_load 135 = .ok (.iaload, 1) := by decide +kernel
theorem d_Model_load_136 : decode b_Model_load 136 = .ok (.iastore, 1) := by decide +kernel
theorem d_Model_load_137 : decode b_Model_load 137 = .ok (.aload_n 0, 1) := by decide +kernel
theorem d_Model_load_138 : decode b_Model_load 138 = .ok (.getfield 7, 3) := by decide +kernel
theorem d_Model_load_141 : decode b_Model_load 141 = .ok (.iload_n 3, 1) := by decide +kernel
theorem d_Model_load_142 : decode b_Model_load 142 = .ok (.iaload, 1) := by decide +kernel
theorem d_Model_load_143 : decode b_Model_load 143 = .ok (.invokestatic 73, 3) := by decide +kernel
theorem d_Model_load_146 : decode b_Model_load 146 = .ok (.istore 5, 2) := by decide +kernel
theorem d_Model_load_148 : decode b_Model_load 148 = .ok (.iload 5, 2) := by decide +kernel
theorem d_Model_load_150 : decode b_Model_load 150 = .ok (.iconst 1, 1) := by decide +kernel
theorem d_Model_load_151 : decode b_Model_load 151 = .ok (.isub, 1) := by decide +kernel
theorem d_Model_load_152 : decode b_Model_load 152 = .ok (.istore 6, 2) := by decide +kernel
theorem d_Model_load_154 : decode b_Model_load 154 = .ok (.iload 6, 2) := by decide +kernel
theorem d_Model_load_156 : decode b_Model_load 156 = .ok (.ifCond .lt 88, 3) := by decide +kernel
theorem d_Model_load_159 : decode b_Model_load 159 = .ok (.aload_n 0, 1) := by decide +kernel
theorem d_Model_load_160 : decode b_Model_load 160 = .ok (.getfield 7, 3) := by decide +kernel
theorem d_Model_load_163 : decode b_Model_load 163 = .ok (.iload_n 3, 1) := by decide +kernel
theorem d_Model_load_164 : decode b_Model_load 164 = .ok (.iaload, 1) := by decide +kernel
theorem d_Model_load_165 : decode b_Model_load 165 = .ok (.iconst 1, 1) := by decide +kernel
theorem d_Model_load_166 : decode b_Model_load 166 = .ok (.if_icmp .eq 31, 3) := by decide +kernel
theorem d_Model_load_169 : decode b_Model_load 169 = .ok (.aload_n 0, 1) := by decide +kernel
theorem d_Model_load_170 : decode b_Model_load 170 = .ok (.getfield 7, 3) := by decide +kernel
theorem d_Model_load_173 : decode b_Model_load 173 = .ok (.iload_n 3, 1) := by decide +kernel
theorem d_Model_load_174 : decode b_Model_load 174 = .ok (.iaload, 1) := by decide +kernel
theorem d_Model_load_175 : decode b_Model_load 175 = .ok (.bipush 9, 2) := by decide +kernel
theorem d_Model_load_177 : decode b_Model_load 177 = .ok (.if_icmp .eq 20, 3) := by decide +kernel
theorem d_Model_load_180 : decode b_Model_load 180 = .ok (.aload_n 0, 1) := by decide +kernel
theorem d_Model_load_181 : decode b_Model_load 181 = .ok (.getfield 7, 3) := by decide +kernel
theorem d_Model_load_184 : decode b_Model_load 184 = .ok (.iload_n 3, 1) := by decide +kernel
theorem d_Model_load_185 : decode b_Model_load 185 = .ok (.iaload, 1) := by decide +kernel
theorem d_Model_load_186 : decode b_Model_load 186 = .ok (.bipush 10, 2) := by decide +kernel
theorem d_Model_load_188 : decode b_Model_load 188 = .ok (.if_icmp .ne 13, 3) := by decide +kernel
theorem d_Model_load_191 : decode b_Model_load 191 = .ok (.iload 6, 2) := by decide +kernel
theorem d_Model_load_193 : decode b_Model_load 193 = .ok (.iconst 1, 1) := by decide +kernel
theorem d_Model_load_194 : decode b_Model_load 194 = .ok (.if_icmp .ne 7, 3) := by decide +kernel
theorem d_Model_load_197 : decode b_Model_load 197 = .ok (.iconst 1, 1) := by decide +kernel
theorem d_Model_load_198 : decode b_Model_load 198 = .ok (.goto 4, 3) := by decide +kernel
theorem d_Model_load_201 : decode b_Model_load 201 = .ok (.iconst 0, 1) := by decide +kernel
theorem d_Model_load_202 : decode b_Model_load 202 = .ok (.istore 7, 2) := by decide +kernel
theorem d_Model_load_204 : decode b_Model_load 204 = .ok (.aload_n 0, 1) := by decide +kernel
theorem d_Model_load_205 : decode b_Model_load 205 = .ok (.getfield 25, 3) := by decide +kernel
theorem d_Model_load_208 : decode b_Model_load 208 = .ok (.iload_n 2, 1) := by decide +kernel
theorem d_Model_load_209 : decode b_Model_load 209 = .ok (.iconst 3, 1) := by decide +kernel
theorem d_Model_load_210 : decode b_Model_load 210 = .ok (.iload_n 3, 1) := by decide +kernel
theorem d_Model_load_211 : decode b_Model_load 211 = .ok (.imul, 1) := by decide +kernel
theorem d_Model_load_212 : decode b_Model_load 212 = .ok (.iload 6, 2) := by decide +kernel
theorem d_Model_load_214 : decode b_Model_load 214 = .ok (.iadd, 1) := by decide +kernel
theorem d_Model_load_215 : decode b_Model_load 215 = .ok (.iastore, 1) := by decide +kernel
theorem d_Model_load_216 : decode b_Model_load 216 = .ok (.aload_n 0, 1) := by decide +kernel
theorem d_Model_load_217 : decode b_Model_load 217 = .ok (.getfield 28, 3) := by decide +kernel
theorem d_Model_load_220 : decode b_Model_load 220 = .ok (.iload_n 2, 1) := by decide +kernel
theorem d_Model_load_221 : decode b_Model_load 221 = .ok (.iload 4, 2) := by decide +kernel
theorem d_Model_load_223 : decode b_Model_load 223 = .ok (.iload 7, 2) := by decide +kernel
theorem d_Model_load_225 : decode b_Model_load 225 = .ok (.ifCond .eq 7, 3) := by decide +kernel
theorem d_Model_load_228 : decode b_Model_load 228 = .ok (.iconst 1, 1) := by decide +kernel
theorem d_Model_load_229 : decode b_Model_load 229 = .ok (.goto 4, 3) := by decide +kernel
theorem d_Model_load_232 : decode b_Model_load 232 = .ok (.iconst 0, 1) := by decide +kernel
theorem d_Model_load_233 : decode b_Model_load 233 = .ok (.iadd, 1) := by decide +kernel
theorem d_Model_load_234 : decode b_Model_load 234 = .ok (.iastore, 1) := by decide +kernel
theorem d_Model_load_235 : decode b_Model_load 235 = .ok (.iinc 2 1, 3) := by decide +kernel
theorem d_Model_load_238 : decode b_Model_load 238 = .ok (.iinc 6 (-1), 3) := by decide +kernel
theorem d_Model_load_241 : decode b_Model_load 241 = .ok (.goto (-87), 3) := by decide +kernel
theorem d_Model_load_244 : decode b_Model_load 244 = .ok (.iinc 3 1, 3) := by decide +kernel
theorem d_Model_load_247 : decode b_Model_load 247 = .ok (.goto (-204), 3) := by decide +kernel
theorem d_Model_load_250 : decode b_Model_load 250 = .ok (.iload_n 2, 1) := by decide +kernel
theorem d_Model_load_251 : decode b_Model_load 251 = .ok (.ifCond .le 7, 3) := by decide +kernel
theorem d_Model_load_254 : decode b_Model_load 254 = .ok (.iconst 1, 1) := by decide +kernel
theorem d_Model_load_255 : decode b_Model_load 255 = .ok (.iload_n 1, 1) := by decide +kernel
theorem d_Model_load_256 : decode b_Model_load 256 = .ok (.iadd, 1) := by decide +kernel
theorem d_Model_load_257 : decode b_Model_load 257 = .ok (.ireturn, 1) := by decide +kernel
theorem d_Model_load_258 : decode b_Model_load 258 = .ok (.aload_n 0, 1) := by decide +kernel
theorem d_Model_load_259 : decode b_Model_load 259 = .ok (.iload_n 1, 1) := by decide +kernel
theorem d_Model_load_260 : decode b_Model_load 260 = .ok (.putfield 67, 3) := by decide +kernel
theorem d_Model_load_263 : decode b_Model_load 263 = .ok (.aload_n 0, 1) := by decide +kernel
theorem d_Model_load_264 : decode b_Model_load 264 = .ok (.invokevirtual 77, 3) := by decide +kernel
theorem d_Model_load_267 : decode b_Model_load 267 = .ok (.iconst 0, 1) := by decide +kernel
theorem d_Model_load_268 : decode b_Model_load 268 = .ok (.ireturn, 1) := by decide +kernel
