theorem dX0_init_0 : decode cX0_init 0 = .ok (.aload_n 0, 1) := by decide +kernel
theorem dX0_init_1 : decode cX0_init 1 = .ok (.invokespecial 3, 3) := by decide +kernel
theorem dX0_init_4 : decode cX0_init 4 = .ok (.aload_n 0, 1) := by decide +kernel
theorem dX0_init_5 : decode cX0_init 5 = .ok (.bipush 20, 2) := by decide +kernel
theorem dX0_init_7 : decode cX0_init 7 = .ok (.newarray .int, 2) := by decide +kernel
theorem dX0_init_9 : decode cX0_init 9 = .ok (.putfield 9, 3) := by decide +kernel
theorem dX0_init_12 : decode cX0_init 12 = .ok (.aload_n 0, 1) := by decide +kernel
theorem dX0_init_13 : decode cX0_init 13 = .ok (.bipush 6, 2) := by decide +kernel
theorem dX0_init_15 : decode cX0_init 15 = .ok (.newarray .int, 2) := by decide +kernel
theorem dX0_init_17 : decode cX0_init 17 = .ok (.putfield 15, 3) := by decide +kernel
theorem dX0_init_20 : decode cX0_init 20 = .ok (.aload_n 0, 1) := by decide +kernel
theorem dX0_init_21 : decode cX0_init 21 = .ok (.iconst 0, 1) := by decide +kernel
theorem dX0_init_22 : decode cX0_init 22 = .ok (.putfield 18, 3) := by decide +kernel
theorem dX0_init_25 : decode cX0_init 25 = .ok (.aload_n 0, 1) := by decide +kernel
theorem dX0_init_26 : decode cX0_init 26 = .ok (.iconst 0, 1) := by decide +kernel
theorem dX0_init_27 : decode cX0_init 27 = .ok (.putfield 22, 3) := by decide +kernel
theorem dX0_init_30 : decode cX0_init 30 = .ok (.return_, 1) := by decide +kernel
theorem dX0_claimedTerms_0 : decode cX0_claimedTerms 0 = .ok (.iconst 0, 1) := by decide +kernel
theorem dX0_claimedTerms_1 : decode cX0_claimedTerms 1 = .ok (.istore_n 1, 1) := by decide +kernel
theorem dX0_claimedTerms_2 : decode cX0_claimedTerms 2 = .ok (.iconst 0, 1) := by decide +kernel
theorem dX0_claimedTerms_3 : decode cX0_claimedTerms 3 = .ok (.istore_n 2, 1) := by decide +kernel
theorem dX0_claimedTerms_4 : decode cX0_claimedTerms 4 = .ok (.iload_n 2, 1) := by decide +kernel
theorem dX0_claimedTerms_5 : decode cX0_claimedTerms 5 = .ok (.aload_n 0, 1) := by decide +kernel
theorem dX0_claimedTerms_6 : decode cX0_claimedTerms 6 = .ok (.getfield 18, 3) := by decide +kernel
theorem dX0_claimedTerms_9 : decode cX0_claimedTerms 9 = .ok (.if_icmp .ge 20, 3) := by decide +kernel
theorem dX0_claimedTerms_12 : decode cX0_claimedTerms 12 = .ok (.iload_n 1, 1) := by decide +kernel
theorem dX0_claimedTerms_13 : decode cX0_claimedTerms 13 = .ok (.iconst 1, 1) := by decide +kernel
theorem dX0_claimedTerms_14 : decode cX0_claimedTerms 14 = .ok (.aload_n 0, 1) := by decide +kernel
theorem dX0_claimedTerms_15 : decode cX0_claimedTerms 15 = .ok (.getfield 9, 3) := by decide +kernel
theorem dX0_claimedTerms_18 : decode cX0_claimedTerms 18 = .ok (.iload_n 2, 1) := by decide +kernel
theorem dX0_claimedTerms_19 : decode cX0_claimedTerms 19 = .ok (.iaload, 1) := by decide +kernel
theorem dX0_claimedTerms_20 : decode cX0_claimedTerms 20 = .ok (.ishl, 1) := by decide +kernel
theorem dX0_claimedTerms_21 : decode cX0_claimedTerms 21 = .ok (.ior, 1) := by decide +kernel
theorem dX0_claimedTerms_22 : decode cX0_claimedTerms 22 = .ok (.istore_n 1, 1) := by decide +kernel
theorem dX0_claimedTerms_23 : decode cX0_claimedTerms 23 = .ok (.iinc 2 1, 3) := by decide +kernel
theorem dX0_claimedTerms_26 : decode cX0_claimedTerms 26 = .ok (.goto (-22), 3) := by decide +kernel
theorem dX0_claimedTerms_29 : decode cX0_claimedTerms 29 = .ok (.iload_n 1, 1) := by decide +kernel
theorem dX0_claimedTerms_30 : decode cX0_claimedTerms 30 = .ok (.ireturn, 1) := by decide +kernel
theorem dX1_operate_0 : decode cX1_operate 0 = .ok (.iload_n 0, 1) := by decide +kernel
theorem dX1_operate_1 : decode cX1_operate 1 = .ok (.tableswitch 262 2 16 #[75, 80, 85, 91, 100, 106, 127, 262, 148, 173, 187, 201, 223, 236, 249], 75) := by decide +kernel
theorem dX1_operate_76 : decode cX1_operate 76 = .ok (.iload_n 1, 1) := by decide +kernel
theorem dX1_operate_77 : decode cX1_operate 77 = .ok (.invokestatic 9, 3) := by decide +kernel
theorem dX1_operate_80 : decode cX1_operate 80 = .ok (.ireturn, 1) := by decide +kernel
theorem dX1_operate_81 : decode cX1_operate 81 = .ok (.iload_n 1, 1) := by decide +kernel
theorem dX1_operate_82 : decode cX1_operate 82 = .ok (.bipush 15, 2) := by decide +kernel
theorem dX1_operate_84 : decode cX1_operate 84 = .ok (.iand, 1) := by decide +kernel
theorem dX1_operate_85 : decode cX1_operate 85 = .ok (.ireturn, 1) := by decide +kernel
theorem dX1_operate_86 : decode cX1_operate 86 = .ok (.iload_n 1, 1) := by decide +kernel
theorem dX1_operate_87 : decode cX1_operate 87 = .ok (.iload_n 2, 1) := by decide +kernel
theorem dX1_operate_88 : decode cX1_operate 88 = .ok (.invokestatic 15, 3) := by decide +kernel
theorem dX1_operate_91 : decode cX1_operate 91 = .ok (.ireturn, 1) := by decide +kernel
theorem dX1_operate_92 : decode cX1_operate 92 = .ok (.iload_n 1, 1) := by decide +kernel
theorem dX1_operate_93 : decode cX1_operate 93 = .ok (.iload_n 2, 1) := by decide +kernel
theorem dX1_operate_94 : decode cX1_operate 94 = .ok (.invokestatic 9, 3) := by decide +kernel
theorem dX1_operate_97 : decode cX1_operate 97 = .ok (.invokestatic 15, 3) := by decide +kernel
theorem dX1_operate_100 : decode cX1_operate 100 = .ok (.ireturn, 1) := by decide +kernel
theorem dX1_operate_101 : decode cX1_operate 101 = .ok (.iload_n 1, 1) := by decide +kernel
theorem dX1_operate_102 : decode cX1_operate 102 = .ok (.iload_n 2, 1) := by decide +kernel
theorem dX1_operate_103 : decode cX1_operate 103 = .ok (.invokestatic 19, 3) := by decide +kernel
theorem dX1_operate_106 : decode cX1_operate 106 = .ok (.ireturn, 1) := by decide +kernel
theorem dX1_operate_107 : decode cX1_operate 107 = .ok (.iload_n 1, 1) := by decide +kernel
theorem dX1_operate_108 : decode cX1_operate 108 = .ok (.invokestatic 22, 3) := by decide +kernel
theorem dX1_operate_111 : decode cX1_operate 111 = .ok (.ifCond .ne 11, 3) := by decide +kernel
theorem dX1_operate_114 : decode cX1_operate 114 = .ok (.iload_n 2, 1) := by decide +kernel
theorem dX1_operate_115 : decode cX1_operate 115 = .ok (.iload_n 1, 1) := by decide +kernel
theorem dX1_operate_116 : decode cX1_operate 116 = .ok (.invokestatic 26, 3) := by decide +kernel
theorem dX1_operate_119 : decode cX1_operate 119 = .ok (.ifCond .eq 7, 3) := by decide +kernel
theorem dX1_operate_122 : decode cX1_operate 122 = .ok (.iload_n 2, 1) := by decide +kernel
theorem dX1_operate_123 : decode cX1_operate 123 = .ok (.goto 4, 3) := by decide +kernel
theorem dX1_operate_126 : decode cX1_operate 126 = .ok (.iload_n 1, 1) := by decide +kernel
theorem dX1_operate_127 : decode cX1_operate 127 = .ok (.ireturn, 1) := by decide +kernel
theorem dX1_operate_128 : decode cX1_operate 128 = .ok (.iload_n 1, 1) := by decide +kernel
theorem dX1_operate_129 : decode cX1_operate 129 = .ok (.invokestatic 22, 3) := by decide +kernel
theorem dX1_operate_132 : decode cX1_operate 132 = .ok (.ifCond .ne 11, 3) := by decide +kernel
theorem dX1_operate_135 : decode cX1_operate 135 = .ok (.iload_n 1, 1) := by decide +kernel
theorem dX1_operate_136 : decode cX1_operate 136 = .ok (.iload_n 2, 1) := by decide +kernel
theorem dX1_operate_137 : decode cX1_operate 137 = .ok (.invokestatic 26, 3) := by decide +kernel
theorem dX1_operate_140 : decode cX1_operate 140 = .ok (.ifCond .eq 7, 3) := by decide +kernel
theorem dX1_operate_143 : decode cX1_operate 143 = .ok (.iload_n 2, 1) := by decide +kernel
theorem dX1_operate_144 : decode cX1_operate 144 = .ok (.goto 4, 3) := by decide +kernel
theorem dX1_operate_147 : decode cX1_operate 147 = .ok (.iload_n 1, 1) := by decide +kernel
theorem dX1_operate_148 : decode cX1_operate 148 = .ok (.ireturn, 1) := by decide +kernel
theorem dX1_operate_149 : decode cX1_operate 149 = .ok (.iload_n 1, 1) := by decide +kernel
theorem dX1_operate_150 : decode cX1_operate 150 = .ok (.iload_n 2, 1) := by decide +kernel
theorem dX1_operate_151 : decode cX1_operate 151 = .ok (.if_icmp .eq 17, 3) := by decide +kernel
theorem dX1_operate_154 : decode cX1_operate 154 = .ok (.iload_n 1, 1) := by decide +kernel
theorem dX1_operate_155 : decode cX1_operate 155 = .ok (.invokestatic 22, 3) := by decide +kernel
theorem dX1_operate_158 : decode cX1_operate 158 = .ok (.ifCond .eq 14, 3) := by decide +kernel
theorem dX1_operate_161 : decode cX1_operate 161 = .ok (.iload_n 2, 1) := by decide +kernel
theorem dX1_operate_162 : decode cX1_operate 162 = .ok (.invokestatic 22, 3) := by decide +kernel
theorem dX1_operate_165 : decode cX1_operate 165 = .ok (.ifCond .eq 7, 3) := by decide +kernel
theorem dX1_operate_168 : decode cX1_operate 168 = .ok (.iconst 1, 1) := by decide +kernel
theorem dX1_operate_169 : decode cX1_operate 169 = .ok (.goto 4, 3) := by decide +kernel
theorem dX1_operate_172 : decode cX1_operate 172 = .ok (.iconst 0, 1) := by decide +kernel
theorem dX1_operate_173 : decode cX1_operate 173 = .ok (.ireturn, 1) := by decide +kernel
theorem dX1_operate_174 : decode cX1_operate 174 = .ok (.iload_n 1, 1) := by decide +kernel
theorem dX1_operate_175 : decode cX1_operate 175 = .ok (.iload_n 2, 1) := by decide +kernel
theorem dX1_operate_176 : decode cX1_operate 176 = .ok (.invokestatic 30, 3) := by decide +kernel
theorem dX1_operate_179 : decode cX1_operate 179 = .ok (.ifCond .eq 7, 3) := by decide +kernel
theorem dX1_operate_182 : decode cX1_operate 182 = .ok (.iconst 1, 1) := by decide +kernel
theorem dX1_operate_183 : decode cX1_operate 183 = .ok (.goto 4, 3) := by decide +kernel
theorem dX1_operate_186 : decode cX1_operate 186 = .ok (.iconst 0, 1) := by decide +kernel
theorem dX1_operate_187 : decode cX1_operate 187 = .ok (.ireturn, 1) := by decide +kernel
theorem dX1_operate_188 : decode cX1_operate 188 = .ok (.iload_n 1, 1) := by decide +kernel
theorem dX1_operate_189 : decode cX1_operate 189 = .ok (.iload_n 2, 1) := by decide +kernel
theorem dX1_operate_190 : decode cX1_operate 190 = .ok (.invokestatic 26, 3) := by decide +kernel
theorem dX1_operate_193 : decode cX1_operate 193 = .ok (.ifCond .eq 7, 3) := by decide +kernel
theorem dX1_operate_196 : decode cX1_operate 196 = .ok (.iconst 1, 1) := by decide +kernel
theorem dX1_operate_197 : decode cX1_operate 197 = .ok (.goto 4, 3) := by decide +kernel
theorem dX1_operate_200 : decode cX1_operate 200 = .ok (.iconst 0, 1) := by decide +kernel
theorem dX1_operate_201 : decode cX1_operate 201 = .ok (.ireturn, 1) := by decide +kernel
theorem dX1_operate_202 : decode cX1_operate 202 = .ok (.iload_n 1, 1) := by decide +kernel
theorem dX1_operate_203 : decode cX1_operate 203 = .ok (.iload_n 2, 1) := by decide +kernel
theorem dX1_operate_204 : decode cX1_operate 204 = .ok (.invokestatic 26, 3) := by decide +kernel
theorem dX1_operate_207 : decode cX1_operate 207 = .ok (.ifCond .ne 11, 3) := by decide +kernel
theorem dX1_operate_210 : decode cX1_operate 210 = .ok (.iload_n 1, 1) := by decide +kernel
theorem dX1_operate_211 : decode cX1_operate 211 = .ok (.iload_n 2, 1) := by decide +kernel
theorem dX1_operate_212 : decode cX1_operate 212 = .ok (.invokestatic 30, 3) := by decide +kernel
theorem dX1_operate_215 : decode cX1_operate 215 = .ok (.ifCond .eq 7, 3) := by decide +kernel
theorem dX1_operate_218 : decode cX1_operate 218 = .ok (.iconst 1, 1) := by decide +kernel
theorem dX1_operate_219 : decode cX1_operate 219 = .ok (.goto 4, 3) := by decide +kernel
theorem dX1_operate_222 : decode cX1_operate 222 = .ok (.iconst 0, 1) := by decide +kernel
theorem dX1_operate_223 : decode cX1_operate 223 = .ok (.ireturn, 1) := by decide +kernel
theorem dX1_operate_224 : decode cX1_operate 224 = .ok (.iload_n 1, 1) := by decide +kernel
theorem dX1_operate_225 : decode cX1_operate 225 = .ok (.invokestatic 22, 3) := by decide +kernel
theorem dX1_operate_228 : decode cX1_operate 228 = .ok (.ifCond .eq 7, 3) := by decide +kernel
theorem dX1_operate_231 : decode cX1_operate 231 = .ok (.iconst 1, 1) := by decide +kernel
theorem dX1_operate_232 : decode cX1_operate 232 = .ok (.goto 4, 3) := by decide +kernel
theorem dX1_operate_235 : decode cX1_operate 235 = .ok (.iconst 0, 1) := by decide +kernel
theorem dX1_operate_236 : decode cX1_operate 236 = .ok (.ireturn, 1) := by decide +kernel
theorem dX1_operate_237 : decode cX1_operate 237 = .ok (.iload_n 1, 1) := by decide +kernel
theorem dX1_operate_238 : decode cX1_operate 238 = .ok (.invokestatic 33, 3) := by decide +kernel
theorem dX1_operate_241 : decode cX1_operate 241 = .ok (.ifCond .eq 7, 3) := by decide +kernel
theorem dX1_operate_244 : decode cX1_operate 244 = .ok (.iconst 1, 1) := by decide +kernel
theorem dX1_operate_245 : decode cX1_operate 245 = .ok (.goto 4, 3) := by decide +kernel
theorem dX1_operate_248 : decode cX1_operate 248 = .ok (.iconst 0, 1) := by decide +kernel
theorem dX1_operate_249 : decode cX1_operate 249 = .ok (.ireturn, 1) := by decide +kernel
theorem dX1_operate_250 : decode cX1_operate 250 = .ok (.iload_n 1, 1) := by decide +kernel
theorem dX1_operate_251 : decode cX1_operate 251 = .ok (.invokestatic 36, 3) := by decide +kernel
theorem dX1_operate_254 : decode cX1_operate 254 = .ok (.ifCond .eq 7, 3) := by decide +kernel
theorem dX1_operate_257 : decode cX1_operate 257 = .ok (.iconst 1, 1) := by decide +kernel
theorem dX1_operate_258 : decode cX1_operate 258 = .ok (.goto 4, 3) := by decide +kernel
theorem dX1_operate_261 : decode cX1_operate 261 = .ok (.iconst 0, 1) := by decide +kernel
theorem dX1_operate_262 : decode cX1_operate 262 = .ok (.ireturn, 1) := by decide +kernel
theorem dX1_operate_263 : decode cX1_operate 263 = .ok (.iconst 0, 1) := by decide +kernel
theorem dX1_operate_264 : decode cX1_operate 264 = .ok (.ireturn, 1) := by decide +kernel
theorem dX1_negate_0 : decode cX1_negate 0 = .ok (.iload_n 0, 1) := by decide +kernel
theorem dX1_negate_1 : decode cX1_negate 1 = .ok (.bipush 16, 2) := by decide +kernel
theorem dX1_negate_3 : decode cX1_negate 3 = .ok (.ixor, 1) := by decide +kernel
theorem dX1_negate_4 : decode cX1_negate 4 = .ok (.ireturn, 1) := by decide +kernel
theorem dX1_add_0 : decode cX1_add 0 = .ok (.iload_n 0, 1) := by decide +kernel
theorem dX1_add_1 : decode cX1_add 1 = .ok (.invokestatic 22, 3) := by decide +kernel
theorem dX1_add_4 : decode cX1_add 4 = .ok (.ifCond .ne 10, 3) := by decide +kernel
theorem dX1_add_7 : decode cX1_add 7 = .ok (.iload_n 1, 1) := by decide +kernel
theorem dX1_add_8 : decode cX1_add 8 = .ok (.invokestatic 22, 3) := by decide +kernel
theorem dX1_add_11 : decode cX1_add 11 = .ok (.ifCond .eq 6, 3) := by decide +kernel
theorem dX1_add_14 : decode cX1_add 14 = .ok (.bipush 13, 2) := by decide +kernel
theorem dX1_add_16 : decode cX1_add 16 = .ok (.ireturn, 1) := by decide +kernel
theorem dX1_add_17 : decode cX1_add 17 = .ok (.iload_n 0, 1) := by decide +kernel
theorem dX1_add_18 : decode cX1_add 18 = .ok (.invokestatic 33, 3) := by decide +kernel
theorem dX1_add_21 : decode cX1_add 21 = .ok (.ifCond .eq 22, 3) := by decide +kernel
theorem dX1_add_24 : decode cX1_add 24 = .ok (.iload_n 1, 1) := by decide +kernel
theorem dX1_add_25 : decode cX1_add 25 = .ok (.invokestatic 33, 3) := by decide +kernel
theorem dX1_add_28 : decode cX1_add 28 = .ok (.ifCond .eq 13, 3) := by decide +kernel
theorem dX1_add_31 : decode cX1_add 31 = .ok (.iload_n 0, 1) := by decide +kernel
theorem dX1_add_32 : decode cX1_add 32 = .ok (.iload_n 1, 1) := by decide +kernel
theorem dX1_add_33 : decode cX1_add 33 = .ok (.if_icmp .eq 8, 3) := by decide +kernel
theorem dX1_add_36 : decode cX1_add 36 = .ok (.bipush 13, 2) := by decide +kernel
theorem dX1_add_38 : decode cX1_add 38 = .ok (.goto 4, 3) := by decide +kernel
theorem dX1_add_41 : decode cX1_add 41 = .ok (.iload_n 0, 1) := by decide +kernel
theorem dX1_add_42 : decode cX1_add 42 = .ok (.ireturn, 1) := by decide +kernel
theorem dX1_add_43 : decode cX1_add 43 = .ok (.iload_n 1, 1) := by decide +kernel
theorem dX1_add_44 : decode cX1_add 44 = .ok (.invokestatic 33, 3) := by decide +kernel
theorem dX1_add_47 : decode cX1_add 47 = .ok (.ifCond .eq 5, 3) := by decide +kernel
theorem dX1_add_50 : decode cX1_add 50 = .ok (.iload_n 1, 1) := by decide +kernel
theorem dX1_add_51 : decode cX1_add 51 = .ok (.ireturn, 1) := by decide +kernel
theorem dX1_add_52 : decode cX1_add 52 = .ok (.iload_n 0, 1) := by decide +kernel
theorem dX1_add_53 : decode cX1_add 53 = .ok (.invokestatic 39, 3) := by decide +kernel
theorem dX1_add_56 : decode cX1_add 56 = .ok (.iload_n 1, 1) := by decide +kernel
theorem dX1_add_57 : decode cX1_add 57 = .ok (.invokestatic 39, 3) := by decide +kernel
theorem dX1_add_60 : decode cX1_add 60 = .ok (.iadd, 1) := by decide +kernel
theorem dX1_add_61 : decode cX1_add 61 = .ok (.istore_n 2, 1) := by decide +kernel
theorem dX1_add_62 : decode cX1_add 62 = .ok (.iload_n 2, 1) := by decide +kernel
theorem dX1_add_63 : decode cX1_add 63 = .ok (.ifCond .ne 22, 3) := by decide +kernel
theorem dX1_add_66 : decode cX1_add 66 = .ok (.iload_n 0, 1) := by decide +kernel
theorem dX1_add_67 : decode cX1_add 67 = .ok (.bipush 16, 2) := by decide +kernel
theorem dX1_add_69 : decode cX1_add 69 = .ok (.if_icmp .ne 14, 3) := by decide +kernel
theorem dX1_add_72 : decode cX1_add 72 = .ok (.iload_n 1, 1) := by decide +kernel
theorem dX1_add_73 : decode cX1_add 73 = .ok (.bipush 16, 2) := by decide +kernel
theorem dX1_add_75 : decode cX1_add 75 = .ok (.if_icmp .ne 8, 3) := by decide +kernel
theorem dX1_add_78 : decode cX1_add 78 = .ok (.bipush 16, 2) := by decide +kernel
theorem dX1_add_80 : decode cX1_add 80 = .ok (.goto 4, 3) := by decide +kernel
theorem dX1_add_83 : decode cX1_add 83 = .ok (.iconst 0, 1) := by decide +kernel
theorem dX1_add_84 : decode cX1_add 84 = .ok (.ireturn, 1) := by decide +kernel
theorem dX1_add_85 : decode cX1_add 85 = .ok (.iload_n 2, 1) := by decide +kernel
theorem dX1_add_86 : decode cX1_add 86 = .ok (.ifCond .ge 8, 3) := by decide +kernel
theorem dX1_add_89 : decode cX1_add 89 = .ok (.bipush 16, 2) := by decide +kernel
theorem dX1_add_91 : decode cX1_add 91 = .ok (.goto 4, 3) := by decide +kernel
theorem dX1_add_94 : decode cX1_add 94 = .ok (.iconst 0, 1) := by decide +kernel
theorem dX1_add_95 : decode cX1_add 95 = .ok (.iconst 4, 1) := by decide +kernel
theorem dX1_add_96 : decode cX1_add 96 = .ok (.iload_n 2, 1) := by decide +kernel
theorem dX1_add_97 : decode cX1_add 97 = .ok (.invokestatic 42, 3) := by decide +kernel
theorem dX1_add_100 : decode cX1_add 100 = .ok (.imul, 1) := by decide +kernel
theorem dX1_add_101 : decode cX1_add 101 = .ok (.invokestatic 47, 3) := by decide +kernel
theorem dX1_add_104 : decode cX1_add 104 = .ok (.ior, 1) := by decide +kernel
theorem dX1_add_105 : decode cX1_add 105 = .ok (.ireturn, 1) := by decide +kernel
theorem dX1_isNan_0 : decode cX1_isNan 0 = .ok (.iload_n 0, 1) := by decide +kernel
theorem dX1_isNan_1 : decode cX1_isNan 1 = .ok (.bipush 15, 2) := by decide +kernel
theorem dX1_isNan_3 : decode cX1_isNan 3 = .ok (.iand, 1) := by decide +kernel
theorem dX1_isNan_4 : decode cX1_isNan 4 = .ok (.bipush 12, 2) := by decide +kernel
theorem dX1_isNan_6 : decode cX1_isNan 6 = .ok (.if_icmp .le 7, 3) := by decide +kernel
theorem dX1_isNan_9 : decode cX1_isNan 9 = .ok (.iconst 1, 1) := by decide +kernel
theorem dX1_isNan_10 : decode cX1_isNan 10 = .ok (.goto 4, 3) := by decide +kernel
theorem dX1_isNan_13 : decode cX1_isNan 13 = .ok (.iconst 0, 1) := by decide +kernel
theorem dX1_isNan_14 : decode cX1_isNan 14 = .ok (.ireturn, 1) := by decide +kernel
theorem dX1_isInfinite_0 : decode cX1_isInfinite 0 = .ok (.iload_n 0, 1) := by decide +kernel
theorem dX1_isInfinite_1 : decode cX1_isInfinite 1 = .ok (.bipush 15, 2) := by decide +kernel
theorem dX1_isInfinite_3 : decode cX1_isInfinite 3 = .ok (.iand, 1) := by decide +kernel
theorem dX1_isInfinite_4 : decode cX1_isInfinite 4 = .ok (.bipush 12, 2) := by decide +kernel
theorem dX1_isInfinite_6 : decode cX1_isInfinite 6 = .ok (.if_icmp .ne 7, 3) := by decide +kernel
theorem dX1_isInfinite_9 : decode cX1_isInfinite 9 = .ok (.iconst 1, 1) := by decide +kernel
theorem dX1_isInfinite_10 : decode cX1_isInfinite 10 = .ok (.goto 4, 3) := by decide +kernel
theorem dX1_isInfinite_13 : decode cX1_isInfinite 13 = .ok (.iconst 0, 1) := by decide +kernel
theorem dX1_isInfinite_14 : decode cX1_isInfinite 14 = .ok (.ireturn, 1) := by decide +kernel
theorem dX1_signedQuarters_0 : decode cX1_signedQuarters 0 = .ok (.iload_n 0, 1) := by decide +kernel
theorem dX1_signedQuarters_1 : decode cX1_signedQuarters 1 = .ok (.bipush 15, 2) := by decide +kernel
theorem dX1_signedQuarters_3 : decode cX1_signedQuarters 3 = .ok (.iand, 1) := by decide +kernel
theorem dX1_signedQuarters_4 : decode cX1_signedQuarters 4 = .ok (.istore_n 1, 1) := by decide +kernel
theorem dX1_signedQuarters_5 : decode cX1_signedQuarters 5 = .ok (.iload_n 1, 1) := by decide +kernel
theorem dX1_signedQuarters_6 : decode cX1_signedQuarters 6 = .ok (.bipush 8, 2) := by decide +kernel
theorem dX1_signedQuarters_8 : decode cX1_signedQuarters 8 = .ok (.if_icmp .ge 7, 3) := by decide +kernel
theorem dX1_signedQuarters_11 : decode cX1_signedQuarters 11 = .ok (.iload_n 1, 1) := by decide +kernel
theorem dX1_signedQuarters_12 : decode cX1_signedQuarters 12 = .ok (.goto 9, 3) := by decide +kernel
theorem dX1_signedQuarters_15 : decode cX1_signedQuarters 15 = .ok (.iconst 2, 1) := by decide +kernel
theorem dX1_signedQuarters_16 : decode cX1_signedQuarters 16 = .ok (.iload_n 1, 1) := by decide +kernel
theorem dX1_signedQuarters_17 : decode cX1_signedQuarters 17 = .ok (.imul, 1) := by decide +kernel
theorem dX1_signedQuarters_18 : decode cX1_signedQuarters 18 = .ok (.bipush 8, 2) := by decide +kernel
theorem dX1_signedQuarters_20 : decode cX1_signedQuarters 20 = .ok (.isub, 1) := by decide +kernel
theorem dX1_signedQuarters_21 : decode cX1_signedQuarters 21 = .ok (.istore_n 2, 1) := by decide +kernel
theorem dX1_signedQuarters_22 : decode cX1_signedQuarters 22 = .ok (.iload_n 0, 1) := by decide +kernel
theorem dX1_signedQuarters_23 : decode cX1_signedQuarters 23 = .ok (.bipush 16, 2) := by decide +kernel
theorem dX1_signedQuarters_25 : decode cX1_signedQuarters 25 = .ok (.iand, 1) := by decide +kernel
theorem dX1_signedQuarters_26 : decode cX1_signedQuarters 26 = .ok (.ifCond .ne 7, 3) := by decide +kernel
theorem dX1_signedQuarters_29 : decode cX1_signedQuarters 29 = .ok (.iload_n 2, 1) := by decide +kernel
theorem dX1_signedQuarters_30 : decode cX1_signedQuarters 30 = .ok (.goto 5, 3) := by decide +kernel
theorem dX1_signedQuarters_33 : decode cX1_signedQuarters 33 = .ok (.iload_n 2, 1) := by decide +kernel
theorem dX1_signedQuarters_34 : decode cX1_signedQuarters 34 = .ok (.ineg, 1) := by decide +kernel
theorem dX1_signedQuarters_35 : decode cX1_signedQuarters 35 = .ok (.ireturn, 1) := by decide +kernel
theorem dX1_rounded_0 : decode cX1_rounded 0 = .ok (.iload_n 0, 1) := by decide +kernel
theorem dX1_rounded_1 : decode cX1_rounded 1 = .ok (.bipush 32, 2) := by decide +kernel
theorem dX1_rounded_3 : decode cX1_rounded 3 = .ok (.if_icmp .ge 7, 3) := by decide +kernel
theorem dX1_rounded_6 : decode cX1_rounded 6 = .ok (.iconst 1, 1) := by decide +kernel
theorem dX1_rounded_7 : decode cX1_rounded 7 = .ok (.goto 4, 3) := by decide +kernel
theorem dX1_rounded_10 : decode cX1_rounded 10 = .ok (.iconst 0, 1) := by decide +kernel
theorem dX1_rounded_11 : decode cX1_rounded 11 = .ok (.istore_n 1, 1) := by decide +kernel
theorem dX1_rounded_12 : decode cX1_rounded 12 = .ok (.iload_n 1, 1) := by decide +kernel
theorem dX1_rounded_13 : decode cX1_rounded 13 = .ok (.ifCond .eq 7, 3) := by decide +kernel
theorem dX1_rounded_16 : decode cX1_rounded 16 = .ok (.iconst 4, 1) := by decide +kernel
theorem dX1_rounded_17 : decode cX1_rounded 17 = .ok (.goto 5, 3) := by decide +kernel
theorem dX1_rounded_20 : decode cX1_rounded 20 = .ok (.bipush 8, 2) := by decide +kernel
theorem dX1_rounded_22 : decode cX1_rounded 22 = .ok (.istore_n 2, 1) := by decide +kernel
theorem dX1_rounded_23 : decode cX1_rounded 23 = .ok (.iload_n 0, 1) := by decide +kernel
theorem dX1_rounded_24 : decode cX1_rounded 24 = .ok (.iload_n 2, 1) := by decide +kernel
theorem dX1_rounded_25 : decode cX1_rounded 25 = .ok (.idiv, 1) := by decide +kernel
theorem dX1_rounded_26 : decode cX1_rounded 26 = .ok (.iload_n 1, 1) := by decide +kernel
theorem dX1_rounded_27 : decode cX1_rounded 27 = .ok (.ifCond .eq 7, 3) := by decide +kernel
theorem dX1_rounded_30 : decode cX1_rounded 30 = .ok (.iconst 0, 1) := by decide +kernel
theorem dX1_rounded_31 : decode cX1_rounded 31 = .ok (.goto 4, 3) := by decide +kernel
theorem dX1_rounded_34 : decode cX1_rounded 34 = .ok (.iconst 4, 1) := by decide +kernel
theorem dX1_rounded_35 : decode cX1_rounded 35 = .ok (.iadd, 1) := by decide +kernel
theorem dX1_rounded_36 : decode cX1_rounded 36 = .ok (.istore_n 3, 1) := by decide +kernel
theorem dX1_rounded_37 : decode cX1_rounded 37 = .ok (.iconst 2, 1) := by decide +kernel
theorem dX1_rounded_38 : decode cX1_rounded 38 = .ok (.iload_n 0, 1) := by decide +kernel
theorem dX1_rounded_39 : decode cX1_rounded 39 = .ok (.iload_n 2, 1) := by decide +kernel
theorem dX1_rounded_40 : decode cX1_rounded 40 = .ok (.irem, 1) := by decide +kernel
theorem dX1_rounded_41 : decode cX1_rounded 41 = .ok (.imul, 1) := by decide +kernel
theorem dX1_rounded_42 : decode cX1_rounded 42 = .ok (.istore 4, 2) := by decide +kernel
theorem dX1_rounded_44 : decode cX1_rounded 44 = .ok (.iload 4, 2) := by decide +kernel
theorem dX1_rounded_46 : decode cX1_rounded 46 = .ok (.iload_n 2, 1) := by decide +kernel
theorem dX1_rounded_47 : decode cX1_rounded 47 = .ok (.if_icmp .gt 16, 3) := by decide +kernel
theorem dX1_rounded_50 : decode cX1_rounded 50 = .ok (.iload 4, 2) := by decide +kernel
theorem dX1_rounded_52 : decode cX1_rounded 52 = .ok (.iload_n 2, 1) := by decide +kernel
theorem dX1_rounded_53 : decode cX1_rounded 53 = .ok (.if_icmp .ne 13, 3) := by decide +kernel
theorem dX1_rounded_56 : decode cX1_rounded 56 = .ok (.iload_n 3, 1) := by decide +kernel
theorem dX1_rounded_57 : decode cX1_rounded 57 = .ok (.iconst 2, 1) := by decide +kernel
theorem dX1_rounded_58 : decode cX1_rounded 58 = .ok (.irem, 1) := by decide +kernel
theorem dX1_rounded_59 : decode cX1_rounded 59 = .ok (.iconst 1, 1) := by decide +kernel
theorem dX1_rounded_60 : decode cX1_rounded 60 = .ok (.if_icmp .ne 6, 3) := by decide +kernel
theorem dX1_rounded_63 : decode cX1_rounded 63 = .ok (.iinc 3 1, 3) := by decide +kernel
theorem dX1_rounded_66 : decode cX1_rounded 66 = .ok (.iload_n 3, 1) := by decide +kernel
theorem dX1_rounded_67 : decode cX1_rounded 67 = .ok (.bipush 12, 2) := by decide +kernel
theorem dX1_rounded_69 : decode cX1_rounded 69 = .ok (.if_icmp .ge 7, 3) := by decide +kernel
theorem dX1_rounded_72 : decode cX1_rounded 72 = .ok (.iload_n 3, 1) := by decide +kernel
theorem dX1_rounded_73 : decode cX1_rounded 73 = .ok (.goto 5, 3) := by decide +kernel
theorem dX1_rounded_76 : decode cX1_rounded 76 = .ok (.bipush 12, 2) := by decide +kernel
theorem dX1_rounded_78 : decode cX1_rounded 78 = .ok (.ireturn, 1) := by decide +kernel
theorem dX1_multiply_0 : decode cX1_multiply 0 = .ok (.iload_n 0, 1) := by decide +kernel
theorem dX1_multiply_1 : decode cX1_multiply 1 = .ok (.invokestatic 22, 3) := by decide +kernel
theorem dX1_multiply_4 : decode cX1_multiply 4 = .ok (.ifCond .ne 38, 3) := by decide +kernel
theorem dX1_multiply_7 : decode cX1_multiply 7 = .ok (.iload_n 1, 1) := by decide +kernel
theorem dX1_multiply_8 : decode cX1_multiply 8 = .ok (.invokestatic 22, 3) := by decide +kernel
theorem dX1_multiply_11 : decode cX1_multiply 11 = .ok (.ifCond .ne 31, 3) := by decide +kernel
theorem dX1_multiply_14 : decode cX1_multiply 14 = .ok (.iload_n 0, 1) := by decide +kernel
theorem dX1_multiply_15 : decode cX1_multiply 15 = .ok (.invokestatic 33, 3) := by decide +kernel
theorem dX1_multiply_18 : decode cX1_multiply 18 = .ok (.ifCond .eq 10, 3) := by decide +kernel
theorem dX1_multiply_21 : decode cX1_multiply 21 = .ok (.iload_n 1, 1) := by decide +kernel
theorem dX1_multiply_22 : decode cX1_multiply 22 = .ok (.invokestatic 36, 3) := by decide +kernel
theorem dX1_multiply_25 : decode cX1_multiply 25 = .ok (.ifCond .ne 17, 3) := by decide +kernel
theorem dX1_multiply_28 : decode cX1_multiply 28 = .ok (.iload_n 0, 1) := by decide +kernel
theorem dX1_multiply_29 : decode cX1_multiply 29 = .ok (.invokestatic 36, 3) := by decide +kernel
theorem dX1_multiply_32 : decode cX1_multiply 32 = .ok (.ifCond .eq 13, 3) := by decide +kernel
theorem dX1_multiply_35 : decode cX1_multiply 35 = .ok (.iload_n 1, 1) := by decide +kernel
theorem dX1_multiply_36 : decode cX1_multiply 36 = .ok (.invokestatic 33, 3) := by decide +kernel
theorem dX1_multiply_39 : decode cX1_multiply 39 = .ok (.ifCond .eq 6, 3) := by decide +kernel
theorem dX1_multiply_42 : decode cX1_multiply 42 = .ok (.bipush 13, 2) := by decide +kernel
theorem dX1_multiply_44 : decode cX1_multiply 44 = .ok (.ireturn, 1) := by decide +kernel
theorem dX1_multiply_45 : decode cX1_multiply 45 = .ok (.iload_n 0, 1) := by decide +kernel
theorem dX1_multiply_46 : decode cX1_multiply 46 = .ok (.iload_n 1, 1) := by decide +kernel
theorem dX1_multiply_47 : decode cX1_multiply 47 = .ok (.ixor, 1) := by decide +kernel
theorem dX1_multiply_48 : decode cX1_multiply 48 = .ok (.bipush 16, 2) := by decide +kernel
theorem dX1_multiply_50 : decode cX1_multiply 50 = .ok (.iand, 1) := by decide +kernel
theorem dX1_multiply_51 : decode cX1_multiply 51 = .ok (.istore_n 2, 1) := by decide +kernel
theorem dX1_multiply_52 : decode cX1_multiply 52 = .ok (.iload_n 0, 1) := by decide +kernel
theorem dX1_multiply_53 : decode cX1_multiply 53 = .ok (.invokestatic 33, 3) := by decide +kernel
theorem dX1_multiply_56 : decode cX1_multiply 56 = .ok (.ifCond .ne 10, 3) := by decide +kernel
theorem dX1_multiply_59 : decode cX1_multiply 59 = .ok (.iload_n 1, 1) := by decide +kernel
theorem dX1_multiply_60 : decode cX1_multiply 60 = .ok (.invokestatic 33, 3) := by decide +kernel
theorem dX1_multiply_63 : decode cX1_multiply 63 = .ok (.ifCond .eq 8, 3) := by decide +kernel
theorem dX1_multiply_66 : decode cX1_multiply 66 = .ok (.iload_n 2, 1) := by decide +kernel
theorem dX1_multiply_67 : decode cX1_multiply 67 = .ok (.bipush 12, 2) := by decide +kernel
theorem dX1_multiply_69 : decode cX1_multiply 69 = .ok (.ior, 1) := by decide +kernel
theorem dX1_multiply_70 : decode cX1_multiply 70 = .ok (.ireturn, 1) := by decide +kernel
theorem dX1_multiply_71 : decode cX1_multiply 71 = .ok (.iload_n 2, 1) := by decide +kernel
theorem dX1_multiply_72 : decode cX1_multiply 72 = .ok (.iload_n 0, 1) := by decide +kernel
theorem dX1_multiply_73 : decode cX1_multiply 73 = .ok (.invokestatic 39, 3) := by decide +kernel
theorem dX1_multiply_76 : decode cX1_multiply 76 = .ok (.iload_n 1, 1) := by decide +kernel
theorem dX1_multiply_77 : decode cX1_multiply 77 = .ok (.invokestatic 39, 3) := by decide +kernel
theorem dX1_multiply_80 : decode cX1_multiply 80 = .ok (.imul, 1) := by decide +kernel
theorem dX1_multiply_81 : decode cX1_multiply 81 = .ok (.invokestatic 42, 3) := by decide +kernel
theorem dX1_multiply_84 : decode cX1_multiply 84 = .ok (.invokestatic 47, 3) := by decide +kernel
theorem dX1_multiply_87 : decode cX1_multiply 87 = .ok (.ior, 1) := by decide +kernel
theorem dX1_multiply_88 : decode cX1_multiply 88 = .ok (.ireturn, 1) := by decide +kernel
theorem dX1_isZero_0 : decode cX1_isZero 0 = .ok (.iload_n 0, 1) := by decide +kernel
theorem dX1_isZero_1 : decode cX1_isZero 1 = .ok (.bipush 15, 2) := by decide +kernel
theorem dX1_isZero_3 : decode cX1_isZero 3 = .ok (.iand, 1) := by decide +kernel
theorem dX1_isZero_4 : decode cX1_isZero 4 = .ok (.ifCond .ne 7, 3) := by decide +kernel
theorem dX1_isZero_7 : decode cX1_isZero 7 = .ok (.iconst 1, 1) := by decide +kernel
theorem dX1_isZero_8 : decode cX1_isZero 8 = .ok (.goto 4, 3) := by decide +kernel
theorem dX1_isZero_11 : decode cX1_isZero 11 = .ok (.iconst 0, 1) := by decide +kernel
theorem dX1_isZero_12 : decode cX1_isZero 12 = .ok (.ireturn, 1) := by decide +kernel
theorem dX1_isLess_0 : decode cX1_isLess 0 = .ok (.iload_n 0, 1) := by decide +kernel
theorem dX1_isLess_1 : decode cX1_isLess 1 = .ok (.invokestatic 22, 3) := by decide +kernel
theorem dX1_isLess_4 : decode cX1_isLess 4 = .ok (.ifCond .ne 25, 3) := by decide +kernel
theorem dX1_isLess_7 : decode cX1_isLess 7 = .ok (.iload_n 1, 1) := by decide +kernel
theorem dX1_isLess_8 : decode cX1_isLess 8 = .ok (.invokestatic 22, 3) := by decide +kernel
theorem dX1_isLess_11 : decode cX1_isLess 11 = .ok (.ifCond .ne 18, 3) := by decide +kernel
theorem dX1_isLess_14 : decode cX1_isLess 14 = .ok (.iload_n 0, 1) := by decide +kernel
theorem dX1_isLess_15 : decode cX1_isLess 15 = .ok (.invokestatic 39, 3) := by decide +kernel
theorem dX1_isLess_18 : decode cX1_isLess 18 = .ok (.iload_n 1, 1) := by decide +kernel
theorem dX1_isLess_19 : decode cX1_isLess 19 = .ok (.invokestatic 39, 3) := by decide +kernel
theorem dX1_isLess_22 : decode cX1_isLess 22 = .ok (.if_icmp .ge 7, 3) := by decide +kernel
theorem dX1_isLess_25 : decode cX1_isLess 25 = .ok (.iconst 1, 1) := by decide +kernel
theorem dX1_isLess_26 : decode cX1_isLess 26 = .ok (.goto 4, 3) := by decide +kernel
theorem dX1_isLess_29 : decode cX1_isLess 29 = .ok (.iconst 0, 1) := by decide +kernel
theorem dX1_isLess_30 : decode cX1_isLess 30 = .ok (.ireturn, 1) := by decide +kernel
theorem dX1_isEqual_0 : decode cX1_isEqual 0 = .ok (.iload_n 0, 1) := by decide +kernel
theorem dX1_isEqual_1 : decode cX1_isEqual 1 = .ok (.invokestatic 22, 3) := by decide +kernel
theorem dX1_isEqual_4 : decode cX1_isEqual 4 = .ok (.ifCond .ne 33, 3) := by decide +kernel
theorem dX1_isEqual_7 : decode cX1_isEqual 7 = .ok (.iload_n 1, 1) := by decide +kernel
theorem dX1_isEqual_8 : decode cX1_isEqual 8 = .ok (.invokestatic 22, 3) := by decide +kernel
theorem dX1_isEqual_11 : decode cX1_isEqual 11 = .ok (.ifCond .ne 26, 3) := by decide +kernel
theorem dX1_isEqual_14 : decode cX1_isEqual 14 = .ok (.iload_n 0, 1) := by decide +kernel
theorem dX1_isEqual_15 : decode cX1_isEqual 15 = .ok (.iload_n 1, 1) := by decide +kernel
theorem dX1_isEqual_16 : decode cX1_isEqual 16 = .ok (.if_icmp .eq 17, 3) := by decide +kernel
theorem dX1_isEqual_19 : decode cX1_isEqual 19 = .ok (.iload_n 0, 1) := by decide +kernel
theorem dX1_isEqual_20 : decode cX1_isEqual 20 = .ok (.invokestatic 36, 3) := by decide +kernel
theorem dX1_isEqual_23 : decode cX1_isEqual 23 = .ok (.ifCond .eq 14, 3) := by decide +kernel
theorem dX1_isEqual_26 : decode cX1_isEqual 26 = .ok (.iload_n 1, 1) := by decide +kernel
theorem dX1_isEqual_27 : decode cX1_isEqual 27 = .ok (.invokestatic 36, 3) := by decide +kernel
theorem dX1_isEqual_30 : decode cX1_isEqual 30 = .ok (.ifCond .eq 7, 3) := by decide +kernel
theorem dX1_isEqual_33 : decode cX1_isEqual 33 = .ok (.iconst 1, 1) := by decide +kernel
theorem dX1_isEqual_34 : decode cX1_isEqual 34 = .ok (.goto 4, 3) := by decide +kernel
theorem dX1_isEqual_37 : decode cX1_isEqual 37 = .ok (.iconst 0, 1) := by decide +kernel
theorem dX1_isEqual_38 : decode cX1_isEqual 38 = .ok (.ireturn, 1) := by decide +kernel
theorem dX0_count_0 : decode cX0_count 0 = .ok (.aload_n 0, 1) := by decide +kernel
theorem dX0_count_1 : decode cX0_count 1 = .ok (.getfield 18, 3) := by decide +kernel
theorem dX0_count_4 : decode cX0_count 4 = .ok (.ireturn, 1) := by decide +kernel
theorem dX0_top_0 : decode cX0_top 0 = .ok (.aload_n 0, 1) := by decide +kernel
theorem dX0_top_1 : decode cX0_top 1 = .ok (.getfield 22, 3) := by decide +kernel
theorem dX0_top_4 : decode cX0_top 4 = .ok (.ireturn, 1) := by decide +kernel
theorem dX2_isKind_0 : decode cX2_isKind 0 = .ok (.iload_n 0, 1) := by decide +kernel
theorem dX2_isKind_1 : decode cX2_isKind 1 = .ok (.ifCond .lt 13, 3) := by decide +kernel
theorem dX2_isKind_4 : decode cX2_isKind 4 = .ok (.iload_n 0, 1) := by decide +kernel
theorem dX2_isKind_5 : decode cX2_isKind 5 = .ok (.bipush 19, 2) := by decide +kernel
theorem dX2_isKind_7 : decode cX2_isKind 7 = .ok (.if_icmp .gt 7, 3) := by decide +kernel
theorem dX2_isKind_10 : decode cX2_isKind 10 = .ok (.iconst 1, 1) := by decide +kernel
theorem dX2_isKind_11 : decode cX2_isKind 11 = .ok (.goto 4, 3) := by decide +kernel
theorem dX2_isKind_14 : decode cX2_isKind 14 = .ok (.iconst 0, 1) := by decide +kernel
theorem dX2_isKind_15 : decode cX2_isKind 15 = .ok (.ireturn, 1) := by decide +kernel
theorem dX2_ofFirst_0 : decode cX2_ofFirst 0 = .ok (.iload_n 0, 1) := by decide +kernel
theorem dX2_ofFirst_1 : decode cX2_ofFirst 1 = .ok (.tableswitch 101 0 19 #[95, 97, 101, 101, 101, 101, 101, 101, 101, 99, 101, 101, 101, 101, 101, 101, 101, 99, 99, 99], 95) := by decide +kernel
theorem dX2_ofFirst_96 : decode cX2_ofFirst 96 = .ok (.iconst 1, 1) := by decide +kernel
theorem dX2_ofFirst_97 : decode cX2_ofFirst 97 = .ok (.ireturn, 1) := by decide +kernel
theorem dX2_ofFirst_98 : decode cX2_ofFirst 98 = .ok (.iconst 2, 1) := by decide +kernel
theorem dX2_ofFirst_99 : decode cX2_ofFirst 99 = .ok (.ireturn, 1) := by decide +kernel
theorem dX2_ofFirst_100 : decode cX2_ofFirst 100 = .ok (.iconst 4, 1) := by decide +kernel
theorem dX2_ofFirst_101 : decode cX2_ofFirst 101 = .ok (.ireturn, 1) := by decide +kernel
theorem dX2_ofFirst_102 : decode cX2_ofFirst 102 = .ok (.iconst 3, 1) := by decide +kernel
theorem dX2_ofFirst_103 : decode cX2_ofFirst 103 = .ok (.ireturn, 1) := by decide +kernel
theorem dX1_isNumber_0 : decode cX1_isNumber 0 = .ok (.iload_n 0, 1) := by decide +kernel
theorem dX1_isNumber_1 : decode cX1_isNumber 1 = .ok (.ifCond .lt 13, 3) := by decide +kernel
theorem dX1_isNumber_4 : decode cX1_isNumber 4 = .ok (.iload_n 0, 1) := by decide +kernel
theorem dX1_isNumber_5 : decode cX1_isNumber 5 = .ok (.bipush 31, 2) := by decide +kernel
theorem dX1_isNumber_7 : decode cX1_isNumber 7 = .ok (.if_icmp .gt 7, 3) := by decide +kernel
theorem dX1_isNumber_10 : decode cX1_isNumber 10 = .ok (.iconst 1, 1) := by decide +kernel
theorem dX1_isNumber_11 : decode cX1_isNumber 11 = .ok (.goto 4, 3) := by decide +kernel
theorem dX1_isNumber_14 : decode cX1_isNumber 14 = .ok (.iconst 0, 1) := by decide +kernel
theorem dX1_isNumber_15 : decode cX1_isNumber 15 = .ok (.ireturn, 1) := by decide +kernel
theorem dX2_givesTruth_0 : decode cX2_givesTruth 0 = .ok (.iload_n 0, 1) := by decide +kernel
theorem dX2_givesTruth_1 : decode cX2_givesTruth 1 = .ok (.bipush 10, 2) := by decide +kernel
theorem dX2_givesTruth_3 : decode cX2_givesTruth 3 = .ok (.if_icmp .lt 13, 3) := by decide +kernel
theorem dX2_givesTruth_6 : decode cX2_givesTruth 6 = .ok (.iload_n 0, 1) := by decide +kernel
theorem dX2_givesTruth_7 : decode cX2_givesTruth 7 = .ok (.bipush 19, 2) := by decide +kernel
theorem dX2_givesTruth_9 : decode cX2_givesTruth 9 = .ok (.if_icmp .gt 7, 3) := by decide +kernel
theorem dX2_givesTruth_12 : decode cX2_givesTruth 12 = .ok (.iconst 1, 1) := by decide +kernel
theorem dX2_givesTruth_13 : decode cX2_givesTruth 13 = .ok (.goto 4, 3) := by decide +kernel
theorem dX2_givesTruth_16 : decode cX2_givesTruth 16 = .ok (.iconst 0, 1) := by decide +kernel
theorem dX2_givesTruth_17 : decode cX2_givesTruth 17 = .ok (.ireturn, 1) := by decide +kernel
theorem dX2_ofSecond_0 : decode cX2_ofSecond 0 = .ok (.iload_n 0, 1) := by decide +kernel
theorem dX2_ofSecond_1 : decode cX2_ofSecond 1 = .ok (.iconst 4, 1) := by decide +kernel
theorem dX2_ofSecond_2 : decode cX2_ofSecond 2 = .ok (.if_icmp .lt 11, 3) := by decide +kernel
theorem dX2_ofSecond_5 : decode cX2_ofSecond 5 = .ok (.iload_n 0, 1) := by decide +kernel
theorem dX2_ofSecond_6 : decode cX2_ofSecond 6 = .ok (.bipush 13, 2) := by decide +kernel
theorem dX2_ofSecond_8 : decode cX2_ofSecond 8 = .ok (.if_icmp .gt 5, 3) := by decide +kernel
theorem dX2_ofSecond_11 : decode cX2_ofSecond 11 = .ok (.iconst 3, 1) := by decide +kernel
theorem dX2_ofSecond_12 : decode cX2_ofSecond 12 = .ok (.ireturn, 1) := by decide +kernel
theorem dX2_ofSecond_13 : decode cX2_ofSecond 13 = .ok (.iload_n 0, 1) := by decide +kernel
theorem dX2_ofSecond_14 : decode cX2_ofSecond 14 = .ok (.bipush 18, 2) := by decide +kernel
theorem dX2_ofSecond_16 : decode cX2_ofSecond 16 = .ok (.if_icmp .eq 9, 3) := by decide +kernel
theorem dX2_ofSecond_19 : decode cX2_ofSecond 19 = .ok (.iload_n 0, 1) := by decide +kernel
theorem dX2_ofSecond_20 : decode cX2_ofSecond 20 = .ok (.bipush 19, 2) := by decide +kernel
theorem dX2_ofSecond_22 : decode cX2_ofSecond 22 = .ok (.if_icmp .ne 7, 3) := by decide +kernel
theorem dX2_ofSecond_25 : decode cX2_ofSecond 25 = .ok (.iconst 4, 1) := by decide +kernel
theorem dX2_ofSecond_26 : decode cX2_ofSecond 26 = .ok (.goto 4, 3) := by decide +kernel
theorem dX2_ofSecond_29 : decode cX2_ofSecond 29 = .ok (.iconst 0, 1) := by decide +kernel
theorem dX2_ofSecond_30 : decode cX2_ofSecond 30 = .ok (.ireturn, 1) := by decide +kernel
theorem dX2_ofThird_0 : decode cX2_ofThird 0 = .ok (.iload_n 0, 1) := by decide +kernel
theorem dX2_ofThird_1 : decode cX2_ofThird 1 = .ok (.bipush 9, 2) := by decide +kernel
theorem dX2_ofThird_3 : decode cX2_ofThird 3 = .ok (.if_icmp .ne 7, 3) := by decide +kernel
theorem dX2_ofThird_6 : decode cX2_ofThird 6 = .ok (.iconst 3, 1) := by decide +kernel
theorem dX2_ofThird_7 : decode cX2_ofThird 7 = .ok (.goto 4, 3) := by decide +kernel
theorem dX2_ofThird_10 : decode cX2_ofThird 10 = .ok (.iconst 0, 1) := by decide +kernel
theorem dX2_ofThird_11 : decode cX2_ofThird 11 = .ok (.ireturn, 1) := by decide +kernel
theorem dX2_isTerm_0 : decode cX2_isTerm 0 = .ok (.iload_n 0, 1) := by decide +kernel
theorem dX2_isTerm_1 : decode cX2_isTerm 1 = .ok (.iconst 3, 1) := by decide +kernel
theorem dX2_isTerm_2 : decode cX2_isTerm 2 = .ok (.if_icmp .eq 8, 3) := by decide +kernel
theorem dX2_isTerm_5 : decode cX2_isTerm 5 = .ok (.iload_n 0, 1) := by decide +kernel
theorem dX2_isTerm_6 : decode cX2_isTerm 6 = .ok (.iconst 4, 1) := by decide +kernel
theorem dX2_isTerm_7 : decode cX2_isTerm 7 = .ok (.if_icmp .ne 7, 3) := by decide +kernel
theorem dX2_isTerm_10 : decode cX2_isTerm 10 = .ok (.iconst 1, 1) := by decide +kernel
theorem dX2_isTerm_11 : decode cX2_isTerm 11 = .ok (.goto 4, 3) := by decide +kernel
theorem dX2_isTerm_14 : decode cX2_isTerm 14 = .ok (.iconst 0, 1) := by decide +kernel
theorem dX2_isTerm_15 : decode cX2_isTerm 15 = .ok (.ireturn, 1) := by decide +kernel
theorem dX0_isFull_0 : decode cX0_isFull 0 = .ok (.aload_n 0, 1) := by decide +kernel
theorem dX0_isFull_1 : decode cX0_isFull 1 = .ok (.getfield 18, 3) := by decide +kernel
theorem dX0_isFull_4 : decode cX0_isFull 4 = .ok (.bipush 20, 2) := by decide +kernel
theorem dX0_isFull_6 : decode cX0_isFull 6 = .ok (.if_icmp .lt 7, 3) := by decide +kernel
theorem dX0_isFull_9 : decode cX0_isFull 9 = .ok (.iconst 1, 1) := by decide +kernel
theorem dX0_isFull_10 : decode cX0_isFull 10 = .ok (.goto 4, 3) := by decide +kernel
theorem dX0_isFull_13 : decode cX0_isFull 13 = .ok (.iconst 0, 1) := by decide +kernel
theorem dX0_isFull_14 : decode cX0_isFull 14 = .ok (.ireturn, 1) := by decide +kernel
theorem dX0_push_0 : decode cX0_push 0 = .ok (.aload_n 0, 1) := by decide +kernel
theorem dX0_push_1 : decode cX0_push 1 = .ok (.getfield 9, 3) := by decide +kernel
theorem dX0_push_4 : decode cX0_push 4 = .ok (.aload_n 0, 1) := by decide +kernel
theorem dX0_push_5 : decode cX0_push 5 = .ok (.getfield 18, 3) := by decide +kernel
theorem dX0_push_8 : decode cX0_push 8 = .ok (.iload_n 1, 1) := by decide +kernel
theorem dX0_push_9 : decode cX0_push 9 = .ok (.iastore, 1) := by decide +kernel
theorem dX0_push_10 : decode cX0_push 10 = .ok (.aload_n 0, 1) := by decide +kernel
theorem dX0_push_11 : decode cX0_push 11 = .ok (.dup, 1) := by decide +kernel
theorem dX0_push_12 : decode cX0_push 12 = .ok (.getfield 18, 3) := by decide +kernel
theorem dX0_push_15 : decode cX0_push 15 = .ok (.iconst 1, 1) := by decide +kernel
theorem dX0_push_16 : decode cX0_push 16 = .ok (.iadd, 1) := by decide +kernel
theorem dX0_push_17 : decode cX0_push 17 = .ok (.putfield 18, 3) := by decide +kernel
theorem dX0_push_20 : decode cX0_push 20 = .ok (.aload_n 0, 1) := by decide +kernel
theorem dX0_push_21 : decode cX0_push 21 = .ok (.getfield 18, 3) := by decide +kernel
theorem dX0_push_24 : decode cX0_push 24 = .ok (.ireturn, 1) := by decide +kernel
theorem dX0_raise_0 : decode cX0_raise 0 = .ok (.aload_n 0, 1) := by decide +kernel
theorem dX0_raise_1 : decode cX0_raise 1 = .ok (.dup, 1) := by decide +kernel
theorem dX0_raise_2 : decode cX0_raise 2 = .ok (.getfield 22, 3) := by decide +kernel
theorem dX0_raise_5 : decode cX0_raise 5 = .ok (.iconst 1, 1) := by decide +kernel
theorem dX0_raise_6 : decode cX0_raise 6 = .ok (.iadd, 1) := by decide +kernel
theorem dX0_raise_7 : decode cX0_raise 7 = .ok (.putfield 22, 3) := by decide +kernel
theorem dX0_raise_10 : decode cX0_raise 10 = .ok (.aload_n 0, 1) := by decide +kernel
theorem dX0_raise_11 : decode cX0_raise 11 = .ok (.getfield 15, 3) := by decide +kernel
theorem dX0_raise_14 : decode cX0_raise 14 = .ok (.aload_n 0, 1) := by decide +kernel
theorem dX0_raise_15 : decode cX0_raise 15 = .ok (.getfield 22, 3) := by decide +kernel
theorem dX0_raise_18 : decode cX0_raise 18 = .ok (.aload_n 0, 1) := by decide +kernel
theorem dX0_raise_19 : decode cX0_raise 19 = .ok (.getfield 18, 3) := by decide +kernel
theorem dX0_raise_22 : decode cX0_raise 22 = .ok (.iastore, 1) := by decide +kernel
theorem dX0_raise_23 : decode cX0_raise 23 = .ok (.aload_n 0, 1) := by decide +kernel
theorem dX0_raise_24 : decode cX0_raise 24 = .ok (.getfield 22, 3) := by decide +kernel
theorem dX0_raise_27 : decode cX0_raise 27 = .ok (.ireturn, 1) := by decide +kernel
theorem dX0_drop_0 : decode cX0_drop 0 = .ok (.aload_n 0, 1) := by decide +kernel
theorem dX0_drop_1 : decode cX0_drop 1 = .ok (.getfield 18, 3) := by decide +kernel
theorem dX0_drop_4 : decode cX0_drop 4 = .ok (.aload_n 0, 1) := by decide +kernel
theorem dX0_drop_5 : decode cX0_drop 5 = .ok (.getfield 15, 3) := by decide +kernel
theorem dX0_drop_8 : decode cX0_drop 8 = .ok (.aload_n 0, 1) := by decide +kernel
theorem dX0_drop_9 : decode cX0_drop 9 = .ok (.getfield 22, 3) := by decide +kernel
theorem dX0_drop_12 : decode cX0_drop 12 = .ok (.iaload, 1) := by decide +kernel
theorem dX0_drop_13 : decode cX0_drop 13 = .ok (.isub, 1) := by decide +kernel
theorem dX0_drop_14 : decode cX0_drop 14 = .ok (.istore_n 1, 1) := by decide +kernel
theorem dX0_drop_15 : decode cX0_drop 15 = .ok (.aload_n 0, 1) := by decide +kernel
theorem dX0_drop_16 : decode cX0_drop 16 = .ok (.aload_n 0, 1) := by decide +kernel
theorem dX0_drop_17 : decode cX0_drop 17 = .ok (.getfield 15, 3) := by decide +kernel
theorem dX0_drop_20 : decode cX0_drop 20 = .ok (.aload_n 0, 1) := by decide +kernel
theorem dX0_drop_21 : decode cX0_drop 21 = .ok (.getfield 22, 3) := by decide +kernel
theorem dX0_drop_24 : decode cX0_drop 24 = .ok (.iaload, 1) := by decide +kernel
theorem dX0_drop_25 : decode cX0_drop 25 = .ok (.putfield 18, 3) := by decide +kernel
theorem dX0_drop_28 : decode cX0_drop 28 = .ok (.aload_n 0, 1) := by decide +kernel
theorem dX0_drop_29 : decode cX0_drop 29 = .ok (.dup, 1) := by decide +kernel
theorem dX0_drop_30 : decode cX0_drop 30 = .ok (.getfield 22, 3) := by decide +kernel
theorem dX0_drop_33 : decode cX0_drop 33 = .ok (.iconst 1, 1) := by decide +kernel
theorem dX0_drop_34 : decode cX0_drop 34 = .ok (.isub, 1) := by decide +kernel
theorem dX0_drop_35 : decode cX0_drop 35 = .ok (.putfield 22, 3) := by decide +kernel
theorem dX0_drop_38 : decode cX0_drop 38 = .ok (.iload_n 1, 1) := by decide +kernel
theorem dX0_drop_39 : decode cX0_drop 39 = .ok (.ireturn, 1) := by decide +kernel
theorem dX1_isOperation_0 : decode cX1_isOperation 0 = .ok (.iload_n 0, 1) := by decide +kernel
theorem dX1_isOperation_1 : decode cX1_isOperation 1 = .ok (.iconst 2, 1) := by decide +kernel
theorem dX1_isOperation_2 : decode cX1_isOperation 2 = .ok (.if_icmp .lt 19, 3) := by decide +kernel
theorem dX1_isOperation_5 : decode cX1_isOperation 5 = .ok (.iload_n 0, 1) := by decide +kernel
theorem dX1_isOperation_6 : decode cX1_isOperation 6 = .ok (.bipush 16, 2) := by decide +kernel
theorem dX1_isOperation_8 : decode cX1_isOperation 8 = .ok (.if_icmp .gt 13, 3) := by decide +kernel
theorem dX1_isOperation_11 : decode cX1_isOperation 11 = .ok (.iload_n 0, 1) := by decide +kernel
theorem dX1_isOperation_12 : decode cX1_isOperation 12 = .ok (.bipush 9, 2) := by decide +kernel
theorem dX1_isOperation_14 : decode cX1_isOperation 14 = .ok (.if_icmp .eq 7, 3) := by decide +kernel
theorem dX1_isOperation_17 : decode cX1_isOperation 17 = .ok (.iconst 1, 1) := by decide +kernel
theorem dX1_isOperation_18 : decode cX1_isOperation 18 = .ok (.goto 4, 3) := by decide +kernel
theorem dX1_isOperation_21 : decode cX1_isOperation 21 = .ok (.iconst 0, 1) := by decide +kernel
theorem dX1_isOperation_22 : decode cX1_isOperation 22 = .ok (.ireturn, 1) := by decide +kernel
