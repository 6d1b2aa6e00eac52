theorem dX5_init_0 : decode cX5_init 0 = .ok (.aload_n 0, 1) := by decide +kernel
theorem dX5_init_1 : decode cX5_init 1 = .ok (.invokespecial 1, 3) := by decide +kernel
theorem dX5_init_4 : decode cX5_init 4 = .ok (.aload_n 0, 1) := by decide +kernel
theorem dX5_init_5 : decode cX5_init 5 = .ok (.bipush 12, 2) := by decide +kernel
theorem dX5_init_7 : decode cX5_init 7 = .ok (.newarray .int, 2) := by decide +kernel
theorem dX5_init_9 : decode cX5_init 9 = .ok (.putfield 7, 3) := by decide +kernel
theorem dX5_init_12 : decode cX5_init 12 = .ok (.aload_n 0, 1) := by decide +kernel
theorem dX5_init_13 : decode cX5_init 13 = .ok (.bipush 12, 2) := by decide +kernel
theorem dX5_init_15 : decode cX5_init 15 = .ok (.newarray .int, 2) := by decide +kernel
theorem dX5_init_17 : decode cX5_init 17 = .ok (.putfield 13, 3) := by decide +kernel
theorem dX5_init_20 : decode cX5_init 20 = .ok (.aload_n 0, 1) := by decide +kernel
theorem dX5_init_21 : decode cX5_init 21 = .ok (.bipush 12, 2) := by decide +kernel
theorem dX5_init_23 : decode cX5_init 23 = .ok (.newarray .int, 2) := by decide +kernel
theorem dX5_init_25 : decode cX5_init 25 = .ok (.putfield 16, 3) := by decide +kernel
theorem dX5_init_28 : decode cX5_init 28 = .ok (.aload_n 0, 1) := by decide +kernel
theorem dX5_init_29 : decode cX5_init 29 = .ok (.bipush 12, 2) := by decide +kernel
theorem dX5_init_31 : decode cX5_init 31 = .ok (.newarray .int, 2) := by decide +kernel
theorem dX5_init_33 : decode cX5_init 33 = .ok (.putfield 19, 3) := by decide +kernel
theorem dX5_init_36 : decode cX5_init 36 = .ok (.aload_n 0, 1) := by decide +kernel
theorem dX5_init_37 : decode cX5_init 37 = .ok (.bipush 20, 2) := by decide +kernel
theorem dX5_init_39 : decode cX5_init 39 = .ok (.newarray .int, 2) := by decide +kernel
theorem dX5_init_41 : decode cX5_init 41 = .ok (.putfield 22, 3) := by decide +kernel
theorem dX5_init_44 : decode cX5_init 44 = .ok (.aload_n 0, 1) := by decide +kernel
theorem dX5_init_45 : decode cX5_init 45 = .ok (.bipush 6, 2) := by decide +kernel
theorem dX5_init_47 : decode cX5_init 47 = .ok (.newarray .int, 2) := by decide +kernel
theorem dX5_init_49 : decode cX5_init 49 = .ok (.putfield 25, 3) := by decide +kernel
theorem dX5_init_52 : decode cX5_init 52 = .ok (.aload_n 0, 1) := by decide +kernel
theorem dX5_init_53 : decode cX5_init 53 = .ok (.iconst 2, 1) := by decide +kernel
theorem dX5_init_54 : decode cX5_init 54 = .ok (.newarray .int, 2) := by decide +kernel
theorem dX5_init_56 : decode cX5_init 56 = .ok (.putfield 28, 3) := by decide +kernel
theorem dX5_init_59 : decode cX5_init 59 = .ok (.aload_n 0, 1) := by decide +kernel
theorem dX5_init_60 : decode cX5_init 60 = .ok (.bipush 12, 2) := by decide +kernel
theorem dX5_init_62 : decode cX5_init 62 = .ok (.newarray .int, 2) := by decide +kernel
theorem dX5_init_64 : decode cX5_init 64 = .ok (.putfield 31, 3) := by decide +kernel
theorem dX5_init_67 : decode cX5_init 67 = .ok (.return_, 1) := by decide +kernel
theorem dX5_thrown_0 : decode cX5_thrown 0 = .ok (.aload_n 0, 1) := by decide +kernel
theorem dX5_thrown_1 : decode cX5_thrown 1 = .ok (.getfield 34, 3) := by decide +kernel
theorem dX5_thrown_4 : decode cX5_thrown 4 = .ok (.ireturn, 1) := by decide +kernel
theorem dX5_term_0 : decode cX5_term 0 = .ok (.aload_n 0, 1) := by decide +kernel
theorem dX5_term_1 : decode cX5_term 1 = .ok (.aload_n 0, 1) := by decide +kernel
theorem dX5_term_2 : decode cX5_term 2 = .ok (.iload_n 1, 1) := by decide +kernel
theorem dX5_term_3 : decode cX5_term 3 = .ok (.iload_n 2, 1) := by decide +kernel
theorem dX5_term_4 : decode cX5_term 4 = .ok (.iload_n 3, 1) := by decide +kernel
theorem dX5_term_5 : decode cX5_term 5 = .ok (.iload 4, 2) := by decide +kernel
theorem dX5_term_7 : decode cX5_term 7 = .ok (.invokevirtual 91, 3) := by decide +kernel
theorem dX5_term_10 : decode cX5_term 10 = .ok (.ifCond .eq 7, 3) := by decide +kernel
theorem dX5_term_13 : decode cX5_term 13 = .ok (.iconst 0, 1) := by decide +kernel
theorem dX5_term_14 : decode cX5_term 14 = .ok (.goto 4, 3) := by decide +kernel
theorem dX5_term_17 : decode cX5_term 17 = .ok (.iconst 1, 1) := by decide +kernel
theorem dX5_term_18 : decode cX5_term 18 = .ok (.putfield 34, 3) := by decide +kernel
theorem dX5_term_21 : decode cX5_term 21 = .ok (.aload_n 0, 1) := by decide +kernel
theorem dX5_term_22 : decode cX5_term 22 = .ok (.getfield 34, 3) := by decide +kernel
theorem dX5_term_25 : decode cX5_term 25 = .ok (.ifCond .le 5, 3) := by decide +kernel
theorem dX5_term_28 : decode cX5_term 28 = .ok (.iconst 0, 1) := by decide +kernel
theorem dX5_term_29 : decode cX5_term 29 = .ok (.ireturn, 1) := by decide +kernel
theorem dX5_term_30 : decode cX5_term 30 = .ok (.iload_n 1, 1) := by decide +kernel
theorem dX5_term_31 : decode cX5_term 31 = .ok (.invokestatic 88, 3) := by decide +kernel
theorem dX5_term_34 : decode cX5_term 34 = .ok (.istore 5, 2) := by decide +kernel
theorem dX5_term_36 : decode cX5_term 36 = .ok (.iconst 0, 1) := by decide +kernel
theorem dX5_term_37 : decode cX5_term 37 = .ok (.istore 6, 2) := by decide +kernel
theorem dX5_term_39 : decode cX5_term 39 = .ok (.iload 6, 2) := by decide +kernel
theorem dX5_term_41 : decode cX5_term 41 = .ok (.aload_n 0, 1) := by decide +kernel
theorem dX5_term_42 : decode cX5_term 42 = .ok (.getfield 76, 3) := by decide +kernel
theorem dX5_term_45 : decode cX5_term 45 = .ok (.if_icmp .ge 69, 3) := by decide +kernel
theorem dX5_term_48 : decode cX5_term 48 = .ok (.aload_n 0, 1) := by decide +kernel
theorem dX5_term_49 : decode cX5_term 49 = .ok (.getfield 7, 3) := by decide +kernel
theorem dX5_term_52 : decode cX5_term 52 = .ok (.iload 6, 2) := by decide +kernel
theorem dX5_term_54 : decode cX5_term 54 = .ok (.iaload, 1) := by decide +kernel
theorem dX5_term_55 : decode cX5_term 55 = .ok (.iload_n 1, 1) := by decide +kernel
theorem dX5_term_56 : decode cX5_term 56 = .ok (.if_icmp .ne 52, 3) := by decide +kernel
theorem dX5_term_59 : decode cX5_term 59 = .ok (.aload_n 0, 1) := by decide +kernel
theorem dX5_term_60 : decode cX5_term 60 = .ok (.getfield 13, 3) := by decide +kernel
theorem dX5_term_63 : decode cX5_term 63 = .ok (.iload 6, 2) := by decide +kernel
theorem dX5_term_65 : decode cX5_term 65 = .ok (.iaload, 1) := by decide +kernel
theorem dX5_term_66 : decode cX5_term 66 = .ok (.iload_n 2, 1) := by decide +kernel
theorem dX5_term_67 : decode cX5_term 67 = .ok (.if_icmp .ne 41, 3) := by decide +kernel
theorem dX5_term_70 : decode cX5_term 70 = .ok (.iload 5, 2) := by decide +kernel
theorem dX5_term_72 : decode cX5_term 72 = .ok (.iconst 2, 1) := by decide +kernel
theorem dX5_term_73 : decode cX5_term 73 = .ok (.if_icmp .lt 14, 3) := by decide +kernel
theorem dX5_term_76 : decode cX5_term 76 = .ok (.aload_n 0, 1) := by decide +kernel
theorem dX5_term_77 : decode cX5_term 77 = .ok (.getfield 16, 3) := by decide +kernel
theorem dX5_term_80 : decode cX5_term 80 = .ok (.iload 6, 2) := by decide +kernel
theorem dX5_term_82 : decode cX5_term 82 = .ok (.iaload, 1) := by decide +kernel
theorem dX5_term_83 : decode cX5_term 83 = .ok (.iload_n 3, 1) := by decide +kernel
theorem dX5_term_84 : decode cX5_term 84 = .ok (.if_icmp .ne 24, 3) := by decide +kernel
theorem dX5_term_87 : decode cX5_term 87 = .ok (.iload 5, 2) := by decide +kernel
theorem dX5_term_89 : decode cX5_term 89 = .ok (.iconst 3, 1) := by decide +kernel
theorem dX5_term_90 : decode cX5_term 90 = .ok (.if_icmp .lt 15, 3) := by decide +kernel
theorem dX5_term_93 : decode cX5_term 93 = .ok (.aload_n 0, 1) := by decide +kernel
theorem dX5_term_94 : decode cX5_term 94 = .ok (.getfield 19, 3) := by decide +kernel
theorem dX5_term_97 : decode cX5_term 97 = .ok (.iload 6, 2) := by decide +kernel
theorem dX5_term_99 : decode cX5_term 99 = .ok (.iaload, 1) := by decide +kernel
theorem dX5_term_100 : decode cX5_term 100 = .ok (.iload 4, 2) := by decide +kernel
theorem dX5_term_102 : decode cX5_term 102 = .ok (.if_icmp .ne 6, 3) := by decide +kernel
theorem dX5_term_105 : decode cX5_term 105 = .ok (.iload 6, 2) := by decide +kernel
theorem dX5_term_107 : decode cX5_term 107 = .ok (.ireturn, 1) := by decide +kernel
theorem dX5_term_108 : decode cX5_term 108 = .ok (.iinc 6 1, 3) := by decide +kernel
theorem dX5_term_111 : decode cX5_term 111 = .ok (.goto (-72), 3) := by decide +kernel
theorem dX5_term_114 : decode cX5_term 114 = .ok (.aload_n 0, 1) := by decide +kernel
theorem dX5_term_115 : decode cX5_term 115 = .ok (.aload_n 0, 1) := by decide +kernel
theorem dX5_term_116 : decode cX5_term 116 = .ok (.getfield 76, 3) := by decide +kernel
theorem dX5_term_119 : decode cX5_term 119 = .ok (.bipush 12, 2) := by decide +kernel
theorem dX5_term_121 : decode cX5_term 121 = .ok (.if_icmp .ne 7, 3) := by decide +kernel
theorem dX5_term_124 : decode cX5_term 124 = .ok (.iconst 2, 1) := by decide +kernel
theorem dX5_term_125 : decode cX5_term 125 = .ok (.goto 4, 3) := by decide +kernel
theorem dX5_term_128 : decode cX5_term 128 = .ok (.iconst 0, 1) := by decide +kernel
theorem dX5_term_129 : decode cX5_term 129 = .ok (.putfield 34, 3) := by decide +kernel
theorem dX5_term_132 : decode cX5_term 132 = .ok (.aload_n 0, 1) := by decide +kernel
theorem dX5_term_133 : decode cX5_term 133 = .ok (.getfield 34, 3) := by decide +kernel
theorem dX5_term_136 : decode cX5_term 136 = .ok (.ifCond .le 5, 3) := by decide +kernel
theorem dX5_term_139 : decode cX5_term 139 = .ok (.iconst 0, 1) := by decide +kernel
theorem dX5_term_140 : decode cX5_term 140 = .ok (.ireturn, 1) := by decide +kernel
theorem dX5_term_141 : decode cX5_term 141 = .ok (.aload_n 0, 1) := by decide +kernel
theorem dX5_term_142 : decode cX5_term 142 = .ok (.getfield 7, 3) := by decide +kernel
theorem dX5_term_145 : decode cX5_term 145 = .ok (.aload_n 0, 1) := by decide +kernel
theorem dX5_term_146 : decode cX5_term 146 = .ok (.getfield 76, 3) := by decide +kernel
theorem dX5_term_149 : decode cX5_term 149 = .ok (.iload_n 1, 1) := by decide +kernel
theorem dX5_term_150 : decode cX5_term 150 = .ok (.iastore, 1) := by decide +kernel
theorem dX5_term_151 : decode cX5_term 151 = .ok (.aload_n 0, 1) := by decide +kernel
theorem dX5_term_152 : decode cX5_term 152 = .ok (.getfield 13, 3) := by decide +kernel
theorem dX5_term_155 : decode cX5_term 155 = .ok (.aload_n 0, 1) := by decide +kernel
theorem dX5_term_156 : decode cX5_term 156 = .ok (.getfield 76, 3) := by decide +kernel
theorem dX5_term_159 : decode cX5_term 159 = .ok (.iload_n 2, 1) := by decide +kernel
theorem dX5_term_160 : decode cX5_term 160 = .ok (.iastore, 1) := by decide +kernel
theorem dX5_term_161 : decode cX5_term 161 = .ok (.aload_n 0, 1) := by decide +kernel
theorem dX5_term_162 : decode cX5_term 162 = .ok (.getfield 16, 3) := by decide +kernel
theorem dX5_term_165 : decode cX5_term 165 = .ok (.aload_n 0, 1) := by decide +kernel
theorem dX5_term_166 : decode cX5_term 166 = .ok (.getfield 76, 3) := by decide +kernel
theorem dX5_term_169 : decode cX5_term 169 = .ok (.iload_n 3, 1) := by decide +kernel
theorem dX5_term_170 : decode cX5_term 170 = .ok (.iastore, 1) := by decide +kernel
theorem dX5_term_171 : decode cX5_term 171 = .ok (.aload_n 0, 1) := by decide +kernel
theorem dX5_term_172 : decode cX5_term 172 = .ok (.getfield 19, 3) := by decide +kernel
theorem dX5_term_175 : decode cX5_term 175 = .ok (.aload_n 0, 1) := by decide +kernel
theorem dX5_term_176 : decode cX5_term 176 = .ok (.getfield 76, 3) := by decide +kernel
theorem dX5_term_179 : decode cX5_term 179 = .ok (.iload 4, 2) := by decide +kernel
theorem dX5_term_181 : decode cX5_term 181 = .ok (.iastore, 1) := by decide +kernel
theorem dX5_term_182 : decode cX5_term 182 = .ok (.aload_n 0, 1) := by decide +kernel
theorem dX5_term_183 : decode cX5_term 183 = .ok (.dup, 1) := by decide +kernel
theorem dX5_term_184 : decode cX5_term 184 = .ok (.getfield 76, 3) := by decide +kernel
theorem dX5_term_187 : decode cX5_term 187 = .ok (.iconst 1, 1) := by decide +kernel
theorem dX5_term_188 : decode cX5_term 188 = .ok (.iadd, 1) := by decide +kernel
theorem dX5_term_189 : decode cX5_term 189 = .ok (.putfield 76, 3) := by decide +kernel
theorem dX5_term_192 : decode cX5_term 192 = .ok (.aload_n 0, 1) := by decide +kernel
theorem dX5_term_193 : decode cX5_term 193 = .ok (.getfield 76, 3) := by decide +kernel
theorem dX5_term_196 : decode cX5_term 196 = .ok (.iconst 1, 1) := by decide +kernel
theorem dX5_term_197 : decode cX5_term 197 = .ok (.isub, 1) := by decide +kernel
theorem dX5_term_198 : decode cX5_term 198 = .ok (.ireturn, 1) := by decide +kernel
theorem dX5_fits_0 : decode cX5_fits 0 = .ok (.iload_n 1, 1) := by decide +kernel
theorem dX5_fits_1 : decode cX5_fits 1 = .ok (.bipush 20, 2) := by decide +kernel
theorem dX5_fits_3 : decode cX5_fits 3 = .ok (.invokestatic 79, 3) := by decide +kernel
theorem dX5_fits_6 : decode cX5_fits 6 = .ok (.ifCond .eq 5, 3) := by decide +kernel
theorem dX5_fits_9 : decode cX5_fits 9 = .ok (.iconst 0, 1) := by decide +kernel
theorem dX5_fits_10 : decode cX5_fits 10 = .ok (.ireturn, 1) := by decide +kernel
theorem dX5_fits_11 : decode cX5_fits 11 = .ok (.iload_n 1, 1) := by decide +kernel
theorem dX5_fits_12 : decode cX5_fits 12 = .ok (.ifCond .ne 17, 3) := by decide +kernel
theorem dX5_fits_15 : decode cX5_fits 15 = .ok (.iload_n 2, 1) := by decide +kernel
theorem dX5_fits_16 : decode cX5_fits 16 = .ok (.iconst 2, 1) := by decide +kernel
theorem dX5_fits_17 : decode cX5_fits 17 = .ok (.invokestatic 79, 3) := by decide +kernel
theorem dX5_fits_20 : decode cX5_fits 20 = .ok (.ifCond .ne 7, 3) := by decide +kernel
theorem dX5_fits_23 : decode cX5_fits 23 = .ok (.iconst 1, 1) := by decide +kernel
theorem dX5_fits_24 : decode cX5_fits 24 = .ok (.goto 4, 3) := by decide +kernel
theorem dX5_fits_27 : decode cX5_fits 27 = .ok (.iconst 0, 1) := by decide +kernel
theorem dX5_fits_28 : decode cX5_fits 28 = .ok (.ireturn, 1) := by decide +kernel
theorem dX5_fits_29 : decode cX5_fits 29 = .ok (.iload_n 1, 1) := by decide +kernel
theorem dX5_fits_30 : decode cX5_fits 30 = .ok (.iconst 1, 1) := by decide +kernel
theorem dX5_fits_31 : decode cX5_fits 31 = .ok (.if_icmp .ne 18, 3) := by decide +kernel
theorem dX5_fits_34 : decode cX5_fits 34 = .ok (.iload_n 2, 1) := by decide +kernel
theorem dX5_fits_35 : decode cX5_fits 35 = .ok (.bipush 32, 2) := by decide +kernel
theorem dX5_fits_37 : decode cX5_fits 37 = .ok (.invokestatic 79, 3) := by decide +kernel
theorem dX5_fits_40 : decode cX5_fits 40 = .ok (.ifCond .ne 7, 3) := by decide +kernel
theorem dX5_fits_43 : decode cX5_fits 43 = .ok (.iconst 1, 1) := by decide +kernel
theorem dX5_fits_44 : decode cX5_fits 44 = .ok (.goto 4, 3) := by decide +kernel
theorem dX5_fits_47 : decode cX5_fits 47 = .ok (.iconst 0, 1) := by decide +kernel
theorem dX5_fits_48 : decode cX5_fits 48 = .ok (.ireturn, 1) := by decide +kernel
theorem dX5_fits_49 : decode cX5_fits 49 = .ok (.iload_n 1, 1) := by decide +kernel
theorem dX5_fits_50 : decode cX5_fits 50 = .ok (.bipush 9, 2) := by decide +kernel
theorem dX5_fits_52 : decode cX5_fits 52 = .ok (.if_icmp .ne 34, 3) := by decide +kernel
theorem dX5_fits_55 : decode cX5_fits 55 = .ok (.aload_n 0, 1) := by decide +kernel
theorem dX5_fits_56 : decode cX5_fits 56 = .ok (.iload_n 2, 1) := by decide +kernel
theorem dX5_fits_57 : decode cX5_fits 57 = .ok (.invokevirtual 82, 3) := by decide +kernel
theorem dX5_fits_60 : decode cX5_fits 60 = .ok (.ifCond .eq 24, 3) := by decide +kernel
theorem dX5_fits_63 : decode cX5_fits 63 = .ok (.aload_n 0, 1) := by decide +kernel
theorem dX5_fits_64 : decode cX5_fits 64 = .ok (.iload_n 3, 1) := by decide +kernel
theorem dX5_fits_65 : decode cX5_fits 65 = .ok (.invokevirtual 85, 3) := by decide +kernel
theorem dX5_fits_68 : decode cX5_fits 68 = .ok (.ifCond .eq 16, 3) := by decide +kernel
theorem dX5_fits_71 : decode cX5_fits 71 = .ok (.aload_n 0, 1) := by decide +kernel
theorem dX5_fits_72 : decode cX5_fits 72 = .ok (.iload 4, 2) := by decide +kernel
theorem dX5_fits_74 : decode cX5_fits 74 = .ok (.invokevirtual 85, 3) := by decide +kernel
theorem dX5_fits_77 : decode cX5_fits 77 = .ok (.ifCond .eq 7, 3) := by decide +kernel
theorem dX5_fits_80 : decode cX5_fits 80 = .ok (.iconst 1, 1) := by decide +kernel
theorem dX5_fits_81 : decode cX5_fits 81 = .ok (.goto 4, 3) := by decide +kernel
theorem dX5_fits_84 : decode cX5_fits 84 = .ok (.iconst 0, 1) := by decide +kernel
theorem dX5_fits_85 : decode cX5_fits 85 = .ok (.ireturn, 1) := by decide +kernel
theorem dX5_fits_86 : decode cX5_fits 86 = .ok (.iload_n 1, 1) := by decide +kernel
theorem dX5_fits_87 : decode cX5_fits 87 = .ok (.bipush 17, 2) := by decide +kernel
theorem dX5_fits_89 : decode cX5_fits 89 = .ok (.if_icmp .lt 31, 3) := by decide +kernel
theorem dX5_fits_92 : decode cX5_fits 92 = .ok (.aload_n 0, 1) := by decide +kernel
theorem dX5_fits_93 : decode cX5_fits 93 = .ok (.iload_n 2, 1) := by decide +kernel
theorem dX5_fits_94 : decode cX5_fits 94 = .ok (.invokevirtual 82, 3) := by decide +kernel
theorem dX5_fits_97 : decode cX5_fits 97 = .ok (.ifCond .eq 21, 3) := by decide +kernel
theorem dX5_fits_100 : decode cX5_fits 100 = .ok (.iload_n 1, 1) := by decide +kernel
theorem dX5_fits_101 : decode cX5_fits 101 = .ok (.bipush 17, 2) := by decide +kernel
theorem dX5_fits_103 : decode cX5_fits 103 = .ok (.if_icmp .eq 11, 3) := by decide +kernel
theorem dX5_fits_106 : decode cX5_fits 106 = .ok (.aload_n 0, 1) := by decide +kernel
theorem dX5_fits_107 : decode cX5_fits 107 = .ok (.iload_n 3, 1) := by decide +kernel
theorem dX5_fits_108 : decode cX5_fits 108 = .ok (.invokevirtual 82, 3) := by decide +kernel
theorem dX5_fits_111 : decode cX5_fits 111 = .ok (.ifCond .eq 7, 3) := by decide +kernel
theorem dX5_fits_114 : decode cX5_fits 114 = .ok (.iconst 1, 1) := by decide +kernel
theorem dX5_fits_115 : decode cX5_fits 115 = .ok (.goto 4, 3) := by decide +kernel
theorem dX5_fits_118 : decode cX5_fits 118 = .ok (.iconst 0, 1) := by decide +kernel
theorem dX5_fits_119 : decode cX5_fits 119 = .ok (.ireturn, 1) := by decide +kernel
theorem dX5_fits_120 : decode cX5_fits 120 = .ok (.aload_n 0, 1) := by decide +kernel
theorem dX5_fits_121 : decode cX5_fits 121 = .ok (.iload_n 2, 1) := by decide +kernel
theorem dX5_fits_122 : decode cX5_fits 122 = .ok (.invokevirtual 85, 3) := by decide +kernel
theorem dX5_fits_125 : decode cX5_fits 125 = .ok (.ifCond .eq 23, 3) := by decide +kernel
theorem dX5_fits_128 : decode cX5_fits 128 = .ok (.iload_n 1, 1) := by decide +kernel
theorem dX5_fits_129 : decode cX5_fits 129 = .ok (.invokestatic 88, 3) := by decide +kernel
theorem dX5_fits_132 : decode cX5_fits 132 = .ok (.iconst 1, 1) := by decide +kernel
theorem dX5_fits_133 : decode cX5_fits 133 = .ok (.if_icmp .eq 11, 3) := by decide +kernel
theorem dX5_fits_136 : decode cX5_fits 136 = .ok (.aload_n 0, 1) := by decide +kernel
theorem dX5_fits_137 : decode cX5_fits 137 = .ok (.iload_n 3, 1) := by decide +kernel
theorem dX5_fits_138 : decode cX5_fits 138 = .ok (.invokevirtual 85, 3) := by decide +kernel
theorem dX5_fits_141 : decode cX5_fits 141 = .ok (.ifCond .eq 7, 3) := by decide +kernel
theorem dX5_fits_144 : decode cX5_fits 144 = .ok (.iconst 1, 1) := by decide +kernel
theorem dX5_fits_145 : decode cX5_fits 145 = .ok (.goto 4, 3) := by decide +kernel
theorem dX5_fits_148 : decode cX5_fits 148 = .ok (.iconst 0, 1) := by decide +kernel
theorem dX5_fits_149 : decode cX5_fits 149 = .ok (.ireturn, 1) := by decide +kernel
theorem dX5_out_0 : decode cX5_out 0 = .ok (.iload_n 0, 1) := by decide +kernel
theorem dX5_out_1 : decode cX5_out 1 = .ok (.ifCond .lt 8, 3) := by decide +kernel
theorem dX5_out_4 : decode cX5_out 4 = .ok (.iload_n 0, 1) := by decide +kernel
theorem dX5_out_5 : decode cX5_out 5 = .ok (.iload_n 1, 1) := by decide +kernel
theorem dX5_out_6 : decode cX5_out 6 = .ok (.if_icmp .lt 7, 3) := by decide +kernel
theorem dX5_out_9 : decode cX5_out 9 = .ok (.iconst 1, 1) := by decide +kernel
theorem dX5_out_10 : decode cX5_out 10 = .ok (.goto 4, 3) := by decide +kernel
theorem dX5_out_13 : decode cX5_out 13 = .ok (.iconst 0, 1) := by decide +kernel
theorem dX5_out_14 : decode cX5_out 14 = .ok (.ireturn, 1) := by decide +kernel
theorem dX5_isTruth_0 : decode cX5_isTruth 0 = .ok (.iload_n 1, 1) := by decide +kernel
theorem dX5_isTruth_1 : decode cX5_isTruth 1 = .ok (.aload_n 0, 1) := by decide +kernel
theorem dX5_isTruth_2 : decode cX5_isTruth 2 = .ok (.getfield 76, 3) := by decide +kernel
theorem dX5_isTruth_5 : decode cX5_isTruth 5 = .ok (.invokestatic 79, 3) := by decide +kernel
theorem dX5_isTruth_8 : decode cX5_isTruth 8 = .ok (.ifCond .ne 18, 3) := by decide +kernel
theorem dX5_isTruth_11 : decode cX5_isTruth 11 = .ok (.aload_n 0, 1) := by decide +kernel
theorem dX5_isTruth_12 : decode cX5_isTruth 12 = .ok (.getfield 7, 3) := by decide +kernel
theorem dX5_isTruth_15 : decode cX5_isTruth 15 = .ok (.iload_n 1, 1) := by decide +kernel
theorem dX5_isTruth_16 : decode cX5_isTruth 16 = .ok (.iaload, 1) := by decide +kernel
theorem dX5_isTruth_17 : decode cX5_isTruth 17 = .ok (.bipush 10, 2) := by decide +kernel
theorem dX5_isTruth_19 : decode cX5_isTruth 19 = .ok (.if_icmp .lt 7, 3) := by decide +kernel
theorem dX5_isTruth_22 : decode cX5_isTruth 22 = .ok (.iconst 1, 1) := by decide +kernel
theorem dX5_isTruth_23 : decode cX5_isTruth 23 = .ok (.goto 4, 3) := by decide +kernel
theorem dX5_isTruth_26 : decode cX5_isTruth 26 = .ok (.iconst 0, 1) := by decide +kernel
theorem dX5_isTruth_27 : decode cX5_isTruth 27 = .ok (.ireturn, 1) := by decide +kernel
theorem dX5_isNumber_0 : decode cX5_isNumber 0 = .ok (.iload_n 1, 1) := by decide +kernel
theorem dX5_isNumber_1 : decode cX5_isNumber 1 = .ok (.aload_n 0, 1) := by decide +kernel
theorem dX5_isNumber_2 : decode cX5_isNumber 2 = .ok (.getfield 76, 3) := by decide +kernel
theorem dX5_isNumber_5 : decode cX5_isNumber 5 = .ok (.invokestatic 79, 3) := by decide +kernel
theorem dX5_isNumber_8 : decode cX5_isNumber 8 = .ok (.ifCond .ne 18, 3) := by decide +kernel
theorem dX5_isNumber_11 : decode cX5_isNumber 11 = .ok (.aload_n 0, 1) := by decide +kernel
theorem dX5_isNumber_12 : decode cX5_isNumber 12 = .ok (.getfield 7, 3) := by decide +kernel
theorem dX5_isNumber_15 : decode cX5_isNumber 15 = .ok (.iload_n 1, 1) := by decide +kernel
theorem dX5_isNumber_16 : decode cX5_isNumber 16 = .ok (.iaload, 1) := by decide +kernel
theorem dX5_isNumber_17 : decode cX5_isNumber 17 = .ok (.bipush 10, 2) := by decide +kernel
theorem dX5_isNumber_19 : decode cX5_isNumber 19 = .ok (.if_icmp .ge 7, 3) := by decide +kernel
theorem dX5_isNumber_22 : decode cX5_isNumber 22 = .ok (.iconst 1, 1) := by decide +kernel
theorem dX5_isNumber_23 : decode cX5_isNumber 23 = .ok (.goto 4, 3) := by decide +kernel
theorem dX5_isNumber_26 : decode cX5_isNumber 26 = .ok (.iconst 0, 1) := by decide +kernel
theorem dX5_isNumber_27 : decode cX5_isNumber 27 = .ok (.ireturn, 1) := by decide +kernel
theorem dX5_names_0 : decode cX5_names 0 = .ok (.iload_n 0, 1) := by decide +kernel
theorem dX5_names_1 : decode cX5_names 1 = .ok (.bipush 9, 2) := by decide +kernel
theorem dX5_names_3 : decode cX5_names 3 = .ok (.if_icmp .ne 7, 3) := by decide +kernel
theorem dX5_names_6 : decode cX5_names 6 = .ok (.iconst 3, 1) := by decide +kernel
theorem dX5_names_7 : decode cX5_names 7 = .ok (.goto 25, 3) := by decide +kernel
theorem dX5_names_10 : decode cX5_names 10 = .ok (.iload_n 0, 1) := by decide +kernel
theorem dX5_names_11 : decode cX5_names 11 = .ok (.iconst 4, 1) := by decide +kernel
theorem dX5_names_12 : decode cX5_names 12 = .ok (.if_icmp .lt 15, 3) := by decide +kernel
theorem dX5_names_15 : decode cX5_names 15 = .ok (.iload_n 0, 1) := by decide +kernel
theorem dX5_names_16 : decode cX5_names 16 = .ok (.bipush 14, 2) := by decide +kernel
theorem dX5_names_18 : decode cX5_names 18 = .ok (.if_icmp .lt 13, 3) := by decide +kernel
theorem dX5_names_21 : decode cX5_names 21 = .ok (.iload_n 0, 1) := by decide +kernel
theorem dX5_names_22 : decode cX5_names 22 = .ok (.bipush 17, 2) := by decide +kernel
theorem dX5_names_24 : decode cX5_names 24 = .ok (.if_icmp .gt 7, 3) := by decide +kernel
theorem dX5_names_27 : decode cX5_names 27 = .ok (.iconst 1, 1) := by decide +kernel
theorem dX5_names_28 : decode cX5_names 28 = .ok (.goto 4, 3) := by decide +kernel
theorem dX5_names_31 : decode cX5_names 31 = .ok (.iconst 2, 1) := by decide +kernel
theorem dX5_names_32 : decode cX5_names 32 = .ok (.ireturn, 1) := by decide +kernel
theorem dX5_claim_0 : decode cX5_claim 0 = .ok (.aload_n 0, 1) := by decide +kernel
theorem dX5_claim_1 : decode cX5_claim 1 = .ok (.aload_n 0, 1) := by decide +kernel
theorem dX5_claim_2 : decode cX5_claim 2 = .ok (.iload_n 1, 1) := by decide +kernel
theorem dX5_claim_3 : decode cX5_claim 3 = .ok (.invokevirtual 82, 3) := by decide +kernel
theorem dX5_claim_6 : decode cX5_claim 6 = .ok (.ifCond .ne 7, 3) := by decide +kernel
theorem dX5_claim_9 : decode cX5_claim 9 = .ok (.iconst 1, 1) := by decide +kernel
theorem dX5_claim_10 : decode cX5_claim 10 = .ok (.goto 17, 3) := by decide +kernel
theorem dX5_claim_13 : decode cX5_claim 13 = .ok (.aload_n 0, 1) := by decide +kernel
theorem dX5_claim_14 : decode cX5_claim 14 = .ok (.getfield 99, 3) := by decide +kernel
theorem dX5_claim_17 : decode cX5_claim 17 = .ok (.bipush 20, 2) := by decide +kernel
theorem dX5_claim_19 : decode cX5_claim 19 = .ok (.if_icmp .ne 7, 3) := by decide +kernel
theorem dX5_claim_22 : decode cX5_claim 22 = .ok (.iconst 2, 1) := by decide +kernel
theorem dX5_claim_23 : decode cX5_claim 23 = .ok (.goto 4, 3) := by decide +kernel
theorem dX5_claim_26 : decode cX5_claim 26 = .ok (.iconst 0, 1) := by decide +kernel
theorem dX5_claim_27 : decode cX5_claim 27 = .ok (.putfield 34, 3) := by decide +kernel
theorem dX5_claim_30 : decode cX5_claim 30 = .ok (.aload_n 0, 1) := by decide +kernel
theorem dX5_claim_31 : decode cX5_claim 31 = .ok (.getfield 34, 3) := by decide +kernel
theorem dX5_claim_34 : decode cX5_claim 34 = .ok (.ifCond .le 5, 3) := by decide +kernel
theorem dX5_claim_37 : decode cX5_claim 37 = .ok (.iconst 0, 1) := by decide +kernel
theorem dX5_claim_38 : decode cX5_claim 38 = .ok (.ireturn, 1) := by decide +kernel
theorem dX5_claim_39 : decode cX5_claim 39 = .ok (.aload_n 0, 1) := by decide +kernel
theorem dX5_claim_40 : decode cX5_claim 40 = .ok (.getfield 22, 3) := by decide +kernel
theorem dX5_claim_43 : decode cX5_claim 43 = .ok (.aload_n 0, 1) := by decide +kernel
theorem dX5_claim_44 : decode cX5_claim 44 = .ok (.getfield 99, 3) := by decide +kernel
theorem dX5_claim_47 : decode cX5_claim 47 = .ok (.iload_n 1, 1) := by decide +kernel
theorem dX5_claim_48 : decode cX5_claim 48 = .ok (.iastore, 1) := by decide +kernel
theorem dX5_claim_49 : decode cX5_claim 49 = .ok (.aload_n 0, 1) := by decide +kernel
theorem dX5_claim_50 : decode cX5_claim 50 = .ok (.dup, 1) := by decide +kernel
theorem dX5_claim_51 : decode cX5_claim 51 = .ok (.getfield 99, 3) := by decide +kernel
theorem dX5_claim_54 : decode cX5_claim 54 = .ok (.iconst 1, 1) := by decide +kernel
theorem dX5_claim_55 : decode cX5_claim 55 = .ok (.iadd, 1) := by decide +kernel
theorem dX5_claim_56 : decode cX5_claim 56 = .ok (.putfield 99, 3) := by decide +kernel
theorem dX5_claim_59 : decode cX5_claim 59 = .ok (.aload_n 0, 1) := by decide +kernel
theorem dX5_claim_60 : decode cX5_claim 60 = .ok (.getfield 99, 3) := by decide +kernel
theorem dX5_claim_63 : decode cX5_claim 63 = .ok (.ireturn, 1) := by decide +kernel
theorem dX5_open_0 : decode cX5_open 0 = .ok (.aload_n 0, 1) := by decide +kernel
theorem dX5_open_1 : decode cX5_open 1 = .ok (.aload_n 0, 1) := by decide +kernel
theorem dX5_open_2 : decode cX5_open 2 = .ok (.getfield 102, 3) := by decide +kernel
theorem dX5_open_5 : decode cX5_open 5 = .ok (.iconst 5, 1) := by decide +kernel
theorem dX5_open_6 : decode cX5_open 6 = .ok (.if_icmp .ne 7, 3) := by decide +kernel
theorem dX5_open_9 : decode cX5_open 9 = .ok (.iconst 1, 1) := by decide +kernel
theorem dX5_open_10 : decode cX5_open 10 = .ok (.goto 4, 3) := by decide +kernel
theorem dX5_open_13 : decode cX5_open 13 = .ok (.iconst 0, 1) := by decide +kernel
theorem dX5_open_14 : decode cX5_open 14 = .ok (.putfield 34, 3) := by decide +kernel
theorem dX5_open_17 : decode cX5_open 17 = .ok (.aload_n 0, 1) := by decide +kernel
theorem dX5_open_18 : decode cX5_open 18 = .ok (.getfield 34, 3) := by decide +kernel
theorem dX5_open_21 : decode cX5_open 21 = .ok (.ifCond .le 5, 3) := by decide +kernel
theorem dX5_open_24 : decode cX5_open 24 = .ok (.iconst 0, 1) := by decide +kernel
theorem dX5_open_25 : decode cX5_open 25 = .ok (.ireturn, 1) := by decide +kernel
theorem dX5_open_26 : decode cX5_open 26 = .ok (.aload_n 0, 1) := by decide +kernel
theorem dX5_open_27 : decode cX5_open 27 = .ok (.dup, 1) := by decide +kernel
theorem dX5_open_28 : decode cX5_open 28 = .ok (.getfield 102, 3) := by decide +kernel
theorem dX5_open_31 : decode cX5_open 31 = .ok (.iconst 1, 1) := by decide +kernel
theorem dX5_open_32 : decode cX5_open 32 = .ok (.iadd, 1) := by decide +kernel
theorem dX5_open_33 : decode cX5_open 33 = .ok (.putfield 102, 3) := by decide +kernel
theorem dX5_open_36 : decode cX5_open 36 = .ok (.aload_n 0, 1) := by decide +kernel
theorem dX5_open_37 : decode cX5_open 37 = .ok (.getfield 25, 3) := by decide +kernel
theorem dX5_open_40 : decode cX5_open 40 = .ok (.aload_n 0, 1) := by decide +kernel
theorem dX5_open_41 : decode cX5_open 41 = .ok (.getfield 102, 3) := by decide +kernel
theorem dX5_open_44 : decode cX5_open 44 = .ok (.aload_n 0, 1) := by decide +kernel
theorem dX5_open_45 : decode cX5_open 45 = .ok (.getfield 99, 3) := by decide +kernel
theorem dX5_open_48 : decode cX5_open 48 = .ok (.iastore, 1) := by decide +kernel
theorem dX5_open_49 : decode cX5_open 49 = .ok (.aload_n 0, 1) := by decide +kernel
theorem dX5_open_50 : decode cX5_open 50 = .ok (.getfield 102, 3) := by decide +kernel
theorem dX5_open_53 : decode cX5_open 53 = .ok (.ireturn, 1) := by decide +kernel
theorem dX5_close_0 : decode cX5_close 0 = .ok (.aload_n 0, 1) := by decide +kernel
theorem dX5_close_1 : decode cX5_close 1 = .ok (.aload_n 0, 1) := by decide +kernel
theorem dX5_close_2 : decode cX5_close 2 = .ok (.getfield 102, 3) := by decide +kernel
theorem dX5_close_5 : decode cX5_close 5 = .ok (.ifCond .ne 7, 3) := by decide +kernel
theorem dX5_close_8 : decode cX5_close 8 = .ok (.iconst 1, 1) := by decide +kernel
theorem dX5_close_9 : decode cX5_close 9 = .ok (.goto 4, 3) := by decide +kernel
theorem dX5_close_12 : decode cX5_close 12 = .ok (.iconst 0, 1) := by decide +kernel
theorem dX5_close_13 : decode cX5_close 13 = .ok (.putfield 34, 3) := by decide +kernel
theorem dX5_close_16 : decode cX5_close 16 = .ok (.aload_n 0, 1) := by decide +kernel
theorem dX5_close_17 : decode cX5_close 17 = .ok (.getfield 34, 3) := by decide +kernel
theorem dX5_close_20 : decode cX5_close 20 = .ok (.ifCond .le 5, 3) := by decide +kernel
theorem dX5_close_23 : decode cX5_close 23 = .ok (.iconst 0, 1) := by decide +kernel
theorem dX5_close_24 : decode cX5_close 24 = .ok (.ireturn, 1) := by decide +kernel
theorem dX5_close_25 : decode cX5_close 25 = .ok (.aload_n 0, 1) := by decide +kernel
theorem dX5_close_26 : decode cX5_close 26 = .ok (.getfield 99, 3) := by decide +kernel
theorem dX5_close_29 : decode cX5_close 29 = .ok (.aload_n 0, 1) := by decide +kernel
theorem dX5_close_30 : decode cX5_close 30 = .ok (.getfield 25, 3) := by decide +kernel
theorem dX5_close_33 : decode cX5_close 33 = .ok (.aload_n 0, 1) := by decide +kernel
theorem dX5_close_34 : decode cX5_close 34 = .ok (.getfield 102, 3) := by decide +kernel
theorem dX5_close_37 : decode cX5_close 37 = .ok (.iaload, 1) := by decide +kernel
theorem dX5_close_38 : decode cX5_close 38 = .ok (.isub, 1) := by decide +kernel
theorem dX5_close_39 : decode cX5_close 39 = .ok (.istore_n 1, 1) := by decide +kernel
theorem dX5_close_40 : decode cX5_close 40 = .ok (.aload_n 0, 1) := by decide +kernel
theorem dX5_close_41 : decode cX5_close 41 = .ok (.aload_n 0, 1) := by decide +kernel
theorem dX5_close_42 : decode cX5_close 42 = .ok (.getfield 25, 3) := by decide +kernel
theorem dX5_close_45 : decode cX5_close 45 = .ok (.aload_n 0, 1) := by decide +kernel
theorem dX5_close_46 : decode cX5_close 46 = .ok (.getfield 102, 3) := by decide +kernel
theorem dX5_close_49 : decode cX5_close 49 = .ok (.iaload, 1) := by decide +kernel
theorem dX5_close_50 : decode cX5_close 50 = .ok (.putfield 99, 3) := by decide +kernel
theorem dX5_close_53 : decode cX5_close 53 = .ok (.aload_n 0, 1) := by decide +kernel
theorem dX5_close_54 : decode cX5_close 54 = .ok (.dup, 1) := by decide +kernel
theorem dX5_close_55 : decode cX5_close 55 = .ok (.getfield 102, 3) := by decide +kernel
theorem dX5_close_58 : decode cX5_close 58 = .ok (.iconst 1, 1) := by decide +kernel
theorem dX5_close_59 : decode cX5_close 59 = .ok (.isub, 1) := by decide +kernel
theorem dX5_close_60 : decode cX5_close 60 = .ok (.putfield 102, 3) := by decide +kernel
theorem dX5_close_63 : decode cX5_close 63 = .ok (.iload_n 1, 1) := by decide +kernel
theorem dX5_close_64 : decode cX5_close 64 = .ok (.ireturn, 1) := by decide +kernel
theorem dX5_check_0 : decode cX5_check 0 = .ok (.aload_n 0, 1) := by decide +kernel
theorem dX5_check_1 : decode cX5_check 1 = .ok (.iconst 0, 1) := by decide +kernel
theorem dX5_check_2 : decode cX5_check 2 = .ok (.putfield 34, 3) := by decide +kernel
theorem dX5_check_5 : decode cX5_check 5 = .ok (.aload_n 0, 1) := by decide +kernel
theorem dX5_check_6 : decode cX5_check 6 = .ok (.dup, 1) := by decide +kernel
theorem dX5_check_7 : decode cX5_check 7 = .ok (.getfield 105, 3) := by decide +kernel
theorem dX5_check_10 : decode cX5_check 10 = .ok (.iconst 1, 1) := by decide +kernel
theorem dX5_check_11 : decode cX5_check 11 = .ok (.iadd, 1) := by decide +kernel
theorem dX5_check_12 : decode cX5_check 12 = .ok (.putfield 105, 3) := by decide +kernel
theorem dX5_check_15 : decode cX5_check 15 = .ok (.aload_n 0, 1) := by decide +kernel
theorem dX5_check_16 : decode cX5_check 16 = .ok (.iconst 0, 1) := by decide +kernel
theorem dX5_check_17 : decode cX5_check 17 = .ok (.putfield 108, 3) := by decide +kernel
theorem dX5_check_20 : decode cX5_check 20 = .ok (.iconst 0, 1) := by decide +kernel
theorem dX5_check_21 : decode cX5_check 21 = .ok (.istore_n 1, 1) := by decide +kernel
theorem dX5_check_22 : decode cX5_check 22 = .ok (.iload_n 1, 1) := by decide +kernel
theorem dX5_check_23 : decode cX5_check 23 = .ok (.sipush 1024, 3) := by decide +kernel
theorem dX5_check_26 : decode cX5_check 26 = .ok (.if_icmp .ge 56, 3) := by decide +kernel
theorem dX5_check_29 : decode cX5_check 29 = .ok (.aload_n 0, 1) := by decide +kernel
theorem dX5_check_30 : decode cX5_check 30 = .ok (.getfield 108, 3) := by decide +kernel
theorem dX5_check_33 : decode cX5_check 33 = .ok (.ifCond .ne 49, 3) := by decide +kernel
theorem dX5_check_36 : decode cX5_check 36 = .ok (.aload_n 0, 1) := by decide +kernel
theorem dX5_check_37 : decode cX5_check 37 = .ok (.iload_n 1, 1) := by decide +kernel
theorem dX5_check_38 : decode cX5_check 38 = .ok (.bipush 32, 2) := by decide +kernel
theorem dX5_check_40 : decode cX5_check 40 = .ok (.idiv, 1) := by decide +kernel
theorem dX5_check_41 : decode cX5_check 41 = .ok (.iload_n 1, 1) := by decide +kernel
theorem dX5_check_42 : decode cX5_check 42 = .ok (.bipush 32, 2) := by decide +kernel
theorem dX5_check_44 : decode cX5_check 44 = .ok (.irem, 1) := by decide +kernel
theorem dX5_check_45 : decode cX5_check 45 = .ok (.invokevirtual 112, 3) := by decide +kernel
theorem dX5_check_48 : decode cX5_check 48 = .ok (.aload_n 0, 1) := by decide +kernel
theorem dX5_check_49 : decode cX5_check 49 = .ok (.aload_n 0, 1) := by decide +kernel
theorem dX5_check_50 : decode cX5_check 50 = .ok (.invokevirtual 116, 3) := by decide +kernel
theorem dX5_check_53 : decode cX5_check 53 = .ok (.putfield 108, 3) := by decide +kernel
theorem dX5_check_56 : decode cX5_check 56 = .ok (.aload_n 0, 1) := by decide +kernel
theorem dX5_check_57 : decode cX5_check 57 = .ok (.getfield 28, 3) := by decide +kernel
theorem dX5_check_60 : decode cX5_check 60 = .ok (.iconst 0, 1) := by decide +kernel
theorem dX5_check_61 : decode cX5_check 61 = .ok (.iload_n 1, 1) := by decide +kernel
theorem dX5_check_62 : decode cX5_check 62 = .ok (.bipush 32, 2) := by decide +kernel
theorem dX5_check_64 : decode cX5_check 64 = .ok (.idiv, 1) := by decide +kernel
theorem dX5_check_65 : decode cX5_check 65 = .ok (.iastore, 1) := by decide +kernel
theorem dX5_check_66 : decode cX5_check 66 = .ok (.aload_n 0, 1) := by decide +kernel
theorem dX5_check_67 : decode cX5_check 67 = .ok (.getfield 28, 3) := by decide +kernel
theorem dX5_check_70 : decode cX5_check 70 = .ok (.iconst 1, 1) := by decide +kernel
theorem dX5_check_71 : decode cX5_check 71 = .ok (.iload_n 1, 1) := by decide +kernel
theorem dX5_check_72 : decode cX5_check 72 = .ok (.bipush 32, 2) := by decide +kernel
theorem dX5_check_74 : decode cX5_check 74 = .ok (.irem, 1) := by decide +kernel
theorem dX5_check_75 : decode cX5_check 75 = .ok (.iastore, 1) := by decide +kernel
theorem dX5_check_76 : decode cX5_check 76 = .ok (.iinc 1 1, 3) := by decide +kernel
theorem dX5_check_79 : decode cX5_check 79 = .ok (.goto (-57), 3) := by decide +kernel
theorem dX5_check_82 : decode cX5_check 82 = .ok (.aload_n 0, 1) := by decide +kernel
theorem dX5_check_83 : decode cX5_check 83 = .ok (.getfield 108, 3) := by decide +kernel
theorem dX5_check_86 : decode cX5_check 86 = .ok (.ireturn, 1) := by decide +kernel
theorem dX5_reckonAll_0 : decode cX5_reckonAll 0 = .ok (.iconst 0, 1) := by decide +kernel
theorem dX5_reckonAll_1 : decode cX5_reckonAll 1 = .ok (.istore_n 3, 1) := by decide +kernel
theorem dX5_reckonAll_2 : decode cX5_reckonAll 2 = .ok (.iload_n 3, 1) := by decide +kernel
theorem dX5_reckonAll_3 : decode cX5_reckonAll 3 = .ok (.aload_n 0, 1) := by decide +kernel
theorem dX5_reckonAll_4 : decode cX5_reckonAll 4 = .ok (.getfield 76, 3) := by decide +kernel
theorem dX5_reckonAll_7 : decode cX5_reckonAll 7 = .ok (.if_icmp .ge 160, 3) := by decide +kernel
theorem dX5_reckonAll_10 : decode cX5_reckonAll 10 = .ok (.aload_n 0, 1) := by decide +kernel
theorem dX5_reckonAll_11 : decode cX5_reckonAll 11 = .ok (.getfield 7, 3) := by decide +kernel
theorem dX5_reckonAll_14 : decode cX5_reckonAll 14 = .ok (.iload_n 3, 1) := by decide +kernel
theorem dX5_reckonAll_15 : decode cX5_reckonAll 15 = .ok (.iaload, 1) := by decide +kernel
theorem dX5_reckonAll_16 : decode cX5_reckonAll 16 = .ok (.istore 4, 2) := by decide +kernel
theorem dX5_reckonAll_18 : decode cX5_reckonAll 18 = .ok (.aload_n 0, 1) := by decide +kernel
theorem dX5_reckonAll_19 : decode cX5_reckonAll 19 = .ok (.getfield 13, 3) := by decide +kernel
theorem dX5_reckonAll_22 : decode cX5_reckonAll 22 = .ok (.iload_n 3, 1) := by decide +kernel
theorem dX5_reckonAll_23 : decode cX5_reckonAll 23 = .ok (.iaload, 1) := by decide +kernel
theorem dX5_reckonAll_24 : decode cX5_reckonAll 24 = .ok (.istore 5, 2) := by decide +kernel
theorem dX5_reckonAll_26 : decode cX5_reckonAll 26 = .ok (.iload 4, 2) := by decide +kernel
theorem dX5_reckonAll_28 : decode cX5_reckonAll 28 = .ok (.ifCond .ne 22, 3) := by decide +kernel
theorem dX5_reckonAll_31 : decode cX5_reckonAll 31 = .ok (.aload_n 0, 1) := by decide +kernel
theorem dX5_reckonAll_32 : decode cX5_reckonAll 32 = .ok (.getfield 31, 3) := by decide +kernel
theorem dX5_reckonAll_35 : decode cX5_reckonAll 35 = .ok (.iload_n 3, 1) := by decide +kernel
theorem dX5_reckonAll_36 : decode cX5_reckonAll 36 = .ok (.iload 5, 2) := by decide +kernel
theorem dX5_reckonAll_38 : decode cX5_reckonAll 38 = .ok (.ifCond .ne 7, 3) := by decide +kernel
theorem dX5_reckonAll_41 : decode cX5_reckonAll 41 = .ok (.iload_n 1, 1) := by decide +kernel
theorem dX5_reckonAll_42 : decode cX5_reckonAll 42 = .ok (.goto 4, 3) := by decide +kernel
theorem dX5_reckonAll_45 : decode cX5_reckonAll 45 = .ok (.iload_n 2, 1) := by decide +kernel
theorem dX5_reckonAll_46 : decode cX5_reckonAll 46 = .ok (.iastore, 1) := by decide +kernel
theorem dX5_reckonAll_47 : decode cX5_reckonAll 47 = .ok (.goto 114, 3) := by decide +kernel
theorem dX5_reckonAll_50 : decode cX5_reckonAll 50 = .ok (.iload 4, 2) := by decide +kernel
theorem dX5_reckonAll_52 : decode cX5_reckonAll 52 = .ok (.iconst 1, 1) := by decide +kernel
theorem dX5_reckonAll_53 : decode cX5_reckonAll 53 = .ok (.if_icmp .ne 14, 3) := by decide +kernel
theorem dX5_reckonAll_56 : decode cX5_reckonAll 56 = .ok (.aload_n 0, 1) := by decide +kernel
theorem dX5_reckonAll_57 : decode cX5_reckonAll 57 = .ok (.getfield 31, 3) := by decide +kernel
theorem dX5_reckonAll_60 : decode cX5_reckonAll 60 = .ok (.iload_n 3, 1) := by decide +kernel
theorem dX5_reckonAll_61 : decode cX5_reckonAll 61 = .ok (.iload 5, 2) := by decide +kernel
theorem dX5_reckonAll_63 : decode cX5_reckonAll 63 = .ok (.iastore, 1) := by decide +kernel
theorem dX5_reckonAll_64 : decode cX5_reckonAll 64 = .ok (.goto 97, 3) := by decide +kernel
theorem dX5_reckonAll_67 : decode cX5_reckonAll 67 = .ok (.iload 4, 2) := by decide +kernel
theorem dX5_reckonAll_69 : decode cX5_reckonAll 69 = .ok (.bipush 9, 2) := by decide +kernel
theorem dX5_reckonAll_71 : decode cX5_reckonAll 71 = .ok (.if_icmp .ne 48, 3) := by decide +kernel
theorem dX5_reckonAll_74 : decode cX5_reckonAll 74 = .ok (.aload_n 0, 1) := by decide +kernel
theorem dX5_reckonAll_75 : decode cX5_reckonAll 75 = .ok (.getfield 31, 3) := by decide +kernel
theorem dX5_reckonAll_78 : decode cX5_reckonAll 78 = .ok (.iload_n 3, 1) := by decide +kernel
theorem dX5_reckonAll_79 : decode cX5_reckonAll 79 = .ok (.aload_n 0, 1) := by decide +kernel
theorem dX5_reckonAll_80 : decode cX5_reckonAll 80 = .ok (.getfield 31, 3) := by decide +kernel
theorem dX5_reckonAll_83 : decode cX5_reckonAll 83 = .ok (.iload 5, 2) := by decide +kernel
theorem dX5_reckonAll_85 : decode cX5_reckonAll 85 = .ok (.iaload, 1) := by decide +kernel
theorem dX5_reckonAll_86 : decode cX5_reckonAll 86 = .ok (.iconst 1, 1) := by decide +kernel
theorem dX5_reckonAll_87 : decode cX5_reckonAll 87 = .ok (.if_icmp .ne 17, 3) := by decide +kernel
theorem dX5_reckonAll_90 : decode cX5_reckonAll 90 = .ok (.aload_n 0, 1) := by decide +kernel
theorem dX5_reckonAll_91 : decode cX5_reckonAll 91 = .ok (.getfield 31, 3) := by decide +kernel
theorem dX5_reckonAll_94 : decode cX5_reckonAll 94 = .ok (.aload_n 0, 1) := by decide +kernel
theorem dX5_reckonAll_95 : decode cX5_reckonAll 95 = .ok (.getfield 16, 3) := by decide +kernel
theorem dX5_reckonAll_98 : decode cX5_reckonAll 98 = .ok (.iload_n 3, 1) := by decide +kernel
theorem dX5_reckonAll_99 : decode cX5_reckonAll 99 = .ok (.iaload, 1) := by decide +kernel
theorem dX5_reckonAll_100 : decode cX5_reckonAll 100 = .ok (.iaload, 1) := by decide +kernel
theorem dX5_reckonAll_101 : decode cX5_reckonAll 101 = .ok (.goto 14, 3) := by decide +kernel
theorem dX5_reckonAll_104 : decode cX5_reckonAll 104 = .ok (.aload_n 0, 1) := by decide +kernel
theorem dX5_reckonAll_105 : decode cX5_reckonAll 105 = .ok (.getfield 31, 3) := by decide +kernel
theorem dX5_reckonAll_108 : decode cX5_reckonAll 108 = .ok (.aload_n 0, 1) := by decide +kernel
theorem dX5_reckonAll_109 : decode cX5_reckonAll 109 = .ok (.getfield 19, 3) := by decide +kernel
theorem dX5_reckonAll_112 : decode cX5_reckonAll 112 = .ok (.iload_n 3, 1) := by decide +kernel
theorem dX5_reckonAll_113 : decode cX5_reckonAll 113 = .ok (.iaload, 1) := by decide +kernel
theorem dX5_reckonAll_114 : decode cX5_reckonAll 114 = .ok (.iaload, 1) := by decide +kernel
theorem dX5_reckonAll_115 : decode cX5_reckonAll 115 = .ok (.iastore, 1) := by decide +kernel
theorem dX5_reckonAll_116 : decode cX5_reckonAll 116 = .ok (.goto 45, 3) := by decide +kernel
theorem dX5_reckonAll_119 : decode cX5_reckonAll 119 = .ok (.aload_n 0, 1) := by decide +kernel
theorem dX5_reckonAll_120 : decode cX5_reckonAll 120 = .ok (.getfield 31, 3) := by decide +kernel
theorem dX5_reckonAll_123 : decode cX5_reckonAll 123 = .ok (.iload_n 3, 1) := by decide +kernel
theorem dX5_reckonAll_124 : decode cX5_reckonAll 124 = .ok (.iload 4, 2) := by decide +kernel
theorem dX5_reckonAll_126 : decode cX5_reckonAll 126 = .ok (.aload_n 0, 1) := by decide +kernel
theorem dX5_reckonAll_127 : decode cX5_reckonAll 127 = .ok (.getfield 31, 3) := by decide +kernel
theorem dX5_reckonAll_130 : decode cX5_reckonAll 130 = .ok (.iload 5, 2) := by decide +kernel
theorem dX5_reckonAll_132 : decode cX5_reckonAll 132 = .ok (.iaload, 1) := by decide +kernel
theorem dX5_reckonAll_133 : decode cX5_reckonAll 133 = .ok (.iload 4, 2) := by decide +kernel
theorem dX5_reckonAll_135 : decode cX5_reckonAll 135 = .ok (.invokestatic 88, 3) := by decide +kernel
theorem dX5_reckonAll_138 : decode cX5_reckonAll 138 = .ok (.iconst 2, 1) := by decide +kernel
theorem dX5_reckonAll_139 : decode cX5_reckonAll 139 = .ok (.if_icmp .ne 17, 3) := by decide +kernel
theorem dX5_reckonAll_142 : decode cX5_reckonAll 142 = .ok (.aload_n 0, 1) := by decide +kernel
theorem dX5_reckonAll_143 : decode cX5_reckonAll 143 = .ok (.getfield 31, 3) := by decide +kernel
theorem dX5_reckonAll_146 : decode cX5_reckonAll 146 = .ok (.aload_n 0, 1) := by decide +kernel
theorem dX5_reckonAll_147 : decode cX5_reckonAll 147 = .ok (.getfield 16, 3) := by decide +kernel
theorem dX5_reckonAll_150 : decode cX5_reckonAll 150 = .ok (.iload_n 3, 1) := by decide +kernel
theorem dX5_reckonAll_151 : decode cX5_reckonAll 151 = .ok (.iaload, 1) := by decide +kernel
theorem dX5_reckonAll_152 : decode cX5_reckonAll 152 = .ok (.iaload, 1) := by decide +kernel
theorem dX5_reckonAll_153 : decode cX5_reckonAll 153 = .ok (.goto 4, 3) := by decide +kernel
theorem dX5_reckonAll_156 : decode cX5_reckonAll 156 = .ok (.iconst 0, 1) := by decide +kernel
theorem dX5_reckonAll_157 : decode cX5_reckonAll 157 = .ok (.invokestatic 95, 3) := by decide +kernel
theorem dX5_reckonAll_160 : decode cX5_reckonAll 160 = .ok (.iastore, 1) := by decide +kernel
theorem dX5_reckonAll_161 : decode cX5_reckonAll 161 = .ok (.iinc 3 1, 3) := by decide +kernel
theorem dX5_reckonAll_164 : decode cX5_reckonAll 164 = .ok (.goto (-162), 3) := by decide +kernel
theorem dX5_reckonAll_167 : decode cX5_reckonAll 167 = .ok (.return_, 1) := by decide +kernel
theorem dX5_operate_0 : decode cX5_operate 0 = .ok (.iload_n 0, 1) := by decide +kernel
theorem dX5_operate_1 : decode cX5_operate 1 = .ok (.tableswitch 259 2 18 #[83, 88, 93, 99, 108, 114, 135, 259, 156, 184, 193, 202, 227, 235, 243, 251, 255], 83) := by decide +kernel
theorem dX5_operate_84 : decode cX5_operate 84 = .ok (.iload_n 1, 1) := by decide +kernel
theorem dX5_operate_85 : decode cX5_operate 85 = .ok (.bipush 16, 2) := by decide +kernel
theorem dX5_operate_87 : decode cX5_operate 87 = .ok (.ixor, 1) := by decide +kernel
theorem dX5_operate_88 : decode cX5_operate 88 = .ok (.ireturn, 1) := by decide +kernel
theorem dX5_operate_89 : decode cX5_operate 89 = .ok (.iload_n 1, 1) := by decide +kernel
theorem dX5_operate_90 : decode cX5_operate 90 = .ok (.bipush 15, 2) := by decide +kernel
theorem dX5_operate_92 : decode cX5_operate 92 = .ok (.iand, 1) := by decide +kernel
theorem dX5_operate_93 : decode cX5_operate 93 = .ok (.ireturn, 1) := by decide +kernel
theorem dX5_operate_94 : decode cX5_operate 94 = .ok (.iload_n 1, 1) := by decide +kernel
theorem dX5_operate_95 : decode cX5_operate 95 = .ok (.iload_n 2, 1) := by decide +kernel
theorem dX5_operate_96 : decode cX5_operate 96 = .ok (.invokestatic 58, 3) := by decide +kernel
theorem dX5_operate_99 : decode cX5_operate 99 = .ok (.ireturn, 1) := by decide +kernel
theorem dX5_operate_100 : decode cX5_operate 100 = .ok (.iload_n 1, 1) := by decide +kernel
theorem dX5_operate_101 : decode cX5_operate 101 = .ok (.iload_n 2, 1) := by decide +kernel
theorem dX5_operate_102 : decode cX5_operate 102 = .ok (.bipush 16, 2) := by decide +kernel
theorem dX5_operate_104 : decode cX5_operate 104 = .ok (.ixor, 1) := by decide +kernel
theorem dX5_operate_105 : decode cX5_operate 105 = .ok (.invokestatic 58, 3) := by decide +kernel
theorem dX5_operate_108 : decode cX5_operate 108 = .ok (.ireturn, 1) := by decide +kernel
theorem dX5_operate_109 : decode cX5_operate 109 = .ok (.iload_n 1, 1) := by decide +kernel
theorem dX5_operate_110 : decode cX5_operate 110 = .ok (.iload_n 2, 1) := by decide +kernel
theorem dX5_operate_111 : decode cX5_operate 111 = .ok (.invokestatic 62, 3) := by decide +kernel
theorem dX5_operate_114 : decode cX5_operate 114 = .ok (.ireturn, 1) := by decide +kernel
theorem dX5_operate_115 : decode cX5_operate 115 = .ok (.iload_n 1, 1) := by decide +kernel
theorem dX5_operate_116 : decode cX5_operate 116 = .ok (.invokestatic 46, 3) := by decide +kernel
theorem dX5_operate_119 : decode cX5_operate 119 = .ok (.ifCond .ne 11, 3) := by decide +kernel
theorem dX5_operate_122 : decode cX5_operate 122 = .ok (.iload_n 2, 1) := by decide +kernel
theorem dX5_operate_123 : decode cX5_operate 123 = .ok (.iload_n 1, 1) := by decide +kernel
theorem dX5_operate_124 : decode cX5_operate 124 = .ok (.invokestatic 65, 3) := by decide +kernel
theorem dX5_operate_127 : decode cX5_operate 127 = .ok (.ifCond .eq 7, 3) := by decide +kernel
theorem dX5_operate_130 : decode cX5_operate 130 = .ok (.iload_n 2, 1) := by decide +kernel
theorem dX5_operate_131 : decode cX5_operate 131 = .ok (.goto 4, 3) := by decide +kernel
theorem dX5_operate_134 : decode cX5_operate 134 = .ok (.iload_n 1, 1) := by decide +kernel
theorem dX5_operate_135 : decode cX5_operate 135 = .ok (.ireturn, 1) := by decide +kernel
theorem dX5_operate_136 : decode cX5_operate 136 = .ok (.iload_n 1, 1) := by decide +kernel
theorem dX5_operate_137 : decode cX5_operate 137 = .ok (.invokestatic 46, 3) := by decide +kernel
theorem dX5_operate_140 : decode cX5_operate 140 = .ok (.ifCond .ne 11, 3) := by decide +kernel
theorem dX5_operate_143 : decode cX5_operate 143 = .ok (.iload_n 1, 1) := by decide +kernel
theorem dX5_operate_144 : decode cX5_operate 144 = .ok (.iload_n 2, 1) := by decide +kernel
theorem dX5_operate_145 : decode cX5_operate 145 = .ok (.invokestatic 65, 3) := by decide +kernel
theorem dX5_operate_148 : decode cX5_operate 148 = .ok (.ifCond .eq 7, 3) := by decide +kernel
theorem dX5_operate_151 : decode cX5_operate 151 = .ok (.iload_n 2, 1) := by decide +kernel
theorem dX5_operate_152 : decode cX5_operate 152 = .ok (.goto 4, 3) := by decide +kernel
theorem dX5_operate_155 : decode cX5_operate 155 = .ok (.iload_n 1, 1) := by decide +kernel
theorem dX5_operate_156 : decode cX5_operate 156 = .ok (.ireturn, 1) := by decide +kernel
theorem dX5_operate_157 : decode cX5_operate 157 = .ok (.iload_n 1, 1) := by decide +kernel
theorem dX5_operate_158 : decode cX5_operate 158 = .ok (.iload_n 2, 1) := by decide +kernel
theorem dX5_operate_159 : decode cX5_operate 159 = .ok (.if_icmp .eq 17, 3) := by decide +kernel
theorem dX5_operate_162 : decode cX5_operate 162 = .ok (.iload_n 1, 1) := by decide +kernel
theorem dX5_operate_163 : decode cX5_operate 163 = .ok (.invokestatic 46, 3) := by decide +kernel
theorem dX5_operate_166 : decode cX5_operate 166 = .ok (.ifCond .eq 14, 3) := by decide +kernel
theorem dX5_operate_169 : decode cX5_operate 169 = .ok (.iload_n 2, 1) := by decide +kernel
theorem dX5_operate_170 : decode cX5_operate 170 = .ok (.invokestatic 46, 3) := by decide +kernel
theorem dX5_operate_173 : decode cX5_operate 173 = .ok (.ifCond .eq 7, 3) := by decide +kernel
theorem dX5_operate_176 : decode cX5_operate 176 = .ok (.iconst 1, 1) := by decide +kernel
theorem dX5_operate_177 : decode cX5_operate 177 = .ok (.goto 4, 3) := by decide +kernel
theorem dX5_operate_180 : decode cX5_operate 180 = .ok (.iconst 0, 1) := by decide +kernel
theorem dX5_operate_181 : decode cX5_operate 181 = .ok (.invokestatic 69, 3) := by decide +kernel
theorem dX5_operate_184 : decode cX5_operate 184 = .ok (.ireturn, 1) := by decide +kernel
theorem dX5_operate_185 : decode cX5_operate 185 = .ok (.iload_n 1, 1) := by decide +kernel
theorem dX5_operate_186 : decode cX5_operate 186 = .ok (.iload_n 2, 1) := by decide +kernel
theorem dX5_operate_187 : decode cX5_operate 187 = .ok (.invokestatic 73, 3) := by decide +kernel
theorem dX5_operate_190 : decode cX5_operate 190 = .ok (.invokestatic 69, 3) := by decide +kernel
theorem dX5_operate_193 : decode cX5_operate 193 = .ok (.ireturn, 1) := by decide +kernel
theorem dX5_operate_194 : decode cX5_operate 194 = .ok (.iload_n 1, 1) := by decide +kernel
theorem dX5_operate_195 : decode cX5_operate 195 = .ok (.iload_n 2, 1) := by decide +kernel
theorem dX5_operate_196 : decode cX5_operate 196 = .ok (.invokestatic 65, 3) := by decide +kernel
theorem dX5_operate_199 : decode cX5_operate 199 = .ok (.invokestatic 69, 3) := by decide +kernel
theorem dX5_operate_202 : decode cX5_operate 202 = .ok (.ireturn, 1) := by decide +kernel
theorem dX5_operate_203 : decode cX5_operate 203 = .ok (.iload_n 1, 1) := by decide +kernel
theorem dX5_operate_204 : decode cX5_operate 204 = .ok (.iload_n 2, 1) := by decide +kernel
theorem dX5_operate_205 : decode cX5_operate 205 = .ok (.invokestatic 65, 3) := by decide +kernel
theorem dX5_operate_208 : decode cX5_operate 208 = .ok (.ifCond .ne 11, 3) := by decide +kernel
theorem dX5_operate_211 : decode cX5_operate 211 = .ok (.iload_n 1, 1) := by decide +kernel
theorem dX5_operate_212 : decode cX5_operate 212 = .ok (.iload_n 2, 1) := by decide +kernel
theorem dX5_operate_213 : decode cX5_operate 213 = .ok (.invokestatic 73, 3) := by decide +kernel
theorem dX5_operate_216 : decode cX5_operate 216 = .ok (.ifCond .eq 7, 3) := by decide +kernel
theorem dX5_operate_219 : decode cX5_operate 219 = .ok (.iconst 1, 1) := by decide +kernel
theorem dX5_operate_220 : decode cX5_operate 220 = .ok (.goto 4, 3) := by decide +kernel
theorem dX5_operate_223 : decode cX5_operate 223 = .ok (.iconst 0, 1) := by decide +kernel
theorem dX5_operate_224 : decode cX5_operate 224 = .ok (.invokestatic 69, 3) := by decide +kernel
theorem dX5_operate_227 : decode cX5_operate 227 = .ok (.ireturn, 1) := by decide +kernel
theorem dX5_operate_228 : decode cX5_operate 228 = .ok (.iload_n 1, 1) := by decide +kernel
theorem dX5_operate_229 : decode cX5_operate 229 = .ok (.invokestatic 46, 3) := by decide +kernel
theorem dX5_operate_232 : decode cX5_operate 232 = .ok (.invokestatic 69, 3) := by decide +kernel
theorem dX5_operate_235 : decode cX5_operate 235 = .ok (.ireturn, 1) := by decide +kernel
theorem dX5_operate_236 : decode cX5_operate 236 = .ok (.iload_n 1, 1) := by decide +kernel
theorem dX5_operate_237 : decode cX5_operate 237 = .ok (.invokestatic 38, 3) := by decide +kernel
theorem dX5_operate_240 : decode cX5_operate 240 = .ok (.invokestatic 69, 3) := by decide +kernel
theorem dX5_operate_243 : decode cX5_operate 243 = .ok (.ireturn, 1) := by decide +kernel
theorem dX5_operate_244 : decode cX5_operate 244 = .ok (.iload_n 1, 1) := by decide +kernel
theorem dX5_operate_245 : decode cX5_operate 245 = .ok (.invokestatic 55, 3) := by decide +kernel
theorem dX5_operate_248 : decode cX5_operate 248 = .ok (.invokestatic 69, 3) := by decide +kernel
theorem dX5_operate_251 : decode cX5_operate 251 = .ok (.ireturn, 1) := by decide +kernel
theorem dX5_operate_252 : decode cX5_operate 252 = .ok (.iconst 1, 1) := by decide +kernel
theorem dX5_operate_253 : decode cX5_operate 253 = .ok (.iload_n 1, 1) := by decide +kernel
theorem dX5_operate_254 : decode cX5_operate 254 = .ok (.isub, 1) := by decide +kernel
theorem dX5_operate_255 : decode cX5_operate 255 = .ok (.ireturn, 1) := by decide +kernel
theorem dX5_operate_256 : decode cX5_operate 256 = .ok (.iload_n 1, 1) := by decide +kernel
theorem dX5_operate_257 : decode cX5_operate 257 = .ok (.iload_n 2, 1) := by decide +kernel
theorem dX5_operate_258 : decode cX5_operate 258 = .ok (.imul, 1) := by decide +kernel
theorem dX5_operate_259 : decode cX5_operate 259 = .ok (.ireturn, 1) := by decide +kernel
theorem dX5_operate_260 : decode cX5_operate 260 = .ok (.iload_n 1, 1) := by decide +kernel
theorem dX5_operate_261 : decode cX5_operate 261 = .ok (.iload_n 2, 1) := by decide +kernel
theorem dX5_operate_262 : decode cX5_operate 262 = .ok (.iadd, 1) := by decide +kernel
theorem dX5_operate_263 : decode cX5_operate 263 = .ok (.ifCond .le 7, 3) := by decide +kernel
theorem dX5_operate_266 : decode cX5_operate 266 = .ok (.iconst 1, 1) := by decide +kernel
theorem dX5_operate_267 : decode cX5_operate 267 = .ok (.goto 4, 3) := by decide +kernel
theorem dX5_operate_270 : decode cX5_operate 270 = .ok (.iconst 0, 1) := by decide +kernel
theorem dX5_operate_271 : decode cX5_operate 271 = .ok (.invokestatic 69, 3) := by decide +kernel
theorem dX5_operate_274 : decode cX5_operate 274 = .ok (.ireturn, 1) := by decide +kernel
theorem dX5_add_0 : decode cX5_add 0 = .ok (.iload_n 0, 1) := by decide +kernel
theorem dX5_add_1 : decode cX5_add 1 = .ok (.invokestatic 46, 3) := by decide +kernel
theorem dX5_add_4 : decode cX5_add 4 = .ok (.ifCond .ne 29, 3) := by decide +kernel
theorem dX5_add_7 : decode cX5_add 7 = .ok (.iload_n 1, 1) := by decide +kernel
theorem dX5_add_8 : decode cX5_add 8 = .ok (.invokestatic 46, 3) := by decide +kernel
theorem dX5_add_11 : decode cX5_add 11 = .ok (.ifCond .ne 22, 3) := by decide +kernel
theorem dX5_add_14 : decode cX5_add 14 = .ok (.iload_n 0, 1) := by decide +kernel
theorem dX5_add_15 : decode cX5_add 15 = .ok (.invokestatic 38, 3) := by decide +kernel
theorem dX5_add_18 : decode cX5_add 18 = .ok (.ifCond .eq 18, 3) := by decide +kernel
theorem dX5_add_21 : decode cX5_add 21 = .ok (.iload_n 1, 1) := by decide +kernel
theorem dX5_add_22 : decode cX5_add 22 = .ok (.invokestatic 38, 3) := by decide +kernel
theorem dX5_add_25 : decode cX5_add 25 = .ok (.ifCond .eq 11, 3) := by decide +kernel
theorem dX5_add_28 : decode cX5_add 28 = .ok (.iload_n 0, 1) := by decide +kernel
theorem dX5_add_29 : decode cX5_add 29 = .ok (.iload_n 1, 1) := by decide +kernel
theorem dX5_add_30 : decode cX5_add 30 = .ok (.if_icmp .eq 6, 3) := by decide +kernel
theorem dX5_add_33 : decode cX5_add 33 = .ok (.bipush 13, 2) := by decide +kernel
theorem dX5_add_35 : decode cX5_add 35 = .ok (.ireturn, 1) := by decide +kernel
theorem dX5_add_36 : decode cX5_add 36 = .ok (.iload_n 0, 1) := by decide +kernel
theorem dX5_add_37 : decode cX5_add 37 = .ok (.invokestatic 38, 3) := by decide +kernel
theorem dX5_add_40 : decode cX5_add 40 = .ok (.ifCond .eq 5, 3) := by decide +kernel
theorem dX5_add_43 : decode cX5_add 43 = .ok (.iload_n 0, 1) := by decide +kernel
theorem dX5_add_44 : decode cX5_add 44 = .ok (.ireturn, 1) := by decide +kernel
theorem dX5_add_45 : decode cX5_add 45 = .ok (.iload_n 1, 1) := by decide +kernel
theorem dX5_add_46 : decode cX5_add 46 = .ok (.invokestatic 38, 3) := by decide +kernel
theorem dX5_add_49 : decode cX5_add 49 = .ok (.ifCond .eq 5, 3) := by decide +kernel
theorem dX5_add_52 : decode cX5_add 52 = .ok (.iload_n 1, 1) := by decide +kernel
theorem dX5_add_53 : decode cX5_add 53 = .ok (.ireturn, 1) := by decide +kernel
theorem dX5_add_54 : decode cX5_add 54 = .ok (.iload_n 0, 1) := by decide +kernel
theorem dX5_add_55 : decode cX5_add 55 = .ok (.invokestatic 49, 3) := by decide +kernel
theorem dX5_add_58 : decode cX5_add 58 = .ok (.iload_n 1, 1) := by decide +kernel
theorem dX5_add_59 : decode cX5_add 59 = .ok (.invokestatic 49, 3) := by decide +kernel
theorem dX5_add_62 : decode cX5_add 62 = .ok (.iadd, 1) := by decide +kernel
theorem dX5_add_63 : decode cX5_add 63 = .ok (.istore_n 2, 1) := by decide +kernel
theorem dX5_add_64 : decode cX5_add 64 = .ok (.iload_n 2, 1) := by decide +kernel
theorem dX5_add_65 : decode cX5_add 65 = .ok (.ifCond .ne 22, 3) := by decide +kernel
theorem dX5_add_68 : decode cX5_add 68 = .ok (.iload_n 0, 1) := by decide +kernel
theorem dX5_add_69 : decode cX5_add 69 = .ok (.bipush 16, 2) := by decide +kernel
theorem dX5_add_71 : decode cX5_add 71 = .ok (.if_icmp .ne 14, 3) := by decide +kernel
theorem dX5_add_74 : decode cX5_add 74 = .ok (.iload_n 1, 1) := by decide +kernel
theorem dX5_add_75 : decode cX5_add 75 = .ok (.bipush 16, 2) := by decide +kernel
theorem dX5_add_77 : decode cX5_add 77 = .ok (.if_icmp .ne 8, 3) := by decide +kernel
theorem dX5_add_80 : decode cX5_add 80 = .ok (.bipush 16, 2) := by decide +kernel
theorem dX5_add_82 : decode cX5_add 82 = .ok (.goto 4, 3) := by decide +kernel
theorem dX5_add_85 : decode cX5_add 85 = .ok (.iconst 0, 1) := by decide +kernel
theorem dX5_add_86 : decode cX5_add 86 = .ok (.ireturn, 1) := by decide +kernel
theorem dX5_add_87 : decode cX5_add 87 = .ok (.iload_n 2, 1) := by decide +kernel
theorem dX5_add_88 : decode cX5_add 88 = .ok (.ifCond .ge 16, 3) := by decide +kernel
theorem dX5_add_91 : decode cX5_add 91 = .ok (.bipush 16, 2) := by decide +kernel
theorem dX5_add_93 : decode cX5_add 93 = .ok (.bipush (-4), 2) := by decide +kernel
theorem dX5_add_95 : decode cX5_add 95 = .ok (.iload_n 2, 1) := by decide +kernel
theorem dX5_add_96 : decode cX5_add 96 = .ok (.imul, 1) := by decide +kernel
theorem dX5_add_97 : decode cX5_add 97 = .ok (.invokestatic 52, 3) := by decide +kernel
theorem dX5_add_100 : decode cX5_add 100 = .ok (.iadd, 1) := by decide +kernel
theorem dX5_add_101 : decode cX5_add 101 = .ok (.goto 9, 3) := by decide +kernel
theorem dX5_add_104 : decode cX5_add 104 = .ok (.iconst 4, 1) := by decide +kernel
theorem dX5_add_105 : decode cX5_add 105 = .ok (.iload_n 2, 1) := by decide +kernel
theorem dX5_add_106 : decode cX5_add 106 = .ok (.imul, 1) := by decide +kernel
theorem dX5_add_107 : decode cX5_add 107 = .ok (.invokestatic 52, 3) := by decide +kernel
theorem dX5_add_110 : decode cX5_add 110 = .ok (.ireturn, 1) := by decide +kernel
theorem dX5_nan_0 : decode cX5_nan 0 = .ok (.iload_n 0, 1) := by decide +kernel
theorem dX5_nan_1 : decode cX5_nan 1 = .ok (.bipush 15, 2) := by decide +kernel
theorem dX5_nan_3 : decode cX5_nan 3 = .ok (.iand, 1) := by decide +kernel
theorem dX5_nan_4 : decode cX5_nan 4 = .ok (.bipush 12, 2) := by decide +kernel
theorem dX5_nan_6 : decode cX5_nan 6 = .ok (.if_icmp .le 7, 3) := by decide +kernel
theorem dX5_nan_9 : decode cX5_nan 9 = .ok (.iconst 1, 1) := by decide +kernel
theorem dX5_nan_10 : decode cX5_nan 10 = .ok (.goto 4, 3) := by decide +kernel
theorem dX5_nan_13 : decode cX5_nan 13 = .ok (.iconst 0, 1) := by decide +kernel
theorem dX5_nan_14 : decode cX5_nan 14 = .ok (.ireturn, 1) := by decide +kernel
theorem dX5_infinite_0 : decode cX5_infinite 0 = .ok (.iload_n 0, 1) := by decide +kernel
theorem dX5_infinite_1 : decode cX5_infinite 1 = .ok (.bipush 15, 2) := by decide +kernel
theorem dX5_infinite_3 : decode cX5_infinite 3 = .ok (.iand, 1) := by decide +kernel
theorem dX5_infinite_4 : decode cX5_infinite 4 = .ok (.bipush 12, 2) := by decide +kernel
theorem dX5_infinite_6 : decode cX5_infinite 6 = .ok (.if_icmp .ne 7, 3) := by decide +kernel
theorem dX5_infinite_9 : decode cX5_infinite 9 = .ok (.iconst 1, 1) := by decide +kernel
theorem dX5_infinite_10 : decode cX5_infinite 10 = .ok (.goto 4, 3) := by decide +kernel
theorem dX5_infinite_13 : decode cX5_infinite 13 = .ok (.iconst 0, 1) := by decide +kernel
theorem dX5_infinite_14 : decode cX5_infinite 14 = .ok (.ireturn, 1) := by decide +kernel
theorem dX5_worthOf_0 : decode cX5_worthOf 0 = .ok (.iload_n 0, 1) := by decide +kernel
theorem dX5_worthOf_1 : decode cX5_worthOf 1 = .ok (.invokestatic 38, 3) := by decide +kernel
theorem dX5_worthOf_4 : decode cX5_worthOf 4 = .ok (.ifCond .eq 8, 3) := by decide +kernel
theorem dX5_worthOf_7 : decode cX5_worthOf 7 = .ok (.bipush 100, 2) := by decide +kernel
theorem dX5_worthOf_9 : decode cX5_worthOf 9 = .ok (.goto 10, 3) := by decide +kernel
theorem dX5_worthOf_12 : decode cX5_worthOf 12 = .ok (.iload_n 0, 1) := by decide +kernel
theorem dX5_worthOf_13 : decode cX5_worthOf 13 = .ok (.bipush 15, 2) := by decide +kernel
theorem dX5_worthOf_15 : decode cX5_worthOf 15 = .ok (.iand, 1) := by decide +kernel
theorem dX5_worthOf_16 : decode cX5_worthOf 16 = .ok (.invokestatic 42, 3) := by decide +kernel
theorem dX5_worthOf_19 : decode cX5_worthOf 19 = .ok (.istore_n 1, 1) := by decide +kernel
theorem dX5_worthOf_20 : decode cX5_worthOf 20 = .ok (.iload_n 0, 1) := by decide +kernel
theorem dX5_worthOf_21 : decode cX5_worthOf 21 = .ok (.bipush 16, 2) := by decide +kernel
theorem dX5_worthOf_23 : decode cX5_worthOf 23 = .ok (.if_icmp .lt 8, 3) := by decide +kernel
theorem dX5_worthOf_26 : decode cX5_worthOf 26 = .ok (.iload_n 1, 1) := by decide +kernel
theorem dX5_worthOf_27 : decode cX5_worthOf 27 = .ok (.ineg, 1) := by decide +kernel
theorem dX5_worthOf_28 : decode cX5_worthOf 28 = .ok (.goto 4, 3) := by decide +kernel
theorem dX5_worthOf_31 : decode cX5_worthOf 31 = .ok (.iload_n 1, 1) := by decide +kernel
theorem dX5_worthOf_32 : decode cX5_worthOf 32 = .ok (.ireturn, 1) := by decide +kernel
theorem dX5_quarters_0 : decode cX5_quarters 0 = .ok (.iload_n 0, 1) := by decide +kernel
theorem dX5_quarters_1 : decode cX5_quarters 1 = .ok (.bipush 8, 2) := by decide +kernel
theorem dX5_quarters_3 : decode cX5_quarters 3 = .ok (.if_icmp .ge 7, 3) := by decide +kernel
theorem dX5_quarters_6 : decode cX5_quarters 6 = .ok (.iload_n 0, 1) := by decide +kernel
theorem dX5_quarters_7 : decode cX5_quarters 7 = .ok (.goto 20, 3) := by decide +kernel
theorem dX5_quarters_10 : decode cX5_quarters 10 = .ok (.iload_n 0, 1) := by decide +kernel
theorem dX5_quarters_11 : decode cX5_quarters 11 = .ok (.bipush 12, 2) := by decide +kernel
theorem dX5_quarters_13 : decode cX5_quarters 13 = .ok (.if_icmp .ge 12, 3) := by decide +kernel
theorem dX5_quarters_16 : decode cX5_quarters 16 = .ok (.iconst 2, 1) := by decide +kernel
theorem dX5_quarters_17 : decode cX5_quarters 17 = .ok (.iload_n 0, 1) := by decide +kernel
theorem dX5_quarters_18 : decode cX5_quarters 18 = .ok (.imul, 1) := by decide +kernel
theorem dX5_quarters_19 : decode cX5_quarters 19 = .ok (.bipush 8, 2) := by decide +kernel
theorem dX5_quarters_21 : decode cX5_quarters 21 = .ok (.isub, 1) := by decide +kernel
theorem dX5_quarters_22 : decode cX5_quarters 22 = .ok (.goto 5, 3) := by decide +kernel
theorem dX5_quarters_25 : decode cX5_quarters 25 = .ok (.bipush 16, 2) := by decide +kernel
theorem dX5_quarters_27 : decode cX5_quarters 27 = .ok (.ireturn, 1) := by decide +kernel
theorem dX5_round_0 : decode cX5_round 0 = .ok (.iconst 0, 1) := by decide +kernel
theorem dX5_round_1 : decode cX5_round 1 = .ok (.istore_n 1, 1) := by decide +kernel
theorem dX5_round_2 : decode cX5_round 2 = .ok (.iconst 1, 1) := by decide +kernel
theorem dX5_round_3 : decode cX5_round 3 = .ok (.istore_n 2, 1) := by decide +kernel
theorem dX5_round_4 : decode cX5_round 4 = .ok (.iload_n 2, 1) := by decide +kernel
theorem dX5_round_5 : decode cX5_round 5 = .ok (.bipush 12, 2) := by decide +kernel
theorem dX5_round_7 : decode cX5_round 7 = .ok (.if_icmp .gt 77, 3) := by decide +kernel
theorem dX5_round_10 : decode cX5_round 10 = .ok (.iload_n 0, 1) := by decide +kernel
theorem dX5_round_11 : decode cX5_round 11 = .ok (.iconst 4, 1) := by decide +kernel
theorem dX5_round_12 : decode cX5_round 12 = .ok (.iload_n 2, 1) := by decide +kernel
theorem dX5_round_13 : decode cX5_round 13 = .ok (.invokestatic 42, 3) := by decide +kernel
theorem dX5_round_16 : decode cX5_round 16 = .ok (.imul, 1) := by decide +kernel
theorem dX5_round_17 : decode cX5_round 17 = .ok (.isub, 1) := by decide +kernel
theorem dX5_round_18 : decode cX5_round 18 = .ok (.istore_n 3, 1) := by decide +kernel
theorem dX5_round_19 : decode cX5_round 19 = .ok (.iload_n 0, 1) := by decide +kernel
theorem dX5_round_20 : decode cX5_round 20 = .ok (.iconst 4, 1) := by decide +kernel
theorem dX5_round_21 : decode cX5_round 21 = .ok (.iload_n 1, 1) := by decide +kernel
theorem dX5_round_22 : decode cX5_round 22 = .ok (.invokestatic 42, 3) := by decide +kernel
theorem dX5_round_25 : decode cX5_round 25 = .ok (.imul, 1) := by decide +kernel
theorem dX5_round_26 : decode cX5_round 26 = .ok (.isub, 1) := by decide +kernel
theorem dX5_round_27 : decode cX5_round 27 = .ok (.istore 4, 2) := by decide +kernel
theorem dX5_round_29 : decode cX5_round 29 = .ok (.iload_n 3, 1) := by decide +kernel
theorem dX5_round_30 : decode cX5_round 30 = .ok (.ifCond .ge 8, 3) := by decide +kernel
theorem dX5_round_33 : decode cX5_round 33 = .ok (.iload_n 3, 1) := by decide +kernel
theorem dX5_round_34 : decode cX5_round 34 = .ok (.ineg, 1) := by decide +kernel
theorem dX5_round_35 : decode cX5_round 35 = .ok (.goto 4, 3) := by decide +kernel
theorem dX5_round_38 : decode cX5_round 38 = .ok (.iload_n 3, 1) := by decide +kernel
theorem dX5_round_39 : decode cX5_round 39 = .ok (.istore 5, 2) := by decide +kernel
theorem dX5_round_41 : decode cX5_round 41 = .ok (.iload 4, 2) := by decide +kernel
theorem dX5_round_43 : decode cX5_round 43 = .ok (.ifCond .ge 9, 3) := by decide +kernel
theorem dX5_round_46 : decode cX5_round 46 = .ok (.iload 4, 2) := by decide +kernel
theorem dX5_round_48 : decode cX5_round 48 = .ok (.ineg, 1) := by decide +kernel
theorem dX5_round_49 : decode cX5_round 49 = .ok (.goto 5, 3) := by decide +kernel
theorem dX5_round_52 : decode cX5_round 52 = .ok (.iload 4, 2) := by decide +kernel
theorem dX5_round_54 : decode cX5_round 54 = .ok (.istore 6, 2) := by decide +kernel
theorem dX5_round_56 : decode cX5_round 56 = .ok (.iload 5, 2) := by decide +kernel
theorem dX5_round_58 : decode cX5_round 58 = .ok (.iload 6, 2) := by decide +kernel
theorem dX5_round_60 : decode cX5_round 60 = .ok (.if_icmp .lt 16, 3) := by decide +kernel
theorem dX5_round_63 : decode cX5_round 63 = .ok (.iload 5, 2) := by decide +kernel
theorem dX5_round_65 : decode cX5_round 65 = .ok (.iload 6, 2) := by decide +kernel
theorem dX5_round_67 : decode cX5_round 67 = .ok (.if_icmp .ne 11, 3) := by decide +kernel
theorem dX5_round_70 : decode cX5_round 70 = .ok (.iload_n 2, 1) := by decide +kernel
theorem dX5_round_71 : decode cX5_round 71 = .ok (.iconst 2, 1) := by decide +kernel
theorem dX5_round_72 : decode cX5_round 72 = .ok (.irem, 1) := by decide +kernel
theorem dX5_round_73 : decode cX5_round 73 = .ok (.ifCond .ne 5, 3) := by decide +kernel
theorem dX5_round_76 : decode cX5_round 76 = .ok (.iload_n 2, 1) := by decide +kernel
theorem dX5_round_77 : decode cX5_round 77 = .ok (.istore_n 1, 1) := by decide +kernel
theorem dX5_round_78 : decode cX5_round 78 = .ok (.iinc 2 1, 3) := by decide +kernel
theorem dX5_round_81 : decode cX5_round 81 = .ok (.goto (-77), 3) := by decide +kernel
theorem dX5_round_84 : decode cX5_round 84 = .ok (.iload_n 1, 1) := by decide +kernel
theorem dX5_round_85 : decode cX5_round 85 = .ok (.ireturn, 1) := by decide +kernel
theorem dX5_multiply_0 : decode cX5_multiply 0 = .ok (.iload_n 0, 1) := by decide +kernel
theorem dX5_multiply_1 : decode cX5_multiply 1 = .ok (.invokestatic 46, 3) := by decide +kernel
theorem dX5_multiply_4 : decode cX5_multiply 4 = .ok (.ifCond .ne 38, 3) := by decide +kernel
theorem dX5_multiply_7 : decode cX5_multiply 7 = .ok (.iload_n 1, 1) := by decide +kernel
theorem dX5_multiply_8 : decode cX5_multiply 8 = .ok (.invokestatic 46, 3) := by decide +kernel
theorem dX5_multiply_11 : decode cX5_multiply 11 = .ok (.ifCond .ne 31, 3) := by decide +kernel
theorem dX5_multiply_14 : decode cX5_multiply 14 = .ok (.iload_n 0, 1) := by decide +kernel
theorem dX5_multiply_15 : decode cX5_multiply 15 = .ok (.invokestatic 38, 3) := by decide +kernel
theorem dX5_multiply_18 : decode cX5_multiply 18 = .ok (.ifCond .eq 10, 3) := by decide +kernel
theorem dX5_multiply_21 : decode cX5_multiply 21 = .ok (.iload_n 1, 1) := by decide +kernel
theorem dX5_multiply_22 : decode cX5_multiply 22 = .ok (.invokestatic 55, 3) := by decide +kernel
theorem dX5_multiply_25 : decode cX5_multiply 25 = .ok (.ifCond .ne 17, 3) := by decide +kernel
theorem dX5_multiply_28 : decode cX5_multiply 28 = .ok (.iload_n 1, 1) := by decide +kernel
theorem dX5_multiply_29 : decode cX5_multiply 29 = .ok (.invokestatic 38, 3) := by decide +kernel
theorem dX5_multiply_32 : decode cX5_multiply 32 = .ok (.ifCond .eq 13, 3) := by decide +kernel
theorem dX5_multiply_35 : decode cX5_multiply 35 = .ok (.iload_n 0, 1) := by decide +kernel
theorem dX5_multiply_36 : decode cX5_multiply 36 = .ok (.invokestatic 55, 3) := by decide +kernel
theorem dX5_multiply_39 : decode cX5_multiply 39 = .ok (.ifCond .eq 6, 3) := by decide +kernel
theorem dX5_multiply_42 : decode cX5_multiply 42 = .ok (.bipush 13, 2) := by decide +kernel
theorem dX5_multiply_44 : decode cX5_multiply 44 = .ok (.ireturn, 1) := by decide +kernel
theorem dX5_multiply_45 : decode cX5_multiply 45 = .ok (.iload_n 0, 1) := by decide +kernel
theorem dX5_multiply_46 : decode cX5_multiply 46 = .ok (.iload_n 1, 1) := by decide +kernel
theorem dX5_multiply_47 : decode cX5_multiply 47 = .ok (.ixor, 1) := by decide +kernel
theorem dX5_multiply_48 : decode cX5_multiply 48 = .ok (.bipush 16, 2) := by decide +kernel
theorem dX5_multiply_50 : decode cX5_multiply 50 = .ok (.iand, 1) := by decide +kernel
theorem dX5_multiply_51 : decode cX5_multiply 51 = .ok (.istore_n 2, 1) := by decide +kernel
theorem dX5_multiply_52 : decode cX5_multiply 52 = .ok (.iload_n 0, 1) := by decide +kernel
theorem dX5_multiply_53 : decode cX5_multiply 53 = .ok (.invokestatic 38, 3) := by decide +kernel
theorem dX5_multiply_56 : decode cX5_multiply 56 = .ok (.ifCond .ne 10, 3) := by decide +kernel
theorem dX5_multiply_59 : decode cX5_multiply 59 = .ok (.iload_n 1, 1) := by decide +kernel
theorem dX5_multiply_60 : decode cX5_multiply 60 = .ok (.invokestatic 38, 3) := by decide +kernel
theorem dX5_multiply_63 : decode cX5_multiply 63 = .ok (.ifCond .eq 8, 3) := by decide +kernel
theorem dX5_multiply_66 : decode cX5_multiply 66 = .ok (.iload_n 2, 1) := by decide +kernel
theorem dX5_multiply_67 : decode cX5_multiply 67 = .ok (.bipush 12, 2) := by decide +kernel
theorem dX5_multiply_69 : decode cX5_multiply 69 = .ok (.iadd, 1) := by decide +kernel
theorem dX5_multiply_70 : decode cX5_multiply 70 = .ok (.ireturn, 1) := by decide +kernel
theorem dX5_multiply_71 : decode cX5_multiply 71 = .ok (.iload_n 2, 1) := by decide +kernel
theorem dX5_multiply_72 : decode cX5_multiply 72 = .ok (.iload_n 0, 1) := by decide +kernel
theorem dX5_multiply_73 : decode cX5_multiply 73 = .ok (.bipush 15, 2) := by decide +kernel
theorem dX5_multiply_75 : decode cX5_multiply 75 = .ok (.iand, 1) := by decide +kernel
theorem dX5_multiply_76 : decode cX5_multiply 76 = .ok (.invokestatic 42, 3) := by decide +kernel
theorem dX5_multiply_79 : decode cX5_multiply 79 = .ok (.iload_n 1, 1) := by decide +kernel
theorem dX5_multiply_80 : decode cX5_multiply 80 = .ok (.bipush 15, 2) := by decide +kernel
theorem dX5_multiply_82 : decode cX5_multiply 82 = .ok (.iand, 1) := by decide +kernel
theorem dX5_multiply_83 : decode cX5_multiply 83 = .ok (.invokestatic 42, 3) := by decide +kernel
theorem dX5_multiply_86 : decode cX5_multiply 86 = .ok (.imul, 1) := by decide +kernel
theorem dX5_multiply_87 : decode cX5_multiply 87 = .ok (.invokestatic 52, 3) := by decide +kernel
theorem dX5_multiply_90 : decode cX5_multiply 90 = .ok (.iadd, 1) := by decide +kernel
theorem dX5_multiply_91 : decode cX5_multiply 91 = .ok (.ireturn, 1) := by decide +kernel
theorem dX5_zero_0 : decode cX5_zero 0 = .ok (.iload_n 0, 1) := by decide +kernel
theorem dX5_zero_1 : decode cX5_zero 1 = .ok (.bipush 15, 2) := by decide +kernel
theorem dX5_zero_3 : decode cX5_zero 3 = .ok (.iand, 1) := by decide +kernel
theorem dX5_zero_4 : decode cX5_zero 4 = .ok (.ifCond .ne 7, 3) := by decide +kernel
theorem dX5_zero_7 : decode cX5_zero 7 = .ok (.iconst 1, 1) := by decide +kernel
theorem dX5_zero_8 : decode cX5_zero 8 = .ok (.goto 4, 3) := by decide +kernel
theorem dX5_zero_11 : decode cX5_zero 11 = .ok (.iconst 0, 1) := by decide +kernel
theorem dX5_zero_12 : decode cX5_zero 12 = .ok (.ireturn, 1) := by decide +kernel
theorem dX5_less_0 : decode cX5_less 0 = .ok (.iload_n 0, 1) := by decide +kernel
theorem dX5_less_1 : decode cX5_less 1 = .ok (.invokestatic 46, 3) := by decide +kernel
theorem dX5_less_4 : decode cX5_less 4 = .ok (.ifCond .ne 25, 3) := by decide +kernel
theorem dX5_less_7 : decode cX5_less 7 = .ok (.iload_n 1, 1) := by decide +kernel
theorem dX5_less_8 : decode cX5_less 8 = .ok (.invokestatic 46, 3) := by decide +kernel
theorem dX5_less_11 : decode cX5_less 11 = .ok (.ifCond .ne 18, 3) := by decide +kernel
theorem dX5_less_14 : decode cX5_less 14 = .ok (.iload_n 0, 1) := by decide +kernel
theorem dX5_less_15 : decode cX5_less 15 = .ok (.invokestatic 49, 3) := by decide +kernel
theorem dX5_less_18 : decode cX5_less 18 = .ok (.iload_n 1, 1) := by decide +kernel
theorem dX5_less_19 : decode cX5_less 19 = .ok (.invokestatic 49, 3) := by decide +kernel
theorem dX5_less_22 : decode cX5_less 22 = .ok (.if_icmp .ge 7, 3) := by decide +kernel
theorem dX5_less_25 : decode cX5_less 25 = .ok (.iconst 1, 1) := by decide +kernel
theorem dX5_less_26 : decode cX5_less 26 = .ok (.goto 4, 3) := by decide +kernel
theorem dX5_less_29 : decode cX5_less 29 = .ok (.iconst 0, 1) := by decide +kernel
theorem dX5_less_30 : decode cX5_less 30 = .ok (.ireturn, 1) := by decide +kernel
theorem dX5_truth_0 : decode cX5_truth 0 = .ok (.iload_n 0, 1) := by decide +kernel
theorem dX5_truth_1 : decode cX5_truth 1 = .ok (.ifCond .eq 7, 3) := by decide +kernel
theorem dX5_truth_4 : decode cX5_truth 4 = .ok (.iconst 1, 1) := by decide +kernel
theorem dX5_truth_5 : decode cX5_truth 5 = .ok (.goto 4, 3) := by decide +kernel
theorem dX5_truth_8 : decode cX5_truth 8 = .ok (.iconst 0, 1) := by decide +kernel
theorem dX5_truth_9 : decode cX5_truth 9 = .ok (.ireturn, 1) := by decide +kernel
theorem dX5_equal_0 : decode cX5_equal 0 = .ok (.iload_n 0, 1) := by decide +kernel
theorem dX5_equal_1 : decode cX5_equal 1 = .ok (.invokestatic 46, 3) := by decide +kernel
theorem dX5_equal_4 : decode cX5_equal 4 = .ok (.ifCond .ne 33, 3) := by decide +kernel
theorem dX5_equal_7 : decode cX5_equal 7 = .ok (.iload_n 1, 1) := by decide +kernel
theorem dX5_equal_8 : decode cX5_equal 8 = .ok (.invokestatic 46, 3) := by decide +kernel
theorem dX5_equal_11 : decode cX5_equal 11 = .ok (.ifCond .ne 26, 3) := by decide +kernel
theorem dX5_equal_14 : decode cX5_equal 14 = .ok (.iload_n 0, 1) := by decide +kernel
theorem dX5_equal_15 : decode cX5_equal 15 = .ok (.iload_n 1, 1) := by decide +kernel
theorem dX5_equal_16 : decode cX5_equal 16 = .ok (.if_icmp .eq 17, 3) := by decide +kernel
theorem dX5_equal_19 : decode cX5_equal 19 = .ok (.iload_n 0, 1) := by decide +kernel
theorem dX5_equal_20 : decode cX5_equal 20 = .ok (.invokestatic 55, 3) := by decide +kernel
theorem dX5_equal_23 : decode cX5_equal 23 = .ok (.ifCond .eq 14, 3) := by decide +kernel
theorem dX5_equal_26 : decode cX5_equal 26 = .ok (.iload_n 1, 1) := by decide +kernel
theorem dX5_equal_27 : decode cX5_equal 27 = .ok (.invokestatic 55, 3) := by decide +kernel
theorem dX5_equal_30 : decode cX5_equal 30 = .ok (.ifCond .eq 7, 3) := by decide +kernel
theorem dX5_equal_33 : decode cX5_equal 33 = .ok (.iconst 1, 1) := by decide +kernel
theorem dX5_equal_34 : decode cX5_equal 34 = .ok (.goto 4, 3) := by decide +kernel
theorem dX5_equal_37 : decode cX5_equal 37 = .ok (.iconst 0, 1) := by decide +kernel
theorem dX5_equal_38 : decode cX5_equal 38 = .ok (.ireturn, 1) := by decide +kernel
theorem dX5_allHold_0 : decode cX5_allHold 0 = .ok (.iconst 1, 1) := by decide +kernel
theorem dX5_allHold_1 : decode cX5_allHold 1 = .ok (.istore_n 1, 1) := by decide +kernel
theorem dX5_allHold_2 : decode cX5_allHold 2 = .ok (.iconst 0, 1) := by decide +kernel
theorem dX5_allHold_3 : decode cX5_allHold 3 = .ok (.istore_n 2, 1) := by decide +kernel
theorem dX5_allHold_4 : decode cX5_allHold 4 = .ok (.iload_n 2, 1) := by decide +kernel
theorem dX5_allHold_5 : decode cX5_allHold 5 = .ok (.aload_n 0, 1) := by decide +kernel
theorem dX5_allHold_6 : decode cX5_allHold 6 = .ok (.getfield 99, 3) := by decide +kernel
theorem dX5_allHold_9 : decode cX5_allHold 9 = .ok (.if_icmp .ge 34, 3) := by decide +kernel
theorem dX5_allHold_12 : decode cX5_allHold 12 = .ok (.iload_n 1, 1) := by decide +kernel
theorem dX5_allHold_13 : decode cX5_allHold 13 = .ok (.ifCond .eq 22, 3) := by decide +kernel
theorem dX5_allHold_16 : decode cX5_allHold 16 = .ok (.aload_n 0, 1) := by decide +kernel
theorem dX5_allHold_17 : decode cX5_allHold 17 = .ok (.getfield 31, 3) := by decide +kernel
theorem dX5_allHold_20 : decode cX5_allHold 20 = .ok (.aload_n 0, 1) := by decide +kernel
theorem dX5_allHold_21 : decode cX5_allHold 21 = .ok (.getfield 22, 3) := by decide +kernel
theorem dX5_allHold_24 : decode cX5_allHold 24 = .ok (.iload_n 2, 1) := by decide +kernel
theorem dX5_allHold_25 : decode cX5_allHold 25 = .ok (.iaload, 1) := by decide +kernel
theorem dX5_allHold_26 : decode cX5_allHold 26 = .ok (.iaload, 1) := by decide +kernel
theorem dX5_allHold_27 : decode cX5_allHold 27 = .ok (.iconst 1, 1) := by decide +kernel
theorem dX5_allHold_28 : decode cX5_allHold 28 = .ok (.if_icmp .ne 7, 3) := by decide +kernel
theorem dX5_allHold_31 : decode cX5_allHold 31 = .ok (.iconst 1, 1) := by decide +kernel
theorem dX5_allHold_32 : decode cX5_allHold 32 = .ok (.goto 4, 3) := by decide +kernel
theorem dX5_allHold_35 : decode cX5_allHold 35 = .ok (.iconst 0, 1) := by decide +kernel
theorem dX5_allHold_36 : decode cX5_allHold 36 = .ok (.istore_n 1, 1) := by decide +kernel
theorem dX5_allHold_37 : decode cX5_allHold 37 = .ok (.iinc 2 1, 3) := by decide +kernel
theorem dX5_allHold_40 : decode cX5_allHold 40 = .ok (.goto (-36), 3) := by decide +kernel
theorem dX5_allHold_43 : decode cX5_allHold 43 = .ok (.iload_n 1, 1) := by decide +kernel
theorem dX5_allHold_44 : decode cX5_allHold 44 = .ok (.ireturn, 1) := by decide +kernel
theorem dX5_model_0 : decode cX5_model 0 = .ok (.aload_n 0, 1) := by decide +kernel
theorem dX5_model_1 : decode cX5_model 1 = .ok (.iload_n 1, 1) := by decide +kernel
theorem dX5_model_2 : decode cX5_model 2 = .ok (.iconst 2, 1) := by decide +kernel
theorem dX5_model_3 : decode cX5_model 3 = .ok (.invokestatic 79, 3) := by decide +kernel
theorem dX5_model_6 : decode cX5_model 6 = .ok (.ifCond .eq 7, 3) := by decide +kernel
theorem dX5_model_9 : decode cX5_model 9 = .ok (.iconst 1, 1) := by decide +kernel
theorem dX5_model_10 : decode cX5_model 10 = .ok (.goto 15, 3) := by decide +kernel
theorem dX5_model_13 : decode cX5_model 13 = .ok (.aload_n 0, 1) := by decide +kernel
theorem dX5_model_14 : decode cX5_model 14 = .ok (.getfield 108, 3) := by decide +kernel
theorem dX5_model_17 : decode cX5_model 17 = .ok (.ifCond .eq 7, 3) := by decide +kernel
theorem dX5_model_20 : decode cX5_model 20 = .ok (.iconst 0, 1) := by decide +kernel
theorem dX5_model_21 : decode cX5_model 21 = .ok (.goto 4, 3) := by decide +kernel
theorem dX5_model_24 : decode cX5_model 24 = .ok (.iconst 2, 1) := by decide +kernel
theorem dX5_model_25 : decode cX5_model 25 = .ok (.putfield 34, 3) := by decide +kernel
theorem dX5_model_28 : decode cX5_model 28 = .ok (.aload_n 0, 1) := by decide +kernel
theorem dX5_model_29 : decode cX5_model 29 = .ok (.getfield 34, 3) := by decide +kernel
theorem dX5_model_32 : decode cX5_model 32 = .ok (.ifCond .le 7, 3) := by decide +kernel
theorem dX5_model_35 : decode cX5_model 35 = .ok (.iconst 0, 1) := by decide +kernel
theorem dX5_model_36 : decode cX5_model 36 = .ok (.goto 9, 3) := by decide +kernel
theorem dX5_model_39 : decode cX5_model 39 = .ok (.aload_n 0, 1) := by decide +kernel
theorem dX5_model_40 : decode cX5_model 40 = .ok (.getfield 28, 3) := by decide +kernel
theorem dX5_model_43 : decode cX5_model 43 = .ok (.iload_n 1, 1) := by decide +kernel
theorem dX5_model_44 : decode cX5_model 44 = .ok (.iaload, 1) := by decide +kernel
theorem dX5_model_45 : decode cX5_model 45 = .ok (.ireturn, 1) := by decide +kernel
theorem dX5_value_0 : decode cX5_value 0 = .ok (.aload_n 0, 1) := by decide +kernel
theorem dX5_value_1 : decode cX5_value 1 = .ok (.iload_n 1, 1) := by decide +kernel
theorem dX5_value_2 : decode cX5_value 2 = .ok (.aload_n 0, 1) := by decide +kernel
theorem dX5_value_3 : decode cX5_value 3 = .ok (.getfield 76, 3) := by decide +kernel
theorem dX5_value_6 : decode cX5_value 6 = .ok (.invokestatic 79, 3) := by decide +kernel
theorem dX5_value_9 : decode cX5_value 9 = .ok (.ifCond .eq 7, 3) := by decide +kernel
theorem dX5_value_12 : decode cX5_value 12 = .ok (.iconst 1, 1) := by decide +kernel
theorem dX5_value_13 : decode cX5_value 13 = .ok (.goto 15, 3) := by decide +kernel
theorem dX5_value_16 : decode cX5_value 16 = .ok (.aload_n 0, 1) := by decide +kernel
theorem dX5_value_17 : decode cX5_value 17 = .ok (.getfield 108, 3) := by decide +kernel
theorem dX5_value_20 : decode cX5_value 20 = .ok (.ifCond .eq 7, 3) := by decide +kernel
theorem dX5_value_23 : decode cX5_value 23 = .ok (.iconst 0, 1) := by decide +kernel
theorem dX5_value_24 : decode cX5_value 24 = .ok (.goto 4, 3) := by decide +kernel
theorem dX5_value_27 : decode cX5_value 27 = .ok (.iconst 2, 1) := by decide +kernel
theorem dX5_value_28 : decode cX5_value 28 = .ok (.putfield 34, 3) := by decide +kernel
theorem dX5_value_31 : decode cX5_value 31 = .ok (.aload_n 0, 1) := by decide +kernel
theorem dX5_value_32 : decode cX5_value 32 = .ok (.getfield 34, 3) := by decide +kernel
theorem dX5_value_35 : decode cX5_value 35 = .ok (.ifCond .le 5, 3) := by decide +kernel
theorem dX5_value_38 : decode cX5_value 38 = .ok (.iconst 0, 1) := by decide +kernel
theorem dX5_value_39 : decode cX5_value 39 = .ok (.ireturn, 1) := by decide +kernel
theorem dX5_value_40 : decode cX5_value 40 = .ok (.aload_n 0, 1) := by decide +kernel
theorem dX5_value_41 : decode cX5_value 41 = .ok (.aload_n 0, 1) := by decide +kernel
theorem dX5_value_42 : decode cX5_value 42 = .ok (.getfield 28, 3) := by decide +kernel
theorem dX5_value_45 : decode cX5_value 45 = .ok (.iconst 0, 1) := by decide +kernel
theorem dX5_value_46 : decode cX5_value 46 = .ok (.iaload, 1) := by decide +kernel
theorem dX5_value_47 : decode cX5_value 47 = .ok (.aload_n 0, 1) := by decide +kernel
theorem dX5_value_48 : decode cX5_value 48 = .ok (.getfield 28, 3) := by decide +kernel
theorem dX5_value_51 : decode cX5_value 51 = .ok (.iconst 1, 1) := by decide +kernel
theorem dX5_value_52 : decode cX5_value 52 = .ok (.iaload, 1) := by decide +kernel
theorem dX5_value_53 : decode cX5_value 53 = .ok (.invokevirtual 112, 3) := by decide +kernel
theorem dX5_value_56 : decode cX5_value 56 = .ok (.aload_n 0, 1) := by decide +kernel
theorem dX5_value_57 : decode cX5_value 57 = .ok (.getfield 31, 3) := by decide +kernel
theorem dX5_value_60 : decode cX5_value 60 = .ok (.iload_n 1, 1) := by decide +kernel
theorem dX5_value_61 : decode cX5_value 61 = .ok (.iaload, 1) := by decide +kernel
theorem dX5_value_62 : decode cX5_value 62 = .ok (.ireturn, 1) := by decide +kernel
theorem dX5_reckon_0 : decode cX5_reckon 0 = .ok (.aload_n 0, 1) := by decide +kernel
theorem dX5_reckon_1 : decode cX5_reckon 1 = .ok (.iload_n 1, 1) := by decide +kernel
theorem dX5_reckon_2 : decode cX5_reckon 2 = .ok (.iconst 2, 1) := by decide +kernel
theorem dX5_reckon_3 : decode cX5_reckon 3 = .ok (.if_icmp .lt 33, 3) := by decide +kernel
theorem dX5_reckon_6 : decode cX5_reckon 6 = .ok (.iload_n 1, 1) := by decide +kernel
theorem dX5_reckon_7 : decode cX5_reckon 7 = .ok (.bipush 16, 2) := by decide +kernel
theorem dX5_reckon_9 : decode cX5_reckon 9 = .ok (.if_icmp .gt 27, 3) := by decide +kernel
theorem dX5_reckon_12 : decode cX5_reckon 12 = .ok (.iload_n 1, 1) := by decide +kernel
theorem dX5_reckon_13 : decode cX5_reckon 13 = .ok (.bipush 9, 2) := by decide +kernel
theorem dX5_reckon_15 : decode cX5_reckon 15 = .ok (.if_icmp .eq 21, 3) := by decide +kernel
theorem dX5_reckon_18 : decode cX5_reckon 18 = .ok (.iload_n 2, 1) := by decide +kernel
theorem dX5_reckon_19 : decode cX5_reckon 19 = .ok (.bipush 32, 2) := by decide +kernel
theorem dX5_reckon_21 : decode cX5_reckon 21 = .ok (.invokestatic 79, 3) := by decide +kernel
theorem dX5_reckon_24 : decode cX5_reckon 24 = .ok (.ifCond .ne 12, 3) := by decide +kernel
theorem dX5_reckon_27 : decode cX5_reckon 27 = .ok (.iload_n 3, 1) := by decide +kernel
theorem dX5_reckon_28 : decode cX5_reckon 28 = .ok (.bipush 32, 2) := by decide +kernel
theorem dX5_reckon_30 : decode cX5_reckon 30 = .ok (.invokestatic 79, 3) := by decide +kernel
theorem dX5_reckon_33 : decode cX5_reckon 33 = .ok (.ifCond .eq 7, 3) := by decide +kernel
theorem dX5_reckon_36 : decode cX5_reckon 36 = .ok (.iconst 1, 1) := by decide +kernel
theorem dX5_reckon_37 : decode cX5_reckon 37 = .ok (.goto 4, 3) := by decide +kernel
theorem dX5_reckon_40 : decode cX5_reckon 40 = .ok (.iconst 0, 1) := by decide +kernel
theorem dX5_reckon_41 : decode cX5_reckon 41 = .ok (.putfield 34, 3) := by decide +kernel
theorem dX5_reckon_44 : decode cX5_reckon 44 = .ok (.aload_n 0, 1) := by decide +kernel
theorem dX5_reckon_45 : decode cX5_reckon 45 = .ok (.getfield 34, 3) := by decide +kernel
theorem dX5_reckon_48 : decode cX5_reckon 48 = .ok (.ifCond .le 7, 3) := by decide +kernel
theorem dX5_reckon_51 : decode cX5_reckon 51 = .ok (.iconst 0, 1) := by decide +kernel
theorem dX5_reckon_52 : decode cX5_reckon 52 = .ok (.goto 9, 3) := by decide +kernel
theorem dX5_reckon_55 : decode cX5_reckon 55 = .ok (.iload_n 1, 1) := by decide +kernel
theorem dX5_reckon_56 : decode cX5_reckon 56 = .ok (.iload_n 2, 1) := by decide +kernel
theorem dX5_reckon_57 : decode cX5_reckon 57 = .ok (.iload_n 3, 1) := by decide +kernel
theorem dX5_reckon_58 : decode cX5_reckon 58 = .ok (.invokestatic 95, 3) := by decide +kernel
theorem dX5_reckon_61 : decode cX5_reckon 61 = .ok (.ireturn, 1) := by decide +kernel
theorem dX5_terms_0 : decode cX5_terms 0 = .ok (.aload_n 0, 1) := by decide +kernel
theorem dX5_terms_1 : decode cX5_terms 1 = .ok (.iconst 0, 1) := by decide +kernel
theorem dX5_terms_2 : decode cX5_terms 2 = .ok (.putfield 34, 3) := by decide +kernel
theorem dX5_terms_5 : decode cX5_terms 5 = .ok (.aload_n 0, 1) := by decide +kernel
theorem dX5_terms_6 : decode cX5_terms 6 = .ok (.getfield 76, 3) := by decide +kernel
theorem dX5_terms_9 : decode cX5_terms 9 = .ok (.ireturn, 1) := by decide +kernel
theorem dX5_claims_0 : decode cX5_claims 0 = .ok (.aload_n 0, 1) := by decide +kernel
theorem dX5_claims_1 : decode cX5_claims 1 = .ok (.iconst 0, 1) := by decide +kernel
theorem dX5_claims_2 : decode cX5_claims 2 = .ok (.putfield 34, 3) := by decide +kernel
theorem dX5_claims_5 : decode cX5_claims 5 = .ok (.aload_n 0, 1) := by decide +kernel
theorem dX5_claims_6 : decode cX5_claims 6 = .ok (.getfield 99, 3) := by decide +kernel
theorem dX5_claims_9 : decode cX5_claims 9 = .ok (.ireturn, 1) := by decide +kernel
theorem dX5_level_0 : decode cX5_level 0 = .ok (.aload_n 0, 1) := by decide +kernel
theorem dX5_level_1 : decode cX5_level 1 = .ok (.iconst 0, 1) := by decide +kernel
theorem dX5_level_2 : decode cX5_level 2 = .ok (.putfield 34, 3) := by decide +kernel
theorem dX5_level_5 : decode cX5_level 5 = .ok (.aload_n 0, 1) := by decide +kernel
theorem dX5_level_6 : decode cX5_level 6 = .ok (.getfield 102, 3) := by decide +kernel
theorem dX5_level_9 : decode cX5_level 9 = .ok (.ireturn, 1) := by decide +kernel
theorem dX5_checks_0 : decode cX5_checks 0 = .ok (.aload_n 0, 1) := by decide +kernel
theorem dX5_checks_1 : decode cX5_checks 1 = .ok (.iconst 0, 1) := by decide +kernel
theorem dX5_checks_2 : decode cX5_checks 2 = .ok (.putfield 34, 3) := by decide +kernel
theorem dX5_checks_5 : decode cX5_checks 5 = .ok (.aload_n 0, 1) := by decide +kernel
theorem dX5_checks_6 : decode cX5_checks 6 = .ok (.getfield 105, 3) := by decide +kernel
theorem dX5_checks_9 : decode cX5_checks 9 = .ok (.ireturn, 1) := by decide +kernel
