theorem dX6_count_50 : decode cX6_count 50 = .ok (.iinc 3 1, 3) := by decide +kernel
theorem dX6_count_53 : decode cX6_count 53 = .ok (.goto (-26), 3) := by decide +kernel
theorem dX6_count_56 : decode cX6_count 56 = .ok (.iload_n 1, 1) := by decide +kernel
theorem dX6_count_57 : decode cX6_count 57 = .ok (.ifCond .ne 10, 3) := by decide +kernel
theorem dX6_count_60 : decode cX6_count 60 = .ok (.aload_n 0, 1) := by decide +kernel
theorem dX6_count_61 : decode cX6_count 61 = .ok (.getfield 157, 3) := by decide +kernel
theorem dX6_count_64 : decode cX6_count 64 = .ok (.goto 63, 3) := by decide +kernel
theorem dX6_count_67 : decode cX6_count 67 = .ok (.iload_n 1, 1) := by decide +kernel
theorem dX6_count_68 : decode cX6_count 68 = .ok (.iconst 1, 1) := by decide +kernel
theorem dX6_count_69 : decode cX6_count 69 = .ok (.if_icmp .ne 12, 3) := by decide +kernel
theorem dX6_count_72 : decode cX6_count 72 = .ok (.aload_n 0, 1) := by decide +kernel
theorem dX6_count_73 : decode cX6_count 73 = .ok (.getfield 7, 3) := by decide +kernel
theorem dX6_count_76 : decode cX6_count 76 = .ok (.iconst 0, 1) := by decide +kernel
theorem dX6_count_77 : decode cX6_count 77 = .ok (.iaload, 1) := by decide +kernel
theorem dX6_count_78 : decode cX6_count 78 = .ok (.goto 49, 3) := by decide +kernel
theorem dX6_count_81 : decode cX6_count 81 = .ok (.iload_n 1, 1) := by decide +kernel
theorem dX6_count_82 : decode cX6_count 82 = .ok (.iconst 2, 1) := by decide +kernel
theorem dX6_count_83 : decode cX6_count 83 = .ok (.if_icmp .ne 11, 3) := by decide +kernel
theorem dX6_count_86 : decode cX6_count 86 = .ok (.aload_n 0, 1) := by decide +kernel
theorem dX6_count_87 : decode cX6_count 87 = .ok (.iconst 0, 1) := by decide +kernel
theorem dX6_count_88 : decode cX6_count 88 = .ok (.invokevirtual 145, 3) := by decide +kernel
theorem dX6_count_91 : decode cX6_count 91 = .ok (.goto 36, 3) := by decide +kernel
theorem dX6_count_94 : decode cX6_count 94 = .ok (.iload_n 1, 1) := by decide +kernel
theorem dX6_count_95 : decode cX6_count 95 = .ok (.iconst 3, 1) := by decide +kernel
theorem dX6_count_96 : decode cX6_count 96 = .ok (.if_icmp .ne 7, 3) := by decide +kernel
theorem dX6_count_99 : decode cX6_count 99 = .ok (.iload_n 2, 1) := by decide +kernel
theorem dX6_count_100 : decode cX6_count 100 = .ok (.goto 27, 3) := by decide +kernel
theorem dX6_count_103 : decode cX6_count 103 = .ok (.iload_n 1, 1) := by decide +kernel
theorem dX6_count_104 : decode cX6_count 104 = .ok (.iconst 4, 1) := by decide +kernel
theorem dX6_count_105 : decode cX6_count 105 = .ok (.if_icmp .ne 18, 3) := by decide +kernel
theorem dX6_count_108 : decode cX6_count 108 = .ok (.aload_n 0, 1) := by decide +kernel
theorem dX6_count_109 : decode cX6_count 109 = .ok (.getfield 94, 3) := by decide +kernel
theorem dX6_count_112 : decode cX6_count 112 = .ok (.ifCond .eq 7, 3) := by decide +kernel
theorem dX6_count_115 : decode cX6_count 115 = .ok (.iconst 1, 1) := by decide +kernel
theorem dX6_count_116 : decode cX6_count 116 = .ok (.goto 11, 3) := by decide +kernel
theorem dX6_count_119 : decode cX6_count 119 = .ok (.iconst 0, 1) := by decide +kernel
theorem dX6_count_120 : decode cX6_count 120 = .ok (.goto 7, 3) := by decide +kernel
theorem dX6_count_123 : decode cX6_count 123 = .ok (.aload_n 0, 1) := by decide +kernel
theorem dX6_count_124 : decode cX6_count 124 = .ok (.getfield 151, 3) := by decide +kernel
theorem dX6_count_127 : decode cX6_count 127 = .ok (.ireturn, 1) := by decide +kernel
theorem dX6_parentOf_0 : decode cX6_parentOf 0 = .ok (.aload_n 0, 1) := by decide +kernel
theorem dX6_parentOf_1 : decode cX6_parentOf 1 = .ok (.iload_n 1, 1) := by decide +kernel
theorem dX6_parentOf_2 : decode cX6_parentOf 2 = .ok (.iload_n 2, 1) := by decide +kernel
theorem dX6_parentOf_3 : decode cX6_parentOf 3 = .ok (.iconst 4, 1) := by decide +kernel
theorem dX6_parentOf_4 : decode cX6_parentOf 4 = .ok (.ishr, 1) := by decide +kernel
theorem dX6_parentOf_5 : decode cX6_parentOf 5 = .ok (.invokevirtual 163, 3) := by decide +kernel
theorem dX6_parentOf_8 : decode cX6_parentOf 8 = .ok (.ireturn, 1) := by decide +kernel
theorem dX6_make_0 : decode cX6_make 0 = .ok (.aload_n 0, 1) := by decide +kernel
theorem dX6_make_1 : decode cX6_make 1 = .ok (.aload_n 0, 1) := by decide +kernel
theorem dX6_make_2 : decode cX6_make 2 = .ok (.iload_n 1, 1) := by decide +kernel
theorem dX6_make_3 : decode cX6_make 3 = .ok (.invokevirtual 98, 3) := by decide +kernel
theorem dX6_make_6 : decode cX6_make 6 = .ok (.ifCond .ne 7, 3) := by decide +kernel
theorem dX6_make_9 : decode cX6_make 9 = .ok (.iconst 1, 1) := by decide +kernel
theorem dX6_make_10 : decode cX6_make 10 = .ok (.goto 19, 3) := by decide +kernel
theorem dX6_make_13 : decode cX6_make 13 = .ok (.iload_n 2, 1) := by decide +kernel
theorem dX6_make_14 : decode cX6_make 14 = .ok (.invokestatic 166, 3) := by decide +kernel
theorem dX6_make_17 : decode cX6_make 17 = .ok (.ifCond .eq 7, 3) := by decide +kernel
theorem dX6_make_20 : decode cX6_make 20 = .ok (.iload_n 2, 1) := by decide +kernel
theorem dX6_make_21 : decode cX6_make 21 = .ok (.ifCond .ne 7, 3) := by decide +kernel
theorem dX6_make_24 : decode cX6_make 24 = .ok (.iconst 2, 1) := by decide +kernel
theorem dX6_make_25 : decode cX6_make 25 = .ok (.goto 4, 3) := by decide +kernel
theorem dX6_make_28 : decode cX6_make 28 = .ok (.iconst 0, 1) := by decide +kernel
theorem dX6_make_29 : decode cX6_make 29 = .ok (.invokevirtual 102, 3) := by decide +kernel
theorem dX6_make_32 : decode cX6_make 32 = .ok (.ifCond .eq 4, 3) := by decide +kernel
theorem dX6_make_35 : decode cX6_make 35 = .ok (.return_, 1) := by decide +kernel
theorem dX6_make_36 : decode cX6_make 36 = .ok (.aload_n 0, 1) := by decide +kernel
theorem dX6_make_37 : decode cX6_make 37 = .ok (.iload_n 1, 1) := by decide +kernel
theorem dX6_make_38 : decode cX6_make 38 = .ok (.iload_n 2, 1) := by decide +kernel
theorem dX6_make_39 : decode cX6_make 39 = .ok (.invokevirtual 169, 3) := by decide +kernel
theorem dX6_make_42 : decode cX6_make 42 = .ok (.istore 4, 2) := by decide +kernel
theorem dX6_make_44 : decode cX6_make 44 = .ok (.aload_n 0, 1) := by decide +kernel
theorem dX6_make_45 : decode cX6_make 45 = .ok (.iload 4, 2) := by decide +kernel
theorem dX6_make_47 : decode cX6_make 47 = .ok (.ifCond .ge 7, 3) := by decide +kernel
theorem dX6_make_50 : decode cX6_make 50 = .ok (.iconst 3, 1) := by decide +kernel
theorem dX6_make_51 : decode cX6_make 51 = .ok (.goto 18, 3) := by decide +kernel
theorem dX6_make_54 : decode cX6_make 54 = .ok (.aload_n 0, 1) := by decide +kernel
theorem dX6_make_55 : decode cX6_make 55 = .ok (.getfield 16, 3) := by decide +kernel
theorem dX6_make_58 : decode cX6_make 58 = .ok (.iload 4, 2) := by decide +kernel
theorem dX6_make_60 : decode cX6_make 60 = .ok (.baload, 1) := by decide +kernel
theorem dX6_make_61 : decode cX6_make 61 = .ok (.ifCond .ne 7, 3) := by decide +kernel
theorem dX6_make_64 : decode cX6_make 64 = .ok (.iconst 4, 1) := by decide +kernel
theorem dX6_make_65 : decode cX6_make 65 = .ok (.goto 4, 3) := by decide +kernel
theorem dX6_make_68 : decode cX6_make 68 = .ok (.iconst 0, 1) := by decide +kernel
theorem dX6_make_69 : decode cX6_make 69 = .ok (.invokevirtual 102, 3) := by decide +kernel
theorem dX6_make_72 : decode cX6_make 72 = .ok (.ifCond .eq 4, 3) := by decide +kernel
theorem dX6_make_75 : decode cX6_make 75 = .ok (.return_, 1) := by decide +kernel
theorem dX6_make_76 : decode cX6_make 76 = .ok (.iload_n 2, 1) := by decide +kernel
theorem dX6_make_77 : decode cX6_make 77 = .ok (.bipush 15, 2) := by decide +kernel
theorem dX6_make_79 : decode cX6_make 79 = .ok (.iand, 1) := by decide +kernel
theorem dX6_make_80 : decode cX6_make 80 = .ok (.istore 5, 2) := by decide +kernel
theorem dX6_make_82 : decode cX6_make 82 = .ok (.aload_n 0, 1) := by decide +kernel
theorem dX6_make_83 : decode cX6_make 83 = .ok (.iload_n 1, 1) := by decide +kernel
theorem dX6_make_84 : decode cX6_make 84 = .ok (.iload 4, 2) := by decide +kernel
theorem dX6_make_86 : decode cX6_make 86 = .ok (.iload 5, 2) := by decide +kernel
theorem dX6_make_88 : decode cX6_make 88 = .ok (.invokevirtual 90, 3) := by decide +kernel
theorem dX6_make_91 : decode cX6_make 91 = .ok (.istore 6, 2) := by decide +kernel
theorem dX6_make_93 : decode cX6_make 93 = .ok (.aload_n 0, 1) := by decide +kernel
theorem dX6_make_94 : decode cX6_make 94 = .ok (.iload_n 1, 1) := by decide +kernel
theorem dX6_make_95 : decode cX6_make 95 = .ok (.invokevirtual 86, 3) := by decide +kernel
theorem dX6_make_98 : decode cX6_make 98 = .ok (.istore 7, 2) := by decide +kernel
theorem dX6_make_100 : decode cX6_make 100 = .ok (.aload_n 0, 1) := by decide +kernel
theorem dX6_make_101 : decode cX6_make 101 = .ok (.iload 6, 2) := by decide +kernel
theorem dX6_make_103 : decode cX6_make 103 = .ok (.ifCond .ge 15, 3) := by decide +kernel
theorem dX6_make_106 : decode cX6_make 106 = .ok (.aload_n 0, 1) := by decide +kernel
theorem dX6_make_107 : decode cX6_make 107 = .ok (.getfield 7, 3) := by decide +kernel
theorem dX6_make_110 : decode cX6_make 110 = .ok (.iload 7, 2) := by decide +kernel
theorem dX6_make_112 : decode cX6_make 112 = .ok (.iaload, 1) := by decide +kernel
theorem dX6_make_113 : decode cX6_make 113 = .ok (.bipush 60, 2) := by decide +kernel
theorem dX6_make_115 : decode cX6_make 115 = .ok (.if_icmp .ne 7, 3) := by decide +kernel
theorem dX6_make_118 : decode cX6_make 118 = .ok (.iconst 4, 1) := by decide +kernel
theorem dX6_make_119 : decode cX6_make 119 = .ok (.goto 4, 3) := by decide +kernel
theorem dX6_make_122 : decode cX6_make 122 = .ok (.iconst 0, 1) := by decide +kernel
theorem dX6_make_123 : decode cX6_make 123 = .ok (.invokevirtual 102, 3) := by decide +kernel
theorem dX6_make_126 : decode cX6_make 126 = .ok (.ifCond .eq 4, 3) := by decide +kernel
theorem dX6_make_129 : decode cX6_make 129 = .ok (.return_, 1) := by decide +kernel
theorem dX6_make_130 : decode cX6_make 130 = .ok (.bipush 100, 2) := by decide +kernel
theorem dX6_make_132 : decode cX6_make 132 = .ok (.iload 7, 2) := by decide +kernel
theorem dX6_make_134 : decode cX6_make 134 = .ok (.imul, 1) := by decide +kernel
theorem dX6_make_135 : decode cX6_make 135 = .ok (.aload_n 0, 1) := by decide +kernel
theorem dX6_make_136 : decode cX6_make 136 = .ok (.getfield 7, 3) := by decide +kernel
theorem dX6_make_139 : decode cX6_make 139 = .ok (.iload 7, 2) := by decide +kernel
theorem dX6_make_141 : decode cX6_make 141 = .ok (.iaload, 1) := by decide +kernel
theorem dX6_make_142 : decode cX6_make 142 = .ok (.iadd, 1) := by decide +kernel
theorem dX6_make_143 : decode cX6_make 143 = .ok (.istore 8, 2) := by decide +kernel
theorem dX6_make_145 : decode cX6_make 145 = .ok (.aload_n 0, 1) := by decide +kernel
theorem dX6_make_146 : decode cX6_make 146 = .ok (.getfield 7, 3) := by decide +kernel
theorem dX6_make_149 : decode cX6_make 149 = .ok (.iload 7, 2) := by decide +kernel
theorem dX6_make_151 : decode cX6_make 151 = .ok (.dup2, 1) := by decide +kernel
theorem dX6_make_152 : decode cX6_make 152 = .ok (.iaload, 1) := by decide +kernel
theorem dX6_make_153 : decode cX6_make 153 = .ok (.iconst 1, 1) := by decide +kernel
theorem dX6_make_154 : decode cX6_make 154 = .ok (.iadd, 1) := by decide +kernel
theorem dX6_make_155 : decode cX6_make 155 = .ok (.iastore, 1) := by decide +kernel
theorem dX6_make_156 : decode cX6_make 156 = .ok (.aload_n 0, 1) := by decide +kernel
theorem dX6_make_157 : decode cX6_make 157 = .ok (.getfield 13, 3) := by decide +kernel
theorem dX6_make_160 : decode cX6_make 160 = .ok (.iload 8, 2) := by decide +kernel
theorem dX6_make_162 : decode cX6_make 162 = .ok (.aload_n 0, 1) := by decide +kernel
theorem dX6_make_163 : decode cX6_make 163 = .ok (.getfield 31, 3) := by decide +kernel
theorem dX6_make_166 : decode cX6_make 166 = .ok (.iastore, 1) := by decide +kernel
theorem dX6_make_167 : decode cX6_make 167 = .ok (.aload_n 0, 1) := by decide +kernel
theorem dX6_make_168 : decode cX6_make 168 = .ok (.getfield 16, 3) := by decide +kernel
theorem dX6_make_171 : decode cX6_make 171 = .ok (.iload 8, 2) := by decide +kernel
theorem dX6_make_173 : decode cX6_make 173 = .ok (.iload_n 3, 1) := by decide +kernel
theorem dX6_make_174 : decode cX6_make 174 = .ok (.bastore, 1) := by decide +kernel
theorem dX6_make_175 : decode cX6_make 175 = .ok (.aload_n 0, 1) := by decide +kernel
theorem dX6_make_176 : decode cX6_make 176 = .ok (.getfield 24, 3) := by decide +kernel
theorem dX6_make_179 : decode cX6_make 179 = .ok (.iload 8, 2) := by decide +kernel
theorem dX6_make_181 : decode cX6_make 181 = .ok (.iconst 0, 1) := by decide +kernel
theorem dX6_make_182 : decode cX6_make 182 = .ok (.iastore, 1) := by decide +kernel
theorem dX6_make_183 : decode cX6_make 183 = .ok (.iconst 0, 1) := by decide +kernel
theorem dX6_make_184 : decode cX6_make 184 = .ok (.istore 9, 2) := by decide +kernel
theorem dX6_make_186 : decode cX6_make 186 = .ok (.iload 9, 2) := by decide +kernel
theorem dX6_make_188 : decode cX6_make 188 = .ok (.bipush 16, 2) := by decide +kernel
theorem dX6_make_190 : decode cX6_make 190 = .ok (.if_icmp .ge 23, 3) := by decide +kernel
theorem dX6_make_193 : decode cX6_make 193 = .ok (.aload_n 0, 1) := by decide +kernel
theorem dX6_make_194 : decode cX6_make 194 = .ok (.getfield 21, 3) := by decide +kernel
theorem dX6_make_197 : decode cX6_make 197 = .ok (.bipush 16, 2) := by decide +kernel
theorem dX6_make_199 : decode cX6_make 199 = .ok (.iload 8, 2) := by decide +kernel
theorem dX6_make_201 : decode cX6_make 201 = .ok (.imul, 1) := by decide +kernel
theorem dX6_make_202 : decode cX6_make 202 = .ok (.iload 9, 2) := by decide +kernel
theorem dX6_make_204 : decode cX6_make 204 = .ok (.iadd, 1) := by decide +kernel
theorem dX6_make_205 : decode cX6_make 205 = .ok (.iconst 0, 1) := by decide +kernel
theorem dX6_make_206 : decode cX6_make 206 = .ok (.iastore, 1) := by decide +kernel
theorem dX6_make_207 : decode cX6_make 207 = .ok (.iinc 9 1, 3) := by decide +kernel
theorem dX6_make_210 : decode cX6_make 210 = .ok (.goto (-24), 3) := by decide +kernel
theorem dX6_make_213 : decode cX6_make 213 = .ok (.iconst 0, 1) := by decide +kernel
theorem dX6_make_214 : decode cX6_make 214 = .ok (.istore 9, 2) := by decide +kernel
theorem dX6_make_216 : decode cX6_make 216 = .ok (.iload 9, 2) := by decide +kernel
theorem dX6_make_218 : decode cX6_make 218 = .ok (.bipush 64, 2) := by decide +kernel
theorem dX6_make_220 : decode cX6_make 220 = .ok (.if_icmp .ge 23, 3) := by decide +kernel
theorem dX6_make_223 : decode cX6_make 223 = .ok (.aload_n 0, 1) := by decide +kernel
theorem dX6_make_224 : decode cX6_make 224 = .ok (.getfield 28, 3) := by decide +kernel
theorem dX6_make_227 : decode cX6_make 227 = .ok (.bipush 64, 2) := by decide +kernel
theorem dX6_make_229 : decode cX6_make 229 = .ok (.iload 8, 2) := by decide +kernel
theorem dX6_make_231 : decode cX6_make 231 = .ok (.imul, 1) := by decide +kernel
theorem dX6_make_232 : decode cX6_make 232 = .ok (.iload 9, 2) := by decide +kernel
theorem dX6_make_234 : decode cX6_make 234 = .ok (.iadd, 1) := by decide +kernel
theorem dX6_make_235 : decode cX6_make 235 = .ok (.iconst 0, 1) := by decide +kernel
theorem dX6_make_236 : decode cX6_make 236 = .ok (.iastore, 1) := by decide +kernel
theorem dX6_make_237 : decode cX6_make 237 = .ok (.iinc 9 1, 3) := by decide +kernel
theorem dX6_make_240 : decode cX6_make 240 = .ok (.goto (-24), 3) := by decide +kernel
theorem dX6_make_243 : decode cX6_make 243 = .ok (.aload_n 0, 1) := by decide +kernel
theorem dX6_make_244 : decode cX6_make 244 = .ok (.getfield 21, 3) := by decide +kernel
theorem dX6_make_247 : decode cX6_make 247 = .ok (.bipush 16, 2) := by decide +kernel
theorem dX6_make_249 : decode cX6_make 249 = .ok (.iload 4, 2) := by decide +kernel
theorem dX6_make_251 : decode cX6_make 251 = .ok (.imul, 1) := by decide +kernel
theorem dX6_make_252 : decode cX6_make 252 = .ok (.iload 5, 2) := by decide +kernel
theorem dX6_make_254 : decode cX6_make 254 = .ok (.iadd, 1) := by decide +kernel
theorem dX6_make_255 : decode cX6_make 255 = .ok (.aload_n 0, 1) := by decide +kernel
theorem dX6_make_256 : decode cX6_make 256 = .ok (.getfield 31, 3) := by decide +kernel
theorem dX6_make_259 : decode cX6_make 259 = .ok (.iastore, 1) := by decide +kernel
theorem dX6_make_260 : decode cX6_make 260 = .ok (.aload_n 0, 1) := by decide +kernel
theorem dX6_make_261 : decode cX6_make 261 = .ok (.dup, 1) := by decide +kernel
theorem dX6_make_262 : decode cX6_make 262 = .ok (.getfield 31, 3) := by decide +kernel
theorem dX6_make_265 : decode cX6_make 265 = .ok (.iconst 1, 1) := by decide +kernel
theorem dX6_make_266 : decode cX6_make 266 = .ok (.iadd, 1) := by decide +kernel
theorem dX6_make_267 : decode cX6_make 267 = .ok (.putfield 31, 3) := by decide +kernel
theorem dX6_make_270 : decode cX6_make 270 = .ok (.return_, 1) := by decide +kernel
theorem dX6_remove_0 : decode cX6_remove 0 = .ok (.aload_n 0, 1) := by decide +kernel
theorem dX6_remove_1 : decode cX6_remove 1 = .ok (.aload_n 0, 1) := by decide +kernel
theorem dX6_remove_2 : decode cX6_remove 2 = .ok (.iload_n 1, 1) := by decide +kernel
theorem dX6_remove_3 : decode cX6_remove 3 = .ok (.invokevirtual 98, 3) := by decide +kernel
theorem dX6_remove_6 : decode cX6_remove 6 = .ok (.ifCond .ne 7, 3) := by decide +kernel
theorem dX6_remove_9 : decode cX6_remove 9 = .ok (.iconst 1, 1) := by decide +kernel
theorem dX6_remove_10 : decode cX6_remove 10 = .ok (.goto 19, 3) := by decide +kernel
theorem dX6_remove_13 : decode cX6_remove 13 = .ok (.iload_n 2, 1) := by decide +kernel
theorem dX6_remove_14 : decode cX6_remove 14 = .ok (.invokestatic 166, 3) := by decide +kernel
theorem dX6_remove_17 : decode cX6_remove 17 = .ok (.ifCond .eq 7, 3) := by decide +kernel
theorem dX6_remove_20 : decode cX6_remove 20 = .ok (.iload_n 2, 1) := by decide +kernel
theorem dX6_remove_21 : decode cX6_remove 21 = .ok (.ifCond .ne 7, 3) := by decide +kernel
theorem dX6_remove_24 : decode cX6_remove 24 = .ok (.iconst 2, 1) := by decide +kernel
theorem dX6_remove_25 : decode cX6_remove 25 = .ok (.goto 4, 3) := by decide +kernel
theorem dX6_remove_28 : decode cX6_remove 28 = .ok (.iconst 0, 1) := by decide +kernel
theorem dX6_remove_29 : decode cX6_remove 29 = .ok (.invokevirtual 102, 3) := by decide +kernel
theorem dX6_remove_32 : decode cX6_remove 32 = .ok (.ifCond .eq 5, 3) := by decide +kernel
theorem dX6_remove_35 : decode cX6_remove 35 = .ok (.iconst 0, 1) := by decide +kernel
theorem dX6_remove_36 : decode cX6_remove 36 = .ok (.ireturn, 1) := by decide +kernel
theorem dX6_remove_37 : decode cX6_remove 37 = .ok (.aload_n 0, 1) := by decide +kernel
theorem dX6_remove_38 : decode cX6_remove 38 = .ok (.iload_n 1, 1) := by decide +kernel
theorem dX6_remove_39 : decode cX6_remove 39 = .ok (.iload_n 2, 1) := by decide +kernel
theorem dX6_remove_40 : decode cX6_remove 40 = .ok (.invokevirtual 163, 3) := by decide +kernel
theorem dX6_remove_43 : decode cX6_remove 43 = .ok (.istore_n 3, 1) := by decide +kernel
theorem dX6_remove_44 : decode cX6_remove 44 = .ok (.aload_n 0, 1) := by decide +kernel
theorem dX6_remove_45 : decode cX6_remove 45 = .ok (.iload_n 3, 1) := by decide +kernel
theorem dX6_remove_46 : decode cX6_remove 46 = .ok (.ifCond .ge 7, 3) := by decide +kernel
theorem dX6_remove_49 : decode cX6_remove 49 = .ok (.iconst 3, 1) := by decide +kernel
theorem dX6_remove_50 : decode cX6_remove 50 = .ok (.goto 4, 3) := by decide +kernel
theorem dX6_remove_53 : decode cX6_remove 53 = .ok (.iconst 0, 1) := by decide +kernel
theorem dX6_remove_54 : decode cX6_remove 54 = .ok (.invokevirtual 102, 3) := by decide +kernel
theorem dX6_remove_57 : decode cX6_remove 57 = .ok (.ifCond .eq 5, 3) := by decide +kernel
theorem dX6_remove_60 : decode cX6_remove 60 = .ok (.iconst 0, 1) := by decide +kernel
theorem dX6_remove_61 : decode cX6_remove 61 = .ok (.ireturn, 1) := by decide +kernel
theorem dX6_remove_62 : decode cX6_remove 62 = .ok (.aload_n 0, 1) := by decide +kernel
theorem dX6_remove_63 : decode cX6_remove 63 = .ok (.getfield 16, 3) := by decide +kernel
theorem dX6_remove_66 : decode cX6_remove 66 = .ok (.iload_n 3, 1) := by decide +kernel
theorem dX6_remove_67 : decode cX6_remove 67 = .ok (.baload, 1) := by decide +kernel
theorem dX6_remove_68 : decode cX6_remove 68 = .ok (.istore 4, 2) := by decide +kernel
theorem dX6_remove_70 : decode cX6_remove 70 = .ok (.iload 4, 2) := by decide +kernel
theorem dX6_remove_72 : decode cX6_remove 72 = .ok (.ifCond .eq 31, 3) := by decide +kernel
theorem dX6_remove_75 : decode cX6_remove 75 = .ok (.aload_n 0, 1) := by decide +kernel
theorem dX6_remove_76 : decode cX6_remove 76 = .ok (.iload_n 1, 1) := by decide +kernel
theorem dX6_remove_77 : decode cX6_remove 77 = .ok (.iload_n 3, 1) := by decide +kernel
theorem dX6_remove_78 : decode cX6_remove 78 = .ok (.invokevirtual 172, 3) := by decide +kernel
theorem dX6_remove_81 : decode cX6_remove 81 = .ok (.aload_n 0, 1) := by decide +kernel
theorem dX6_remove_82 : decode cX6_remove 82 = .ok (.aload_n 0, 1) := by decide +kernel
theorem dX6_remove_83 : decode cX6_remove 83 = .ok (.iload_n 3, 1) := by decide +kernel
theorem dX6_remove_84 : decode cX6_remove 84 = .ok (.invokevirtual 175, 3) := by decide +kernel
theorem dX6_remove_87 : decode cX6_remove 87 = .ok (.ifCond .eq 7, 3) := by decide +kernel
theorem dX6_remove_90 : decode cX6_remove 90 = .ok (.iconst 4, 1) := by decide +kernel
theorem dX6_remove_91 : decode cX6_remove 91 = .ok (.goto 4, 3) := by decide +kernel
theorem dX6_remove_94 : decode cX6_remove 94 = .ok (.iconst 0, 1) := by decide +kernel
theorem dX6_remove_95 : decode cX6_remove 95 = .ok (.invokevirtual 102, 3) := by decide +kernel
theorem dX6_remove_98 : decode cX6_remove 98 = .ok (.ifCond .eq 5, 3) := by decide +kernel
theorem dX6_remove_101 : decode cX6_remove 101 = .ok (.iconst 0, 1) := by decide +kernel
theorem dX6_remove_102 : decode cX6_remove 102 = .ok (.ireturn, 1) := by decide +kernel
theorem dX6_remove_103 : decode cX6_remove 103 = .ok (.aload_n 0, 1) := by decide +kernel
theorem dX6_remove_104 : decode cX6_remove 104 = .ok (.iload_n 1, 1) := by decide +kernel
theorem dX6_remove_105 : decode cX6_remove 105 = .ok (.invokevirtual 86, 3) := by decide +kernel
theorem dX6_remove_108 : decode cX6_remove 108 = .ok (.istore 5, 2) := by decide +kernel
theorem dX6_remove_110 : decode cX6_remove 110 = .ok (.bipush 100, 2) := by decide +kernel
theorem dX6_remove_112 : decode cX6_remove 112 = .ok (.iload 5, 2) := by decide +kernel
theorem dX6_remove_114 : decode cX6_remove 114 = .ok (.imul, 1) := by decide +kernel
theorem dX6_remove_115 : decode cX6_remove 115 = .ok (.istore 6, 2) := by decide +kernel
theorem dX6_remove_117 : decode cX6_remove 117 = .ok (.iload 6, 2) := by decide +kernel
theorem dX6_remove_119 : decode cX6_remove 119 = .ok (.bipush 100, 2) := by decide +kernel
theorem dX6_remove_121 : decode cX6_remove 121 = .ok (.iload 5, 2) := by decide +kernel
theorem dX6_remove_123 : decode cX6_remove 123 = .ok (.imul, 1) := by decide +kernel
theorem dX6_remove_124 : decode cX6_remove 124 = .ok (.aload_n 0, 1) := by decide +kernel
theorem dX6_remove_125 : decode cX6_remove 125 = .ok (.getfield 7, 3) := by decide +kernel
theorem dX6_remove_128 : decode cX6_remove 128 = .ok (.iload 5, 2) := by decide +kernel
theorem dX6_remove_130 : decode cX6_remove 130 = .ok (.iaload, 1) := by decide +kernel
theorem dX6_remove_131 : decode cX6_remove 131 = .ok (.iadd, 1) := by decide +kernel
theorem dX6_remove_132 : decode cX6_remove 132 = .ok (.if_icmp .ge 77, 3) := by decide +kernel
theorem dX6_remove_135 : decode cX6_remove 135 = .ok (.iconst 1, 1) := by decide +kernel
theorem dX6_remove_136 : decode cX6_remove 136 = .ok (.istore 7, 2) := by decide +kernel
theorem dX6_remove_138 : decode cX6_remove 138 = .ok (.iload 7, 2) := by decide +kernel
theorem dX6_remove_140 : decode cX6_remove 140 = .ok (.bipush 16, 2) := by decide +kernel
theorem dX6_remove_142 : decode cX6_remove 142 = .ok (.if_icmp .ge 61, 3) := by decide +kernel
theorem dX6_remove_145 : decode cX6_remove 145 = .ok (.aload_n 0, 1) := by decide +kernel
theorem dX6_remove_146 : decode cX6_remove 146 = .ok (.getfield 21, 3) := by decide +kernel
theorem dX6_remove_149 : decode cX6_remove 149 = .ok (.bipush 16, 2) := by decide +kernel
theorem dX6_remove_151 : decode cX6_remove 151 = .ok (.iload 6, 2) := by decide +kernel
theorem dX6_remove_153 : decode cX6_remove 153 = .ok (.imul, 1) := by decide +kernel
theorem dX6_remove_154 : decode cX6_remove 154 = .ok (.iload 7, 2) := by decide +kernel
theorem dX6_remove_156 : decode cX6_remove 156 = .ok (.iadd, 1) := by decide +kernel
theorem dX6_remove_157 : decode cX6_remove 157 = .ok (.aload_n 0, 1) := by decide +kernel
theorem dX6_remove_158 : decode cX6_remove 158 = .ok (.getfield 21, 3) := by decide +kernel
theorem dX6_remove_161 : decode cX6_remove 161 = .ok (.bipush 16, 2) := by decide +kernel
theorem dX6_remove_163 : decode cX6_remove 163 = .ok (.iload 6, 2) := by decide +kernel
theorem dX6_remove_165 : decode cX6_remove 165 = .ok (.imul, 1) := by decide +kernel
theorem dX6_remove_166 : decode cX6_remove 166 = .ok (.iload 7, 2) := by decide +kernel
theorem dX6_remove_168 : decode cX6_remove 168 = .ok (.iadd, 1) := by decide +kernel
theorem dX6_remove_169 : decode cX6_remove 169 = .ok (.iaload, 1) := by decide +kernel
theorem dX6_remove_170 : decode cX6_remove 170 = .ok (.aload_n 0, 1) := by decide +kernel
theorem dX6_remove_171 : decode cX6_remove 171 = .ok (.getfield 13, 3) := by decide +kernel
theorem dX6_remove_174 : decode cX6_remove 174 = .ok (.iload_n 3, 1) := by decide +kernel
theorem dX6_remove_175 : decode cX6_remove 175 = .ok (.iaload, 1) := by decide +kernel
theorem dX6_remove_176 : decode cX6_remove 176 = .ok (.if_icmp .ne 7, 3) := by decide +kernel
theorem dX6_remove_179 : decode cX6_remove 179 = .ok (.iconst 0, 1) := by decide +kernel
theorem dX6_remove_180 : decode cX6_remove 180 = .ok (.goto 16, 3) := by decide +kernel
theorem dX6_remove_183 : decode cX6_remove 183 = .ok (.aload_n 0, 1) := by decide +kernel
theorem dX6_remove_184 : decode cX6_remove 184 = .ok (.getfield 21, 3) := by decide +kernel
theorem dX6_remove_187 : decode cX6_remove 187 = .ok (.bipush 16, 2) := by decide +kernel
theorem dX6_remove_189 : decode cX6_remove 189 = .ok (.iload 6, 2) := by decide +kernel
theorem dX6_remove_191 : decode cX6_remove 191 = .ok (.imul, 1) := by decide +kernel
theorem dX6_remove_192 : decode cX6_remove 192 = .ok (.iload 7, 2) := by decide +kernel
theorem dX6_remove_194 : decode cX6_remove 194 = .ok (.iadd, 1) := by decide +kernel
theorem dX6_remove_195 : decode cX6_remove 195 = .ok (.iaload, 1) := by decide +kernel
theorem dX6_remove_196 : decode cX6_remove 196 = .ok (.iastore, 1) := by decide +kernel
theorem dX6_remove_197 : decode cX6_remove 197 = .ok (.iinc 7 1, 3) := by decide +kernel
theorem dX6_remove_200 : decode cX6_remove 200 = .ok (.goto (-62), 3) := by decide +kernel
theorem dX6_remove_203 : decode cX6_remove 203 = .ok (.iinc 6 1, 3) := by decide +kernel
theorem dX6_remove_206 : decode cX6_remove 206 = .ok (.goto (-89), 3) := by decide +kernel
theorem dX6_remove_209 : decode cX6_remove 209 = .ok (.aload_n 0, 1) := by decide +kernel
theorem dX6_remove_210 : decode cX6_remove 210 = .ok (.getfield 7, 3) := by decide +kernel
theorem dX6_remove_213 : decode cX6_remove 213 = .ok (.iload 5, 2) := by decide +kernel
theorem dX6_remove_215 : decode cX6_remove 215 = .ok (.dup2, 1) := by decide +kernel
theorem dX6_remove_216 : decode cX6_remove 216 = .ok (.iaload, 1) := by decide +kernel
theorem dX6_remove_217 : decode cX6_remove 217 = .ok (.iconst 1, 1) := by decide +kernel
theorem dX6_remove_218 : decode cX6_remove 218 = .ok (.isub, 1) := by decide +kernel
theorem dX6_remove_219 : decode cX6_remove 219 = .ok (.iastore, 1) := by decide +kernel
theorem dX6_remove_220 : decode cX6_remove 220 = .ok (.iload_n 3, 1) := by decide +kernel
theorem dX6_remove_221 : decode cX6_remove 221 = .ok (.istore 6, 2) := by decide +kernel
theorem dX6_remove_223 : decode cX6_remove 223 = .ok (.iload 6, 2) := by decide +kernel
theorem dX6_remove_225 : decode cX6_remove 225 = .ok (.bipush 100, 2) := by decide +kernel
theorem dX6_remove_227 : decode cX6_remove 227 = .ok (.iload 5, 2) := by decide +kernel
theorem dX6_remove_229 : decode cX6_remove 229 = .ok (.imul, 1) := by decide +kernel
theorem dX6_remove_230 : decode cX6_remove 230 = .ok (.aload_n 0, 1) := by decide +kernel
theorem dX6_remove_231 : decode cX6_remove 231 = .ok (.getfield 7, 3) := by decide +kernel
theorem dX6_remove_234 : decode cX6_remove 234 = .ok (.iload 5, 2) := by decide +kernel
theorem dX6_remove_236 : decode cX6_remove 236 = .ok (.iaload, 1) := by decide +kernel
theorem dX6_remove_237 : decode cX6_remove 237 = .ok (.iadd, 1) := by decide +kernel
theorem dX6_remove_238 : decode cX6_remove 238 = .ok (.if_icmp .ge 19, 3) := by decide +kernel
theorem dX6_remove_241 : decode cX6_remove 241 = .ok (.aload_n 0, 1) := by decide +kernel
theorem dX6_remove_242 : decode cX6_remove 242 = .ok (.iload 6, 2) := by decide +kernel
theorem dX6_remove_244 : decode cX6_remove 244 = .ok (.iload 6, 2) := by decide +kernel
theorem dX6_remove_246 : decode cX6_remove 246 = .ok (.iconst 1, 1) := by decide +kernel
theorem dX6_remove_247 : decode cX6_remove 247 = .ok (.iadd, 1) := by decide +kernel
theorem dX6_remove_248 : decode cX6_remove 248 = .ok (.invokevirtual 70, 3) := by decide +kernel
theorem dX6_remove_251 : decode cX6_remove 251 = .ok (.iinc 6 1, 3) := by decide +kernel
theorem dX6_remove_254 : decode cX6_remove 254 = .ok (.goto (-31), 3) := by decide +kernel
theorem dX6_remove_257 : decode cX6_remove 257 = .ok (.iload 4, 2) := by decide +kernel
theorem dX6_remove_259 : decode cX6_remove 259 = .ok (.ireturn, 1) := by decide +kernel
theorem dX6_namesOf_0 : decode cX6_namesOf 0 = .ok (.iconst 0, 1) := by decide +kernel
theorem dX6_namesOf_1 : decode cX6_namesOf 1 = .ok (.istore_n 2, 1) := by decide +kernel
theorem dX6_namesOf_2 : decode cX6_namesOf 2 = .ok (.iconst 1, 1) := by decide +kernel
theorem dX6_namesOf_3 : decode cX6_namesOf 3 = .ok (.istore_n 3, 1) := by decide +kernel
theorem dX6_namesOf_4 : decode cX6_namesOf 4 = .ok (.iload_n 3, 1) := by decide +kernel
theorem dX6_namesOf_5 : decode cX6_namesOf 5 = .ok (.bipush 16, 2) := by decide +kernel
theorem dX6_namesOf_7 : decode cX6_namesOf 7 = .ok (.if_icmp .ge 33, 3) := by decide +kernel
theorem dX6_namesOf_10 : decode cX6_namesOf 10 = .ok (.iload_n 2, 1) := by decide +kernel
theorem dX6_namesOf_11 : decode cX6_namesOf 11 = .ok (.aload_n 0, 1) := by decide +kernel
theorem dX6_namesOf_12 : decode cX6_namesOf 12 = .ok (.getfield 21, 3) := by decide +kernel
theorem dX6_namesOf_15 : decode cX6_namesOf 15 = .ok (.bipush 16, 2) := by decide +kernel
theorem dX6_namesOf_17 : decode cX6_namesOf 17 = .ok (.iload_n 1, 1) := by decide +kernel
theorem dX6_namesOf_18 : decode cX6_namesOf 18 = .ok (.imul, 1) := by decide +kernel
theorem dX6_namesOf_19 : decode cX6_namesOf 19 = .ok (.iload_n 3, 1) := by decide +kernel
theorem dX6_namesOf_20 : decode cX6_namesOf 20 = .ok (.iadd, 1) := by decide +kernel
theorem dX6_namesOf_21 : decode cX6_namesOf 21 = .ok (.iaload, 1) := by decide +kernel
theorem dX6_namesOf_22 : decode cX6_namesOf 22 = .ok (.ifCond .le 9, 3) := by decide +kernel
theorem dX6_namesOf_25 : decode cX6_namesOf 25 = .ok (.iconst 1, 1) := by decide +kernel
theorem dX6_namesOf_26 : decode cX6_namesOf 26 = .ok (.iload_n 3, 1) := by decide +kernel
theorem dX6_namesOf_27 : decode cX6_namesOf 27 = .ok (.ishl, 1) := by decide +kernel
theorem dX6_namesOf_28 : decode cX6_namesOf 28 = .ok (.goto 4, 3) := by decide +kernel
theorem dX6_namesOf_31 : decode cX6_namesOf 31 = .ok (.iconst 0, 1) := by decide +kernel
theorem dX6_namesOf_32 : decode cX6_namesOf 32 = .ok (.ior, 1) := by decide +kernel
theorem dX6_namesOf_33 : decode cX6_namesOf 33 = .ok (.istore_n 2, 1) := by decide +kernel
theorem dX6_namesOf_34 : decode cX6_namesOf 34 = .ok (.iinc 3 1, 3) := by decide +kernel
theorem dX6_namesOf_37 : decode cX6_namesOf 37 = .ok (.goto (-33), 3) := by decide +kernel
theorem dX6_namesOf_40 : decode cX6_namesOf 40 = .ok (.iload_n 2, 1) := by decide +kernel
theorem dX6_namesOf_41 : decode cX6_namesOf 41 = .ok (.ireturn, 1) := by decide +kernel
theorem dX6_isThrough_0 : decode cX6_isThrough 0 = .ok (.iconst 0, 1) := by decide +kernel
theorem dX6_isThrough_1 : decode cX6_isThrough 1 = .ok (.istore_n 2, 1) := by decide +kernel
theorem dX6_isThrough_2 : decode cX6_isThrough 2 = .ok (.iload_n 0, 1) := by decide +kernel
theorem dX6_isThrough_3 : decode cX6_isThrough 3 = .ok (.istore_n 3, 1) := by decide +kernel
theorem dX6_isThrough_4 : decode cX6_isThrough 4 = .ok (.iload_n 3, 1) := by decide +kernel
theorem dX6_isThrough_5 : decode cX6_isThrough 5 = .ok (.ifCond .le 25, 3) := by decide +kernel
theorem dX6_isThrough_8 : decode cX6_isThrough 8 = .ok (.iload_n 2, 1) := by decide +kernel
theorem dX6_isThrough_9 : decode cX6_isThrough 9 = .ok (.ifCond .ne 8, 3) := by decide +kernel
theorem dX6_isThrough_12 : decode cX6_isThrough 12 = .ok (.iload_n 3, 1) := by decide +kernel
theorem dX6_isThrough_13 : decode cX6_isThrough 13 = .ok (.iload_n 1, 1) := by decide +kernel
theorem dX6_isThrough_14 : decode cX6_isThrough 14 = .ok (.if_icmp .ne 7, 3) := by decide +kernel
theorem dX6_isThrough_17 : decode cX6_isThrough 17 = .ok (.iconst 1, 1) := by decide +kernel
theorem dX6_isThrough_18 : decode cX6_isThrough 18 = .ok (.goto 4, 3) := by decide +kernel
theorem dX6_isThrough_21 : decode cX6_isThrough 21 = .ok (.iconst 0, 1) := by decide +kernel
theorem dX6_isThrough_22 : decode cX6_isThrough 22 = .ok (.istore_n 2, 1) := by decide +kernel
theorem dX6_isThrough_23 : decode cX6_isThrough 23 = .ok (.iload_n 3, 1) := by decide +kernel
theorem dX6_isThrough_24 : decode cX6_isThrough 24 = .ok (.iconst 4, 1) := by decide +kernel
theorem dX6_isThrough_25 : decode cX6_isThrough 25 = .ok (.ishr, 1) := by decide +kernel
theorem dX6_isThrough_26 : decode cX6_isThrough 26 = .ok (.istore_n 3, 1) := by decide +kernel
theorem dX6_isThrough_27 : decode cX6_isThrough 27 = .ok (.goto (-23), 3) := by decide +kernel
theorem dX6_isThrough_30 : decode cX6_isThrough 30 = .ok (.iload_n 2, 1) := by decide +kernel
theorem dX6_isThrough_31 : decode cX6_isThrough 31 = .ok (.ireturn, 1) := by decide +kernel
theorem dX6_move_0 : decode cX6_move 0 = .ok (.aload_n 0, 1) := by decide +kernel
theorem dX6_move_1 : decode cX6_move 1 = .ok (.aload_n 0, 1) := by decide +kernel
theorem dX6_move_2 : decode cX6_move 2 = .ok (.iload_n 1, 1) := by decide +kernel
theorem dX6_move_3 : decode cX6_move 3 = .ok (.invokevirtual 98, 3) := by decide +kernel
theorem dX6_move_6 : decode cX6_move 6 = .ok (.ifCond .ne 7, 3) := by decide +kernel
theorem dX6_move_9 : decode cX6_move 9 = .ok (.iconst 1, 1) := by decide +kernel
theorem dX6_move_10 : decode cX6_move 10 = .ok (.goto 38, 3) := by decide +kernel
theorem dX6_move_13 : decode cX6_move 13 = .ok (.iload_n 2, 1) := by decide +kernel
theorem dX6_move_14 : decode cX6_move 14 = .ok (.invokestatic 166, 3) := by decide +kernel
theorem dX6_move_17 : decode cX6_move 17 = .ok (.ifCond .eq 26, 3) := by decide +kernel
theorem dX6_move_20 : decode cX6_move 20 = .ok (.iload_n 3, 1) := by decide +kernel
theorem dX6_move_21 : decode cX6_move 21 = .ok (.invokestatic 166, 3) := by decide +kernel
theorem dX6_move_24 : decode cX6_move 24 = .ok (.ifCond .eq 19, 3) := by decide +kernel
theorem dX6_move_27 : decode cX6_move 27 = .ok (.iload_n 2, 1) := by decide +kernel
theorem dX6_move_28 : decode cX6_move 28 = .ok (.ifCond .eq 15, 3) := by decide +kernel
theorem dX6_move_31 : decode cX6_move 31 = .ok (.iload_n 3, 1) := by decide +kernel
theorem dX6_move_32 : decode cX6_move 32 = .ok (.ifCond .eq 11, 3) := by decide +kernel
theorem dX6_move_35 : decode cX6_move 35 = .ok (.iload_n 3, 1) := by decide +kernel
theorem dX6_move_36 : decode cX6_move 36 = .ok (.iload_n 2, 1) := by decide +kernel
theorem dX6_move_37 : decode cX6_move 37 = .ok (.invokestatic 178, 3) := by decide +kernel
theorem dX6_move_40 : decode cX6_move 40 = .ok (.ifCond .eq 7, 3) := by decide +kernel
theorem dX6_move_43 : decode cX6_move 43 = .ok (.iconst 2, 1) := by decide +kernel
theorem dX6_move_44 : decode cX6_move 44 = .ok (.goto 4, 3) := by decide +kernel
theorem dX6_move_47 : decode cX6_move 47 = .ok (.iconst 0, 1) := by decide +kernel
theorem dX6_move_48 : decode cX6_move 48 = .ok (.invokevirtual 102, 3) := by decide +kernel
theorem dX6_move_51 : decode cX6_move 51 = .ok (.ifCond .eq 5, 3) := by decide +kernel
theorem dX6_move_54 : decode cX6_move 54 = .ok (.iconst 0, 1) := by decide +kernel
theorem dX6_move_55 : decode cX6_move 55 = .ok (.ireturn, 1) := by decide +kernel
theorem dX6_move_56 : decode cX6_move 56 = .ok (.aload_n 0, 1) := by decide +kernel
theorem dX6_move_57 : decode cX6_move 57 = .ok (.iload_n 1, 1) := by decide +kernel
theorem dX6_move_58 : decode cX6_move 58 = .ok (.iload_n 2, 1) := by decide +kernel
theorem dX6_move_59 : decode cX6_move 59 = .ok (.invokevirtual 163, 3) := by decide +kernel
theorem dX6_move_62 : decode cX6_move 62 = .ok (.istore 4, 2) := by decide +kernel
theorem dX6_move_64 : decode cX6_move 64 = .ok (.aload_n 0, 1) := by decide +kernel
theorem dX6_move_65 : decode cX6_move 65 = .ok (.iload 4, 2) := by decide +kernel
theorem dX6_move_67 : decode cX6_move 67 = .ok (.ifCond .ge 7, 3) := by decide +kernel
theorem dX6_move_70 : decode cX6_move 70 = .ok (.iconst 3, 1) := by decide +kernel
theorem dX6_move_71 : decode cX6_move 71 = .ok (.goto 4, 3) := by decide +kernel
theorem dX6_move_74 : decode cX6_move 74 = .ok (.iconst 0, 1) := by decide +kernel
theorem dX6_move_75 : decode cX6_move 75 = .ok (.invokevirtual 102, 3) := by decide +kernel
theorem dX6_move_78 : decode cX6_move 78 = .ok (.ifCond .eq 5, 3) := by decide +kernel
theorem dX6_move_81 : decode cX6_move 81 = .ok (.iconst 0, 1) := by decide +kernel
theorem dX6_move_82 : decode cX6_move 82 = .ok (.ireturn, 1) := by decide +kernel
theorem dX6_move_83 : decode cX6_move 83 = .ok (.aload_n 0, 1) := by decide +kernel
theorem dX6_move_84 : decode cX6_move 84 = .ok (.iload_n 1, 1) := by decide +kernel
theorem dX6_move_85 : decode cX6_move 85 = .ok (.iload_n 3, 1) := by decide +kernel
theorem dX6_move_86 : decode cX6_move 86 = .ok (.invokevirtual 169, 3) := by decide +kernel
theorem dX6_move_89 : decode cX6_move 89 = .ok (.istore 5, 2) := by decide +kernel
theorem dX6_move_91 : decode cX6_move 91 = .ok (.aload_n 0, 1) := by decide +kernel
theorem dX6_move_92 : decode cX6_move 92 = .ok (.iload 5, 2) := by decide +kernel
theorem dX6_move_94 : decode cX6_move 94 = .ok (.ifCond .ge 7, 3) := by decide +kernel
theorem dX6_move_97 : decode cX6_move 97 = .ok (.iconst 3, 1) := by decide +kernel
theorem dX6_move_98 : decode cX6_move 98 = .ok (.goto 18, 3) := by decide +kernel
theorem dX6_move_101 : decode cX6_move 101 = .ok (.aload_n 0, 1) := by decide +kernel
theorem dX6_move_102 : decode cX6_move 102 = .ok (.getfield 16, 3) := by decide +kernel
theorem dX6_move_105 : decode cX6_move 105 = .ok (.iload 5, 2) := by decide +kernel
theorem dX6_move_107 : decode cX6_move 107 = .ok (.baload, 1) := by decide +kernel
theorem dX6_move_108 : decode cX6_move 108 = .ok (.ifCond .ne 7, 3) := by decide +kernel
