theorem dX6_isRefused_60 : decode cX6_isRefused 60 = .ok (.bipush 95, 2) := by decide +kernel
theorem dX6_isRefused_62 : decode cX6_isRefused 62 = .ok (.iload 4, 2) := by decide +kernel
theorem dX6_isRefused_64 : decode cX6_isRefused 64 = .ok (.imul, 1) := by decide +kernel
theorem dX6_isRefused_65 : decode cX6_isRefused 65 = .ok (.iadd, 1) := by decide +kernel
theorem dX6_isRefused_66 : decode cX6_isRefused 66 = .ok (.iload 6, 2) := by decide +kernel
theorem dX6_isRefused_68 : decode cX6_isRefused 68 = .ok (.iadd, 1) := by decide +kernel
theorem dX6_isRefused_69 : decode cX6_isRefused 69 = .ok (.baload, 1) := by decide +kernel
theorem dX6_isRefused_70 : decode cX6_isRefused 70 = .ok (.ifCond .eq 42, 3) := by decide +kernel
theorem dX6_isRefused_73 : decode cX6_isRefused 73 = .ok (.iload_n 3, 1) := by decide +kernel
theorem dX6_isRefused_74 : decode cX6_isRefused 74 = .ok (.ifCond .ne 32, 3) := by decide +kernel
theorem dX6_isRefused_77 : decode cX6_isRefused 77 = .ok (.iload 5, 2) := by decide +kernel
theorem dX6_isRefused_79 : decode cX6_isRefused 79 = .ok (.ifCond .lt 27, 3) := by decide +kernel
theorem dX6_isRefused_82 : decode cX6_isRefused 82 = .ok (.aload_n 0, 1) := by decide +kernel
theorem dX6_isRefused_83 : decode cX6_isRefused 83 = .ok (.iload 5, 2) := by decide +kernel
theorem dX6_isRefused_85 : decode cX6_isRefused 85 = .ok (.iload 6, 2) := by decide +kernel
theorem dX6_isRefused_87 : decode cX6_isRefused 87 = .ok (.invokevirtual 78, 3) := by decide +kernel
theorem dX6_isRefused_90 : decode cX6_isRefused 90 = .ok (.aload_n 0, 1) := by decide +kernel
theorem dX6_isRefused_91 : decode cX6_isRefused 91 = .ok (.bipush 100, 2) := by decide +kernel
theorem dX6_isRefused_93 : decode cX6_isRefused 93 = .ok (.iload_n 2, 1) := by decide +kernel
theorem dX6_isRefused_94 : decode cX6_isRefused 94 = .ok (.imul, 1) := by decide +kernel
theorem dX6_isRefused_95 : decode cX6_isRefused 95 = .ok (.iload 4, 2) := by decide +kernel
theorem dX6_isRefused_97 : decode cX6_isRefused 97 = .ok (.iadd, 1) := by decide +kernel
theorem dX6_isRefused_98 : decode cX6_isRefused 98 = .ok (.iload 6, 2) := by decide +kernel
theorem dX6_isRefused_100 : decode cX6_isRefused 100 = .ok (.invokevirtual 78, 3) := by decide +kernel
theorem dX6_isRefused_103 : decode cX6_isRefused 103 = .ok (.if_icmp .eq 7, 3) := by decide +kernel
theorem dX6_isRefused_106 : decode cX6_isRefused 106 = .ok (.iconst 1, 1) := by decide +kernel
theorem dX6_isRefused_107 : decode cX6_isRefused 107 = .ok (.goto 4, 3) := by decide +kernel
theorem dX6_isRefused_110 : decode cX6_isRefused 110 = .ok (.iconst 0, 1) := by decide +kernel
theorem dX6_isRefused_111 : decode cX6_isRefused 111 = .ok (.istore_n 3, 1) := by decide +kernel
theorem dX6_isRefused_112 : decode cX6_isRefused 112 = .ok (.iinc 6 1, 3) := by decide +kernel
theorem dX6_isRefused_115 : decode cX6_isRefused 115 = .ok (.goto (-71), 3) := by decide +kernel
theorem dX6_isRefused_118 : decode cX6_isRefused 118 = .ok (.iinc 4 1, 3) := by decide +kernel
theorem dX6_isRefused_121 : decode cX6_isRefused 121 = .ok (.goto (-110), 3) := by decide +kernel
theorem dX6_isRefused_124 : decode cX6_isRefused 124 = .ok (.iload_n 3, 1) := by decide +kernel
theorem dX6_isRefused_125 : decode cX6_isRefused 125 = .ok (.ireturn, 1) := by decide +kernel
theorem dX6_setValue_0 : decode cX6_setValue 0 = .ok (.iload_n 2, 1) := by decide +kernel
theorem dX6_setValue_1 : decode cX6_setValue 1 = .ok (.bipush 15, 2) := by decide +kernel
theorem dX6_setValue_3 : decode cX6_setValue 3 = .ok (.if_icmp .ge 20, 3) := by decide +kernel
theorem dX6_setValue_6 : decode cX6_setValue 6 = .ok (.aload_n 0, 1) := by decide +kernel
theorem dX6_setValue_7 : decode cX6_setValue 7 = .ok (.getfield 21, 3) := by decide +kernel
theorem dX6_setValue_10 : decode cX6_setValue 10 = .ok (.bipush 16, 2) := by decide +kernel
theorem dX6_setValue_12 : decode cX6_setValue 12 = .ok (.iload_n 1, 1) := by decide +kernel
theorem dX6_setValue_13 : decode cX6_setValue 13 = .ok (.imul, 1) := by decide +kernel
theorem dX6_setValue_14 : decode cX6_setValue 14 = .ok (.iload_n 2, 1) := by decide +kernel
theorem dX6_setValue_15 : decode cX6_setValue 15 = .ok (.iadd, 1) := by decide +kernel
theorem dX6_setValue_16 : decode cX6_setValue 16 = .ok (.iconst 1, 1) := by decide +kernel
theorem dX6_setValue_17 : decode cX6_setValue 17 = .ok (.iadd, 1) := by decide +kernel
theorem dX6_setValue_18 : decode cX6_setValue 18 = .ok (.iload_n 3, 1) := by decide +kernel
theorem dX6_setValue_19 : decode cX6_setValue 19 = .ok (.iastore, 1) := by decide +kernel
theorem dX6_setValue_20 : decode cX6_setValue 20 = .ok (.goto 34, 3) := by decide +kernel
theorem dX6_setValue_23 : decode cX6_setValue 23 = .ok (.iload_n 2, 1) := by decide +kernel
theorem dX6_setValue_24 : decode cX6_setValue 24 = .ok (.bipush 30, 2) := by decide +kernel
theorem dX6_setValue_26 : decode cX6_setValue 26 = .ok (.if_icmp .ne 13, 3) := by decide +kernel
theorem dX6_setValue_29 : decode cX6_setValue 29 = .ok (.aload_n 0, 1) := by decide +kernel
theorem dX6_setValue_30 : decode cX6_setValue 30 = .ok (.getfield 24, 3) := by decide +kernel
theorem dX6_setValue_33 : decode cX6_setValue 33 = .ok (.iload_n 1, 1) := by decide +kernel
theorem dX6_setValue_34 : decode cX6_setValue 34 = .ok (.iload_n 3, 1) := by decide +kernel
theorem dX6_setValue_35 : decode cX6_setValue 35 = .ok (.iastore, 1) := by decide +kernel
theorem dX6_setValue_36 : decode cX6_setValue 36 = .ok (.goto 18, 3) := by decide +kernel
theorem dX6_setValue_39 : decode cX6_setValue 39 = .ok (.aload_n 0, 1) := by decide +kernel
theorem dX6_setValue_40 : decode cX6_setValue 40 = .ok (.getfield 28, 3) := by decide +kernel
theorem dX6_setValue_43 : decode cX6_setValue 43 = .ok (.bipush 64, 2) := by decide +kernel
theorem dX6_setValue_45 : decode cX6_setValue 45 = .ok (.iload_n 1, 1) := by decide +kernel
theorem dX6_setValue_46 : decode cX6_setValue 46 = .ok (.imul, 1) := by decide +kernel
theorem dX6_setValue_47 : decode cX6_setValue 47 = .ok (.iload_n 2, 1) := by decide +kernel
theorem dX6_setValue_48 : decode cX6_setValue 48 = .ok (.iadd, 1) := by decide +kernel
theorem dX6_setValue_49 : decode cX6_setValue 49 = .ok (.bipush 31, 2) := by decide +kernel
theorem dX6_setValue_51 : decode cX6_setValue 51 = .ok (.isub, 1) := by decide +kernel
theorem dX6_setValue_52 : decode cX6_setValue 52 = .ok (.iload_n 3, 1) := by decide +kernel
theorem dX6_setValue_53 : decode cX6_setValue 53 = .ok (.iastore, 1) := by decide +kernel
theorem dX6_setValue_54 : decode cX6_setValue 54 = .ok (.return_, 1) := by decide +kernel
theorem dX6_makeTree_0 : decode cX6_makeTree 0 = .ok (.aload_n 0, 1) := by decide +kernel
theorem dX6_makeTree_1 : decode cX6_makeTree 1 = .ok (.bipush 31, 2) := by decide +kernel
theorem dX6_makeTree_3 : decode cX6_makeTree 3 = .ok (.iconst 0, 1) := by decide +kernel
theorem dX6_makeTree_4 : decode cX6_makeTree 4 = .ok (.invokevirtual 105, 3) := by decide +kernel
theorem dX6_makeTree_7 : decode cX6_makeTree 7 = .ok (.aload_n 0, 1) := by decide +kernel
theorem dX6_makeTree_8 : decode cX6_makeTree 8 = .ok (.iconst 0, 1) := by decide +kernel
theorem dX6_makeTree_9 : decode cX6_makeTree 9 = .ok (.putfield 118, 3) := by decide +kernel
theorem dX6_makeTree_12 : decode cX6_makeTree 12 = .ok (.iconst 0, 1) := by decide +kernel
theorem dX6_makeTree_13 : decode cX6_makeTree 13 = .ok (.istore_n 2, 1) := by decide +kernel
theorem dX6_makeTree_14 : decode cX6_makeTree 14 = .ok (.iload_n 2, 1) := by decide +kernel
theorem dX6_makeTree_15 : decode cX6_makeTree 15 = .ok (.bipush 100, 2) := by decide +kernel
theorem dX6_makeTree_17 : decode cX6_makeTree 17 = .ok (.if_icmp .ge 63, 3) := by decide +kernel
theorem dX6_makeTree_20 : decode cX6_makeTree 20 = .ok (.aload_n 0, 1) := by decide +kernel
theorem dX6_makeTree_21 : decode cX6_makeTree 21 = .ok (.getfield 48, 3) := by decide +kernel
theorem dX6_makeTree_24 : decode cX6_makeTree 24 = .ok (.iload_n 2, 1) := by decide +kernel
theorem dX6_makeTree_25 : decode cX6_makeTree 25 = .ok (.iconst 0, 1) := by decide +kernel
theorem dX6_makeTree_26 : decode cX6_makeTree 26 = .ok (.bastore, 1) := by decide +kernel
theorem dX6_makeTree_27 : decode cX6_makeTree 27 = .ok (.aload_n 0, 1) := by decide +kernel
theorem dX6_makeTree_28 : decode cX6_makeTree 28 = .ok (.getfield 51, 3) := by decide +kernel
theorem dX6_makeTree_31 : decode cX6_makeTree 31 = .ok (.iload_n 2, 1) := by decide +kernel
theorem dX6_makeTree_32 : decode cX6_makeTree 32 = .ok (.iconst 0, 1) := by decide +kernel
theorem dX6_makeTree_33 : decode cX6_makeTree 33 = .ok (.iastore, 1) := by decide +kernel
theorem dX6_makeTree_34 : decode cX6_makeTree 34 = .ok (.aload_n 0, 1) := by decide +kernel
theorem dX6_makeTree_35 : decode cX6_makeTree 35 = .ok (.getfield 54, 3) := by decide +kernel
theorem dX6_makeTree_38 : decode cX6_makeTree 38 = .ok (.iload_n 2, 1) := by decide +kernel
theorem dX6_makeTree_39 : decode cX6_makeTree 39 = .ok (.iconst 0, 1) := by decide +kernel
theorem dX6_makeTree_40 : decode cX6_makeTree 40 = .ok (.bastore, 1) := by decide +kernel
theorem dX6_makeTree_41 : decode cX6_makeTree 41 = .ok (.aload_n 0, 1) := by decide +kernel
theorem dX6_makeTree_42 : decode cX6_makeTree 42 = .ok (.getfield 57, 3) := by decide +kernel
theorem dX6_makeTree_45 : decode cX6_makeTree 45 = .ok (.iload_n 2, 1) := by decide +kernel
theorem dX6_makeTree_46 : decode cX6_makeTree 46 = .ok (.lconst 0, 1) := by decide +kernel
theorem dX6_makeTree_47 : decode cX6_makeTree 47 = .ok (.lastore, 1) := by decide +kernel
theorem dX6_makeTree_48 : decode cX6_makeTree 48 = .ok (.aload_n 0, 1) := by decide +kernel
theorem dX6_makeTree_49 : decode cX6_makeTree 49 = .ok (.getfield 61, 3) := by decide +kernel
theorem dX6_makeTree_52 : decode cX6_makeTree 52 = .ok (.iload_n 2, 1) := by decide +kernel
theorem dX6_makeTree_53 : decode cX6_makeTree 53 = .ok (.iload_n 2, 1) := by decide +kernel
theorem dX6_makeTree_54 : decode cX6_makeTree 54 = .ok (.aload_n 0, 1) := by decide +kernel
theorem dX6_makeTree_55 : decode cX6_makeTree 55 = .ok (.getfield 7, 3) := by decide +kernel
theorem dX6_makeTree_58 : decode cX6_makeTree 58 = .ok (.iconst 0, 1) := by decide +kernel
theorem dX6_makeTree_59 : decode cX6_makeTree 59 = .ok (.iaload, 1) := by decide +kernel
theorem dX6_makeTree_60 : decode cX6_makeTree 60 = .ok (.if_icmp .ge 12, 3) := by decide +kernel
theorem dX6_makeTree_63 : decode cX6_makeTree 63 = .ok (.aload_n 0, 1) := by decide +kernel
theorem dX6_makeTree_64 : decode cX6_makeTree 64 = .ok (.getfield 24, 3) := by decide +kernel
theorem dX6_makeTree_67 : decode cX6_makeTree 67 = .ok (.iload_n 2, 1) := by decide +kernel
theorem dX6_makeTree_68 : decode cX6_makeTree 68 = .ok (.iaload, 1) := by decide +kernel
theorem dX6_makeTree_69 : decode cX6_makeTree 69 = .ok (.goto 4, 3) := by decide +kernel
theorem dX6_makeTree_72 : decode cX6_makeTree 72 = .ok (.iconst 0, 1) := by decide +kernel
theorem dX6_makeTree_73 : decode cX6_makeTree 73 = .ok (.iastore, 1) := by decide +kernel
theorem dX6_makeTree_74 : decode cX6_makeTree 74 = .ok (.iinc 2 1, 3) := by decide +kernel
theorem dX6_makeTree_77 : decode cX6_makeTree 77 = .ok (.goto (-63), 3) := by decide +kernel
theorem dX6_makeTree_80 : decode cX6_makeTree 80 = .ok (.iconst 2, 1) := by decide +kernel
theorem dX6_makeTree_81 : decode cX6_makeTree 81 = .ok (.iconst 5, 1) := by decide +kernel
theorem dX6_makeTree_82 : decode cX6_makeTree 82 = .ok (.iload_n 1, 1) := by decide +kernel
theorem dX6_makeTree_83 : decode cX6_makeTree 83 = .ok (.imul, 1) := by decide +kernel
theorem dX6_makeTree_84 : decode cX6_makeTree 84 = .ok (.iadd, 1) := by decide +kernel
theorem dX6_makeTree_85 : decode cX6_makeTree 85 = .ok (.istore_n 2, 1) := by decide +kernel
theorem dX6_makeTree_86 : decode cX6_makeTree 86 = .ok (.bipush 100, 2) := by decide +kernel
theorem dX6_makeTree_88 : decode cX6_makeTree 88 = .ok (.iload_n 2, 1) := by decide +kernel
theorem dX6_makeTree_89 : decode cX6_makeTree 89 = .ok (.imul, 1) := by decide +kernel
theorem dX6_makeTree_90 : decode cX6_makeTree 90 = .ok (.istore_n 3, 1) := by decide +kernel
theorem dX6_makeTree_91 : decode cX6_makeTree 91 = .ok (.iload_n 3, 1) := by decide +kernel
theorem dX6_makeTree_92 : decode cX6_makeTree 92 = .ok (.bipush 100, 2) := by decide +kernel
theorem dX6_makeTree_94 : decode cX6_makeTree 94 = .ok (.iload_n 2, 1) := by decide +kernel
theorem dX6_makeTree_95 : decode cX6_makeTree 95 = .ok (.imul, 1) := by decide +kernel
theorem dX6_makeTree_96 : decode cX6_makeTree 96 = .ok (.aload_n 0, 1) := by decide +kernel
theorem dX6_makeTree_97 : decode cX6_makeTree 97 = .ok (.getfield 7, 3) := by decide +kernel
theorem dX6_makeTree_100 : decode cX6_makeTree 100 = .ok (.iload_n 2, 1) := by decide +kernel
theorem dX6_makeTree_101 : decode cX6_makeTree 101 = .ok (.iaload, 1) := by decide +kernel
theorem dX6_makeTree_102 : decode cX6_makeTree 102 = .ok (.iadd, 1) := by decide +kernel
theorem dX6_makeTree_103 : decode cX6_makeTree 103 = .ok (.if_icmp .ge 190, 3) := by decide +kernel
theorem dX6_makeTree_106 : decode cX6_makeTree 106 = .ok (.aload_n 0, 1) := by decide +kernel
theorem dX6_makeTree_107 : decode cX6_makeTree 107 = .ok (.iconst 1, 1) := by decide +kernel
theorem dX6_makeTree_108 : decode cX6_makeTree 108 = .ok (.iconst 5, 1) := by decide +kernel
theorem dX6_makeTree_109 : decode cX6_makeTree 109 = .ok (.iload_n 1, 1) := by decide +kernel
theorem dX6_makeTree_110 : decode cX6_makeTree 110 = .ok (.imul, 1) := by decide +kernel
theorem dX6_makeTree_111 : decode cX6_makeTree 111 = .ok (.iadd, 1) := by decide +kernel
theorem dX6_makeTree_112 : decode cX6_makeTree 112 = .ok (.aload_n 0, 1) := by decide +kernel
theorem dX6_makeTree_113 : decode cX6_makeTree 113 = .ok (.getfield 13, 3) := by decide +kernel
theorem dX6_makeTree_116 : decode cX6_makeTree 116 = .ok (.iload_n 3, 1) := by decide +kernel
theorem dX6_makeTree_117 : decode cX6_makeTree 117 = .ok (.iaload, 1) := by decide +kernel
theorem dX6_makeTree_118 : decode cX6_makeTree 118 = .ok (.invokevirtual 74, 3) := by decide +kernel
theorem dX6_makeTree_121 : decode cX6_makeTree 121 = .ok (.istore 4, 2) := by decide +kernel
theorem dX6_makeTree_123 : decode cX6_makeTree 123 = .ok (.aload_n 0, 1) := by decide +kernel
theorem dX6_makeTree_124 : decode cX6_makeTree 124 = .ok (.bipush 31, 2) := by decide +kernel
theorem dX6_makeTree_126 : decode cX6_makeTree 126 = .ok (.aload_n 0, 1) := by decide +kernel
theorem dX6_makeTree_127 : decode cX6_makeTree 127 = .ok (.getfield 13, 3) := by decide +kernel
theorem dX6_makeTree_130 : decode cX6_makeTree 130 = .ok (.iload_n 3, 1) := by decide +kernel
theorem dX6_makeTree_131 : decode cX6_makeTree 131 = .ok (.iaload, 1) := by decide +kernel
theorem dX6_makeTree_132 : decode cX6_makeTree 132 = .ok (.invokevirtual 74, 3) := by decide +kernel
theorem dX6_makeTree_135 : decode cX6_makeTree 135 = .ok (.istore 5, 2) := by decide +kernel
theorem dX6_makeTree_137 : decode cX6_makeTree 137 = .ok (.iload 4, 2) := by decide +kernel
theorem dX6_makeTree_139 : decode cX6_makeTree 139 = .ok (.ifCond .ge 15, 3) := by decide +kernel
theorem dX6_makeTree_142 : decode cX6_makeTree 142 = .ok (.iload 5, 2) := by decide +kernel
theorem dX6_makeTree_144 : decode cX6_makeTree 144 = .ok (.ifCond .ge 10, 3) := by decide +kernel
theorem dX6_makeTree_147 : decode cX6_makeTree 147 = .ok (.aload_n 0, 1) := by decide +kernel
theorem dX6_makeTree_148 : decode cX6_makeTree 148 = .ok (.iload_n 3, 1) := by decide +kernel
theorem dX6_makeTree_149 : decode cX6_makeTree 149 = .ok (.invokevirtual 121, 3) := by decide +kernel
theorem dX6_makeTree_152 : decode cX6_makeTree 152 = .ok (.istore 5, 2) := by decide +kernel
theorem dX6_makeTree_154 : decode cX6_makeTree 154 = .ok (.iconst 0, 1) := by decide +kernel
theorem dX6_makeTree_155 : decode cX6_makeTree 155 = .ok (.istore 6, 2) := by decide +kernel
theorem dX6_makeTree_157 : decode cX6_makeTree 157 = .ok (.iload 6, 2) := by decide +kernel
theorem dX6_makeTree_159 : decode cX6_makeTree 159 = .ok (.bipush 95, 2) := by decide +kernel
theorem dX6_makeTree_161 : decode cX6_makeTree 161 = .ok (.if_icmp .ge 126, 3) := by decide +kernel
theorem dX6_makeTree_164 : decode cX6_makeTree 164 = .ok (.iload 5, 2) := by decide +kernel
theorem dX6_makeTree_166 : decode cX6_makeTree 166 = .ok (.ifCond .lt 121, 3) := by decide +kernel
theorem dX6_makeTree_169 : decode cX6_makeTree 169 = .ok (.aload_n 0, 1) := by decide +kernel
theorem dX6_makeTree_170 : decode cX6_makeTree 170 = .ok (.getfield 16, 3) := by decide +kernel
theorem dX6_makeTree_173 : decode cX6_makeTree 173 = .ok (.iload_n 3, 1) := by decide +kernel
theorem dX6_makeTree_174 : decode cX6_makeTree 174 = .ok (.baload, 1) := by decide +kernel
theorem dX6_makeTree_175 : decode cX6_makeTree 175 = .ok (.iload 6, 2) := by decide +kernel
theorem dX6_makeTree_177 : decode cX6_makeTree 177 = .ok (.invokestatic 114, 3) := by decide +kernel
theorem dX6_makeTree_180 : decode cX6_makeTree 180 = .ok (.ifCond .eq 21, 3) := by decide +kernel
theorem dX6_makeTree_183 : decode cX6_makeTree 183 = .ok (.iload 6, 2) := by decide +kernel
theorem dX6_makeTree_185 : decode cX6_makeTree 185 = .ok (.bipush 15, 2) := by decide +kernel
theorem dX6_makeTree_187 : decode cX6_makeTree 187 = .ok (.if_icmp .lt 10, 3) := by decide +kernel
theorem dX6_makeTree_190 : decode cX6_makeTree 190 = .ok (.iload 6, 2) := by decide +kernel
theorem dX6_makeTree_192 : decode cX6_makeTree 192 = .ok (.bipush 29, 2) := by decide +kernel
theorem dX6_makeTree_194 : decode cX6_makeTree 194 = .ok (.if_icmp .le 7, 3) := by decide +kernel
theorem dX6_makeTree_197 : decode cX6_makeTree 197 = .ok (.iconst 1, 1) := by decide +kernel
theorem dX6_makeTree_198 : decode cX6_makeTree 198 = .ok (.goto 4, 3) := by decide +kernel
theorem dX6_makeTree_201 : decode cX6_makeTree 201 = .ok (.iconst 0, 1) := by decide +kernel
theorem dX6_makeTree_202 : decode cX6_makeTree 202 = .ok (.istore 7, 2) := by decide +kernel
theorem dX6_makeTree_204 : decode cX6_makeTree 204 = .ok (.iload 7, 2) := by decide +kernel
theorem dX6_makeTree_206 : decode cX6_makeTree 206 = .ok (.ifCond .eq 75, 3) := by decide +kernel
theorem dX6_makeTree_209 : decode cX6_makeTree 209 = .ok (.aload_n 0, 1) := by decide +kernel
theorem dX6_makeTree_210 : decode cX6_makeTree 210 = .ok (.iload_n 3, 1) := by decide +kernel
theorem dX6_makeTree_211 : decode cX6_makeTree 211 = .ok (.iload 6, 2) := by decide +kernel
theorem dX6_makeTree_213 : decode cX6_makeTree 213 = .ok (.invokevirtual 78, 3) := by decide +kernel
theorem dX6_makeTree_216 : decode cX6_makeTree 216 = .ok (.iload 4, 2) := by decide +kernel
theorem dX6_makeTree_218 : decode cX6_makeTree 218 = .ok (.ifCond .ge 7, 3) := by decide +kernel
theorem dX6_makeTree_221 : decode cX6_makeTree 221 = .ok (.iconst 0, 1) := by decide +kernel
theorem dX6_makeTree_222 : decode cX6_makeTree 222 = .ok (.goto 11, 3) := by decide +kernel
theorem dX6_makeTree_225 : decode cX6_makeTree 225 = .ok (.aload_n 0, 1) := by decide +kernel
theorem dX6_makeTree_226 : decode cX6_makeTree 226 = .ok (.iload 4, 2) := by decide +kernel
theorem dX6_makeTree_228 : decode cX6_makeTree 228 = .ok (.iload 6, 2) := by decide +kernel
theorem dX6_makeTree_230 : decode cX6_makeTree 230 = .ok (.invokevirtual 78, 3) := by decide +kernel
theorem dX6_makeTree_233 : decode cX6_makeTree 233 = .ok (.if_icmp .eq 48, 3) := by decide +kernel
theorem dX6_makeTree_236 : decode cX6_makeTree 236 = .ok (.aload_n 0, 1) := by decide +kernel
theorem dX6_makeTree_237 : decode cX6_makeTree 237 = .ok (.iload 5, 2) := by decide +kernel
theorem dX6_makeTree_239 : decode cX6_makeTree 239 = .ok (.iload 6, 2) := by decide +kernel
theorem dX6_makeTree_241 : decode cX6_makeTree 241 = .ok (.invokevirtual 78, 3) := by decide +kernel
theorem dX6_makeTree_244 : decode cX6_makeTree 244 = .ok (.aload_n 0, 1) := by decide +kernel
theorem dX6_makeTree_245 : decode cX6_makeTree 245 = .ok (.iload_n 3, 1) := by decide +kernel
theorem dX6_makeTree_246 : decode cX6_makeTree 246 = .ok (.iload 6, 2) := by decide +kernel
theorem dX6_makeTree_248 : decode cX6_makeTree 248 = .ok (.invokevirtual 78, 3) := by decide +kernel
theorem dX6_makeTree_251 : decode cX6_makeTree 251 = .ok (.if_icmp .eq 30, 3) := by decide +kernel
theorem dX6_makeTree_254 : decode cX6_makeTree 254 = .ok (.aload_n 0, 1) := by decide +kernel
theorem dX6_makeTree_255 : decode cX6_makeTree 255 = .ok (.iload 5, 2) := by decide +kernel
theorem dX6_makeTree_257 : decode cX6_makeTree 257 = .ok (.iload 6, 2) := by decide +kernel
theorem dX6_makeTree_259 : decode cX6_makeTree 259 = .ok (.aload_n 0, 1) := by decide +kernel
theorem dX6_makeTree_260 : decode cX6_makeTree 260 = .ok (.iload_n 3, 1) := by decide +kernel
theorem dX6_makeTree_261 : decode cX6_makeTree 261 = .ok (.iload 6, 2) := by decide +kernel
theorem dX6_makeTree_263 : decode cX6_makeTree 263 = .ok (.invokevirtual 78, 3) := by decide +kernel
theorem dX6_makeTree_266 : decode cX6_makeTree 266 = .ok (.invokevirtual 124, 3) := by decide +kernel
theorem dX6_makeTree_269 : decode cX6_makeTree 269 = .ok (.aload_n 0, 1) := by decide +kernel
theorem dX6_makeTree_270 : decode cX6_makeTree 270 = .ok (.iload 5, 2) := by decide +kernel
theorem dX6_makeTree_272 : decode cX6_makeTree 272 = .ok (.sipush 3100, 3) := by decide +kernel
theorem dX6_makeTree_275 : decode cX6_makeTree 275 = .ok (.isub, 1) := by decide +kernel
theorem dX6_makeTree_276 : decode cX6_makeTree 276 = .ok (.iload 6, 2) := by decide +kernel
theorem dX6_makeTree_278 : decode cX6_makeTree 278 = .ok (.invokevirtual 127, 3) := by decide +kernel
theorem dX6_makeTree_281 : decode cX6_makeTree 281 = .ok (.iinc 6 1, 3) := by decide +kernel
theorem dX6_makeTree_284 : decode cX6_makeTree 284 = .ok (.goto (-127), 3) := by decide +kernel
theorem dX6_makeTree_287 : decode cX6_makeTree 287 = .ok (.iinc 3 1, 3) := by decide +kernel
theorem dX6_makeTree_290 : decode cX6_makeTree 290 = .ok (.goto (-199), 3) := by decide +kernel
theorem dX6_makeTree_293 : decode cX6_makeTree 293 = .ok (.aload_n 0, 1) := by decide +kernel
theorem dX6_makeTree_294 : decode cX6_makeTree 294 = .ok (.invokevirtual 130, 3) := by decide +kernel
theorem dX6_makeTree_297 : decode cX6_makeTree 297 = .ok (.return_, 1) := by decide +kernel
theorem dX6_addNode_0 : decode cX6_addNode 0 = .ok (.sipush 3100, 3) := by decide +kernel
theorem dX6_addNode_3 : decode cX6_addNode 3 = .ok (.aload_n 0, 1) := by decide +kernel
theorem dX6_addNode_4 : decode cX6_addNode 4 = .ok (.getfield 7, 3) := by decide +kernel
theorem dX6_addNode_7 : decode cX6_addNode 7 = .ok (.bipush 31, 2) := by decide +kernel
theorem dX6_addNode_9 : decode cX6_addNode 9 = .ok (.iaload, 1) := by decide +kernel
theorem dX6_addNode_10 : decode cX6_addNode 10 = .ok (.iadd, 1) := by decide +kernel
theorem dX6_addNode_11 : decode cX6_addNode 11 = .ok (.istore_n 2, 1) := by decide +kernel
theorem dX6_addNode_12 : decode cX6_addNode 12 = .ok (.aload_n 0, 1) := by decide +kernel
theorem dX6_addNode_13 : decode cX6_addNode 13 = .ok (.getfield 7, 3) := by decide +kernel
theorem dX6_addNode_16 : decode cX6_addNode 16 = .ok (.bipush 31, 2) := by decide +kernel
theorem dX6_addNode_18 : decode cX6_addNode 18 = .ok (.dup2, 1) := by decide +kernel
theorem dX6_addNode_19 : decode cX6_addNode 19 = .ok (.iaload, 1) := by decide +kernel
theorem dX6_addNode_20 : decode cX6_addNode 20 = .ok (.iconst 1, 1) := by decide +kernel
theorem dX6_addNode_21 : decode cX6_addNode 21 = .ok (.iadd, 1) := by decide +kernel
theorem dX6_addNode_22 : decode cX6_addNode 22 = .ok (.iastore, 1) := by decide +kernel
theorem dX6_addNode_23 : decode cX6_addNode 23 = .ok (.aload_n 0, 1) := by decide +kernel
theorem dX6_addNode_24 : decode cX6_addNode 24 = .ok (.getfield 13, 3) := by decide +kernel
theorem dX6_addNode_27 : decode cX6_addNode 27 = .ok (.iload_n 2, 1) := by decide +kernel
theorem dX6_addNode_28 : decode cX6_addNode 28 = .ok (.aload_n 0, 1) := by decide +kernel
theorem dX6_addNode_29 : decode cX6_addNode 29 = .ok (.getfield 13, 3) := by decide +kernel
theorem dX6_addNode_32 : decode cX6_addNode 32 = .ok (.iload_n 1, 1) := by decide +kernel
theorem dX6_addNode_33 : decode cX6_addNode 33 = .ok (.iaload, 1) := by decide +kernel
theorem dX6_addNode_34 : decode cX6_addNode 34 = .ok (.iastore, 1) := by decide +kernel
theorem dX6_addNode_35 : decode cX6_addNode 35 = .ok (.aload_n 0, 1) := by decide +kernel
theorem dX6_addNode_36 : decode cX6_addNode 36 = .ok (.getfield 16, 3) := by decide +kernel
theorem dX6_addNode_39 : decode cX6_addNode 39 = .ok (.iload_n 2, 1) := by decide +kernel
theorem dX6_addNode_40 : decode cX6_addNode 40 = .ok (.aload_n 0, 1) := by decide +kernel
theorem dX6_addNode_41 : decode cX6_addNode 41 = .ok (.getfield 16, 3) := by decide +kernel
theorem dX6_addNode_44 : decode cX6_addNode 44 = .ok (.iload_n 1, 1) := by decide +kernel
theorem dX6_addNode_45 : decode cX6_addNode 45 = .ok (.baload, 1) := by decide +kernel
theorem dX6_addNode_46 : decode cX6_addNode 46 = .ok (.bastore, 1) := by decide +kernel
theorem dX6_addNode_47 : decode cX6_addNode 47 = .ok (.aload_n 0, 1) := by decide +kernel
theorem dX6_addNode_48 : decode cX6_addNode 48 = .ok (.getfield 24, 3) := by decide +kernel
theorem dX6_addNode_51 : decode cX6_addNode 51 = .ok (.iload_n 2, 1) := by decide +kernel
theorem dX6_addNode_52 : decode cX6_addNode 52 = .ok (.iconst 0, 1) := by decide +kernel
theorem dX6_addNode_53 : decode cX6_addNode 53 = .ok (.iastore, 1) := by decide +kernel
theorem dX6_addNode_54 : decode cX6_addNode 54 = .ok (.iconst 0, 1) := by decide +kernel
theorem dX6_addNode_55 : decode cX6_addNode 55 = .ok (.istore_n 3, 1) := by decide +kernel
theorem dX6_addNode_56 : decode cX6_addNode 56 = .ok (.iload_n 3, 1) := by decide +kernel
theorem dX6_addNode_57 : decode cX6_addNode 57 = .ok (.bipush 16, 2) := by decide +kernel
theorem dX6_addNode_59 : decode cX6_addNode 59 = .ok (.if_icmp .ge 21, 3) := by decide +kernel
theorem dX6_addNode_62 : decode cX6_addNode 62 = .ok (.aload_n 0, 1) := by decide +kernel
theorem dX6_addNode_63 : decode cX6_addNode 63 = .ok (.getfield 21, 3) := by decide +kernel
theorem dX6_addNode_66 : decode cX6_addNode 66 = .ok (.bipush 16, 2) := by decide +kernel
theorem dX6_addNode_68 : decode cX6_addNode 68 = .ok (.iload_n 2, 1) := by decide +kernel
theorem dX6_addNode_69 : decode cX6_addNode 69 = .ok (.imul, 1) := by decide +kernel
theorem dX6_addNode_70 : decode cX6_addNode 70 = .ok (.iload_n 3, 1) := by decide +kernel
theorem dX6_addNode_71 : decode cX6_addNode 71 = .ok (.iadd, 1) := by decide +kernel
theorem dX6_addNode_72 : decode cX6_addNode 72 = .ok (.iconst 0, 1) := by decide +kernel
theorem dX6_addNode_73 : decode cX6_addNode 73 = .ok (.iastore, 1) := by decide +kernel
theorem dX6_addNode_74 : decode cX6_addNode 74 = .ok (.iinc 3 1, 3) := by decide +kernel
theorem dX6_addNode_77 : decode cX6_addNode 77 = .ok (.goto (-21), 3) := by decide +kernel
theorem dX6_addNode_80 : decode cX6_addNode 80 = .ok (.iconst 0, 1) := by decide +kernel
theorem dX6_addNode_81 : decode cX6_addNode 81 = .ok (.istore_n 3, 1) := by decide +kernel
theorem dX6_addNode_82 : decode cX6_addNode 82 = .ok (.iload_n 3, 1) := by decide +kernel
theorem dX6_addNode_83 : decode cX6_addNode 83 = .ok (.bipush 64, 2) := by decide +kernel
theorem dX6_addNode_85 : decode cX6_addNode 85 = .ok (.if_icmp .ge 21, 3) := by decide +kernel
theorem dX6_addNode_88 : decode cX6_addNode 88 = .ok (.aload_n 0, 1) := by decide +kernel
theorem dX6_addNode_89 : decode cX6_addNode 89 = .ok (.getfield 28, 3) := by decide +kernel
theorem dX6_addNode_92 : decode cX6_addNode 92 = .ok (.bipush 64, 2) := by decide +kernel
theorem dX6_addNode_94 : decode cX6_addNode 94 = .ok (.iload_n 2, 1) := by decide +kernel
theorem dX6_addNode_95 : decode cX6_addNode 95 = .ok (.imul, 1) := by decide +kernel
theorem dX6_addNode_96 : decode cX6_addNode 96 = .ok (.iload_n 3, 1) := by decide +kernel
theorem dX6_addNode_97 : decode cX6_addNode 97 = .ok (.iadd, 1) := by decide +kernel
theorem dX6_addNode_98 : decode cX6_addNode 98 = .ok (.iconst 0, 1) := by decide +kernel
theorem dX6_addNode_99 : decode cX6_addNode 99 = .ok (.iastore, 1) := by decide +kernel
theorem dX6_addNode_100 : decode cX6_addNode 100 = .ok (.iinc 3 1, 3) := by decide +kernel
theorem dX6_addNode_103 : decode cX6_addNode 103 = .ok (.goto (-21), 3) := by decide +kernel
theorem dX6_addNode_106 : decode cX6_addNode 106 = .ok (.aload_n 0, 1) := by decide +kernel
theorem dX6_addNode_107 : decode cX6_addNode 107 = .ok (.getfield 48, 3) := by decide +kernel
theorem dX6_addNode_110 : decode cX6_addNode 110 = .ok (.iload_n 2, 1) := by decide +kernel
theorem dX6_addNode_111 : decode cX6_addNode 111 = .ok (.sipush 3100, 3) := by decide +kernel
theorem dX6_addNode_114 : decode cX6_addNode 114 = .ok (.isub, 1) := by decide +kernel
theorem dX6_addNode_115 : decode cX6_addNode 115 = .ok (.iconst 1, 1) := by decide +kernel
theorem dX6_addNode_116 : decode cX6_addNode 116 = .ok (.bastore, 1) := by decide +kernel
theorem dX6_addNode_117 : decode cX6_addNode 117 = .ok (.aload_n 0, 1) := by decide +kernel
theorem dX6_addNode_118 : decode cX6_addNode 118 = .ok (.dup, 1) := by decide +kernel
theorem dX6_addNode_119 : decode cX6_addNode 119 = .ok (.getfield 118, 3) := by decide +kernel
theorem dX6_addNode_122 : decode cX6_addNode 122 = .ok (.iconst 1, 1) := by decide +kernel
theorem dX6_addNode_123 : decode cX6_addNode 123 = .ok (.iadd, 1) := by decide +kernel
theorem dX6_addNode_124 : decode cX6_addNode 124 = .ok (.putfield 118, 3) := by decide +kernel
theorem dX6_addNode_127 : decode cX6_addNode 127 = .ok (.iload_n 2, 1) := by decide +kernel
theorem dX6_addNode_128 : decode cX6_addNode 128 = .ok (.ireturn, 1) := by decide +kernel
theorem dX6_come_0 : decode cX6_come 0 = .ok (.aload_n 0, 1) := by decide +kernel
theorem dX6_come_1 : decode cX6_come 1 = .ok (.dup, 1) := by decide +kernel
theorem dX6_come_2 : decode cX6_come 2 = .ok (.getfield 118, 3) := by decide +kernel
theorem dX6_come_5 : decode cX6_come 5 = .ok (.iconst 1, 1) := by decide +kernel
theorem dX6_come_6 : decode cX6_come 6 = .ok (.iadd, 1) := by decide +kernel
theorem dX6_come_7 : decode cX6_come 7 = .ok (.putfield 118, 3) := by decide +kernel
theorem dX6_come_10 : decode cX6_come 10 = .ok (.iload_n 2, 1) := by decide +kernel
theorem dX6_come_11 : decode cX6_come 11 = .ok (.bipush 15, 2) := by decide +kernel
theorem dX6_come_13 : decode cX6_come 13 = .ok (.if_icmp .ge 16, 3) := by decide +kernel
theorem dX6_come_16 : decode cX6_come 16 = .ok (.aload_n 0, 1) := by decide +kernel
theorem dX6_come_17 : decode cX6_come 17 = .ok (.getfield 51, 3) := by decide +kernel
theorem dX6_come_20 : decode cX6_come 20 = .ok (.iload_n 1, 1) := by decide +kernel
theorem dX6_come_21 : decode cX6_come 21 = .ok (.dup2, 1) := by decide +kernel
theorem dX6_come_22 : decode cX6_come 22 = .ok (.iaload, 1) := by decide +kernel
theorem dX6_come_23 : decode cX6_come 23 = .ok (.iconst 1, 1) := by decide +kernel
theorem dX6_come_24 : decode cX6_come 24 = .ok (.iadd, 1) := by decide +kernel
theorem dX6_come_25 : decode cX6_come 25 = .ok (.iastore, 1) := by decide +kernel
theorem dX6_come_26 : decode cX6_come 26 = .ok (.goto 34, 3) := by decide +kernel
theorem dX6_come_29 : decode cX6_come 29 = .ok (.iload_n 2, 1) := by decide +kernel
theorem dX6_come_30 : decode cX6_come 30 = .ok (.bipush 30, 2) := by decide +kernel
theorem dX6_come_32 : decode cX6_come 32 = .ok (.if_icmp .ne 13, 3) := by decide +kernel
theorem dX6_come_35 : decode cX6_come 35 = .ok (.aload_n 0, 1) := by decide +kernel
theorem dX6_come_36 : decode cX6_come 36 = .ok (.getfield 54, 3) := by decide +kernel
theorem dX6_come_39 : decode cX6_come 39 = .ok (.iload_n 1, 1) := by decide +kernel
theorem dX6_come_40 : decode cX6_come 40 = .ok (.iconst 1, 1) := by decide +kernel
theorem dX6_come_41 : decode cX6_come 41 = .ok (.bastore, 1) := by decide +kernel
theorem dX6_come_42 : decode cX6_come 42 = .ok (.goto 18, 3) := by decide +kernel
theorem dX6_come_45 : decode cX6_come 45 = .ok (.aload_n 0, 1) := by decide +kernel
theorem dX6_come_46 : decode cX6_come 46 = .ok (.getfield 57, 3) := by decide +kernel
theorem dX6_come_49 : decode cX6_come 49 = .ok (.iload_n 1, 1) := by decide +kernel
theorem dX6_come_50 : decode cX6_come 50 = .ok (.dup2, 1) := by decide +kernel
theorem dX6_come_51 : decode cX6_come 51 = .ok (.laload, 1) := by decide +kernel
theorem dX6_come_52 : decode cX6_come 52 = .ok (.lconst 1, 1) := by decide +kernel
theorem dX6_come_53 : decode cX6_come 53 = .ok (.iload_n 2, 1) := by decide +kernel
theorem dX6_come_54 : decode cX6_come 54 = .ok (.bipush 31, 2) := by decide +kernel
theorem dX6_come_56 : decode cX6_come 56 = .ok (.isub, 1) := by decide +kernel
theorem dX6_come_57 : decode cX6_come 57 = .ok (.lshl, 1) := by decide +kernel
theorem dX6_come_58 : decode cX6_come 58 = .ok (.lor, 1) := by decide +kernel
theorem dX6_come_59 : decode cX6_come 59 = .ok (.lastore, 1) := by decide +kernel
theorem dX6_come_60 : decode cX6_come 60 = .ok (.return_, 1) := by decide +kernel
theorem dX6_sweep_0 : decode cX6_sweep 0 = .ok (.iconst 0, 1) := by decide +kernel
theorem dX6_sweep_1 : decode cX6_sweep 1 = .ok (.istore_n 1, 1) := by decide +kernel
theorem dX6_sweep_2 : decode cX6_sweep 2 = .ok (.iload_n 1, 1) := by decide +kernel
theorem dX6_sweep_3 : decode cX6_sweep 3 = .ok (.bipush 100, 2) := by decide +kernel
theorem dX6_sweep_5 : decode cX6_sweep 5 = .ok (.if_icmp .ge 24, 3) := by decide +kernel
theorem dX6_sweep_8 : decode cX6_sweep 8 = .ok (.aload_n 0, 1) := by decide +kernel
theorem dX6_sweep_9 : decode cX6_sweep 9 = .ok (.getfield 64, 3) := by decide +kernel
theorem dX6_sweep_12 : decode cX6_sweep 12 = .ok (.iload_n 1, 1) := by decide +kernel
theorem dX6_sweep_13 : decode cX6_sweep 13 = .ok (.iload_n 1, 1) := by decide +kernel
theorem dX6_sweep_14 : decode cX6_sweep 14 = .ok (.ifCond .ne 7, 3) := by decide +kernel
theorem dX6_sweep_17 : decode cX6_sweep 17 = .ok (.iconst 1, 1) := by decide +kernel
theorem dX6_sweep_18 : decode cX6_sweep 18 = .ok (.goto 4, 3) := by decide +kernel
theorem dX6_sweep_21 : decode cX6_sweep 21 = .ok (.iconst 0, 1) := by decide +kernel
theorem dX6_sweep_22 : decode cX6_sweep 22 = .ok (.bastore, 1) := by decide +kernel
theorem dX6_sweep_23 : decode cX6_sweep 23 = .ok (.iinc 1 1, 3) := by decide +kernel
theorem dX6_sweep_26 : decode cX6_sweep 26 = .ok (.goto (-24), 3) := by decide +kernel
theorem dX6_sweep_29 : decode cX6_sweep 29 = .ok (.iconst 1, 1) := by decide +kernel
theorem dX6_sweep_30 : decode cX6_sweep 30 = .ok (.istore_n 1, 1) := by decide +kernel
theorem dX6_sweep_31 : decode cX6_sweep 31 = .ok (.iload_n 1, 1) := by decide +kernel
theorem dX6_sweep_32 : decode cX6_sweep 32 = .ok (.ifCond .eq 119, 3) := by decide +kernel
theorem dX6_sweep_35 : decode cX6_sweep 35 = .ok (.iconst 0, 1) := by decide +kernel
theorem dX6_sweep_36 : decode cX6_sweep 36 = .ok (.istore_n 1, 1) := by decide +kernel
theorem dX6_sweep_37 : decode cX6_sweep 37 = .ok (.iconst 0, 1) := by decide +kernel
theorem dX6_sweep_38 : decode cX6_sweep 38 = .ok (.istore_n 2, 1) := by decide +kernel
theorem dX6_sweep_39 : decode cX6_sweep 39 = .ok (.iload_n 2, 1) := by decide +kernel
theorem dX6_sweep_40 : decode cX6_sweep 40 = .ok (.aload_n 0, 1) := by decide +kernel
theorem dX6_sweep_41 : decode cX6_sweep 41 = .ok (.getfield 7, 3) := by decide +kernel
theorem dX6_sweep_44 : decode cX6_sweep 44 = .ok (.bipush 31, 2) := by decide +kernel
theorem dX6_sweep_46 : decode cX6_sweep 46 = .ok (.iaload, 1) := by decide +kernel
theorem dX6_sweep_47 : decode cX6_sweep 47 = .ok (.if_icmp .ge 101, 3) := by decide +kernel
theorem dX6_sweep_50 : decode cX6_sweep 50 = .ok (.iconst 1, 1) := by decide +kernel
theorem dX6_sweep_51 : decode cX6_sweep 51 = .ok (.istore_n 3, 1) := by decide +kernel
theorem dX6_sweep_52 : decode cX6_sweep 52 = .ok (.iload_n 3, 1) := by decide +kernel
theorem dX6_sweep_53 : decode cX6_sweep 53 = .ok (.bipush 16, 2) := by decide +kernel
theorem dX6_sweep_55 : decode cX6_sweep 55 = .ok (.if_icmp .ge 87, 3) := by decide +kernel
theorem dX6_sweep_58 : decode cX6_sweep 58 = .ok (.aload_n 0, 1) := by decide +kernel
theorem dX6_sweep_59 : decode cX6_sweep 59 = .ok (.getfield 64, 3) := by decide +kernel
theorem dX6_sweep_62 : decode cX6_sweep 62 = .ok (.iload_n 2, 1) := by decide +kernel
theorem dX6_sweep_63 : decode cX6_sweep 63 = .ok (.baload, 1) := by decide +kernel
theorem dX6_sweep_64 : decode cX6_sweep 64 = .ok (.ifCond .eq 78, 3) := by decide +kernel
theorem dX6_sweep_67 : decode cX6_sweep 67 = .ok (.aload_n 0, 1) := by decide +kernel
theorem dX6_sweep_68 : decode cX6_sweep 68 = .ok (.getfield 21, 3) := by decide +kernel
theorem dX6_sweep_71 : decode cX6_sweep 71 = .ok (.bipush 16, 2) := by decide +kernel
theorem dX6_sweep_73 : decode cX6_sweep 73 = .ok (.sipush 3100, 3) := by decide +kernel
theorem dX6_sweep_76 : decode cX6_sweep 76 = .ok (.iload_n 2, 1) := by decide +kernel
theorem dX6_sweep_77 : decode cX6_sweep 77 = .ok (.iadd, 1) := by decide +kernel
theorem dX6_sweep_78 : decode cX6_sweep 78 = .ok (.imul, 1) := by decide +kernel
theorem dX6_sweep_79 : decode cX6_sweep 79 = .ok (.iload_n 3, 1) := by decide +kernel
theorem dX6_sweep_80 : decode cX6_sweep 80 = .ok (.iadd, 1) := by decide +kernel
theorem dX6_sweep_81 : decode cX6_sweep 81 = .ok (.iaload, 1) := by decide +kernel
theorem dX6_sweep_82 : decode cX6_sweep 82 = .ok (.istore 4, 2) := by decide +kernel
theorem dX6_sweep_84 : decode cX6_sweep 84 = .ok (.iload 4, 2) := by decide +kernel
theorem dX6_sweep_86 : decode cX6_sweep 86 = .ok (.ifCond .ne 7, 3) := by decide +kernel
theorem dX6_sweep_89 : decode cX6_sweep 89 = .ok (.iconst (-1), 1) := by decide +kernel
theorem dX6_sweep_90 : decode cX6_sweep 90 = .ok (.goto 11, 3) := by decide +kernel
theorem dX6_sweep_93 : decode cX6_sweep 93 = .ok (.aload_n 0, 1) := by decide +kernel
theorem dX6_sweep_94 : decode cX6_sweep 94 = .ok (.bipush 31, 2) := by decide +kernel
theorem dX6_sweep_96 : decode cX6_sweep 96 = .ok (.iload 4, 2) := by decide +kernel
theorem dX6_sweep_98 : decode cX6_sweep 98 = .ok (.invokevirtual 74, 3) := by decide +kernel
theorem dX6_sweep_101 : decode cX6_sweep 101 = .ok (.istore 5, 2) := by decide +kernel
theorem dX6_sweep_103 : decode cX6_sweep 103 = .ok (.iload 5, 2) := by decide +kernel
theorem dX6_sweep_105 : decode cX6_sweep 105 = .ok (.ifCond .lt 31, 3) := by decide +kernel
theorem dX6_sweep_108 : decode cX6_sweep 108 = .ok (.aload_n 0, 1) := by decide +kernel
theorem dX6_sweep_109 : decode cX6_sweep 109 = .ok (.getfield 64, 3) := by decide +kernel
theorem dX6_sweep_112 : decode cX6_sweep 112 = .ok (.iload 5, 2) := by decide +kernel
theorem dX6_sweep_114 : decode cX6_sweep 114 = .ok (.sipush 3100, 3) := by decide +kernel
theorem dX6_sweep_117 : decode cX6_sweep 117 = .ok (.isub, 1) := by decide +kernel
theorem dX6_sweep_118 : decode cX6_sweep 118 = .ok (.baload, 1) := by decide +kernel
theorem dX6_sweep_119 : decode cX6_sweep 119 = .ok (.ifCond .ne 17, 3) := by decide +kernel
theorem dX6_sweep_122 : decode cX6_sweep 122 = .ok (.aload_n 0, 1) := by decide +kernel
theorem dX6_sweep_123 : decode cX6_sweep 123 = .ok (.getfield 64, 3) := by decide +kernel
theorem dX6_sweep_126 : decode cX6_sweep 126 = .ok (.iload 5, 2) := by decide +kernel
theorem dX6_sweep_128 : decode cX6_sweep 128 = .ok (.sipush 3100, 3) := by decide +kernel
theorem dX6_sweep_131 : decode cX6_sweep 131 = .ok (.isub, 1) := by decide +kernel
theorem dX6_sweep_132 : decode cX6_sweep 132 = .ok (.iconst 1, 1) := by decide +kernel
theorem dX6_sweep_133 : decode cX6_sweep 133 = .ok (.bastore, 1) := by decide +kernel
theorem dX6_sweep_134 : decode cX6_sweep 134 = .ok (.iconst 1, 1) := by decide +kernel
theorem dX6_sweep_135 : decode cX6_sweep 135 = .ok (.istore_n 1, 1) := by decide +kernel
theorem dX6_sweep_136 : decode cX6_sweep 136 = .ok (.iinc 3 1, 3) := by decide +kernel
theorem dX6_sweep_139 : decode cX6_sweep 139 = .ok (.goto (-87), 3) := by decide +kernel
theorem dX6_sweep_142 : decode cX6_sweep 142 = .ok (.iinc 2 1, 3) := by decide +kernel
theorem dX6_sweep_145 : decode cX6_sweep 145 = .ok (.goto (-106), 3) := by decide +kernel
theorem dX6_sweep_148 : decode cX6_sweep 148 = .ok (.goto (-117), 3) := by decide +kernel
theorem dX6_sweep_151 : decode cX6_sweep 151 = .ok (.aload_n 0, 1) := by decide +kernel
theorem dX6_sweep_152 : decode cX6_sweep 152 = .ok (.iconst 0, 1) := by decide +kernel
theorem dX6_sweep_153 : decode cX6_sweep 153 = .ok (.putfield 133, 3) := by decide +kernel
theorem dX6_sweep_156 : decode cX6_sweep 156 = .ok (.iconst 0, 1) := by decide +kernel
theorem dX6_sweep_157 : decode cX6_sweep 157 = .ok (.istore_n 2, 1) := by decide +kernel
theorem dX6_sweep_158 : decode cX6_sweep 158 = .ok (.iload_n 2, 1) := by decide +kernel
