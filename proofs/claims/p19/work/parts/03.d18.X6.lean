theorem dX6_move_111 : decode cX6_move 111 = .ok (.iconst 4, 1) := by decide +kernel
theorem dX6_move_112 : decode cX6_move 112 = .ok (.goto 4, 3) := by decide +kernel
theorem dX6_move_115 : decode cX6_move 115 = .ok (.iconst 0, 1) := by decide +kernel
theorem dX6_move_116 : decode cX6_move 116 = .ok (.invokevirtual 102, 3) := by decide +kernel
theorem dX6_move_119 : decode cX6_move 119 = .ok (.ifCond .eq 5, 3) := by decide +kernel
theorem dX6_move_122 : decode cX6_move 122 = .ok (.iconst 0, 1) := by decide +kernel
theorem dX6_move_123 : decode cX6_move 123 = .ok (.ireturn, 1) := by decide +kernel
theorem dX6_move_124 : decode cX6_move 124 = .ok (.aload_n 0, 1) := by decide +kernel
theorem dX6_move_125 : decode cX6_move 125 = .ok (.aload_n 0, 1) := by decide +kernel
theorem dX6_move_126 : decode cX6_move 126 = .ok (.iload_n 1, 1) := by decide +kernel
theorem dX6_move_127 : decode cX6_move 127 = .ok (.iload 5, 2) := by decide +kernel
theorem dX6_move_129 : decode cX6_move 129 = .ok (.iload_n 3, 1) := by decide +kernel
theorem dX6_move_130 : decode cX6_move 130 = .ok (.bipush 15, 2) := by decide +kernel
theorem dX6_move_132 : decode cX6_move 132 = .ok (.iand, 1) := by decide +kernel
theorem dX6_move_133 : decode cX6_move 133 = .ok (.invokevirtual 90, 3) := by decide +kernel
theorem dX6_move_136 : decode cX6_move 136 = .ok (.ifCond .lt 7, 3) := by decide +kernel
theorem dX6_move_139 : decode cX6_move 139 = .ok (.iconst 4, 1) := by decide +kernel
theorem dX6_move_140 : decode cX6_move 140 = .ok (.goto 4, 3) := by decide +kernel
theorem dX6_move_143 : decode cX6_move 143 = .ok (.iconst 0, 1) := by decide +kernel
theorem dX6_move_144 : decode cX6_move 144 = .ok (.invokevirtual 102, 3) := by decide +kernel
theorem dX6_move_147 : decode cX6_move 147 = .ok (.ifCond .eq 5, 3) := by decide +kernel
theorem dX6_move_150 : decode cX6_move 150 = .ok (.iconst 0, 1) := by decide +kernel
theorem dX6_move_151 : decode cX6_move 151 = .ok (.ireturn, 1) := by decide +kernel
theorem dX6_move_152 : decode cX6_move 152 = .ok (.aload_n 0, 1) := by decide +kernel
theorem dX6_move_153 : decode cX6_move 153 = .ok (.iload_n 1, 1) := by decide +kernel
theorem dX6_move_154 : decode cX6_move 154 = .ok (.iload_n 2, 1) := by decide +kernel
theorem dX6_move_155 : decode cX6_move 155 = .ok (.iconst 4, 1) := by decide +kernel
theorem dX6_move_156 : decode cX6_move 156 = .ok (.ishr, 1) := by decide +kernel
theorem dX6_move_157 : decode cX6_move 157 = .ok (.invokevirtual 182, 3) := by decide +kernel
theorem dX6_move_160 : decode cX6_move 160 = .ok (.istore 6, 2) := by decide +kernel
theorem dX6_move_162 : decode cX6_move 162 = .ok (.aload_n 0, 1) := by decide +kernel
theorem dX6_move_163 : decode cX6_move 163 = .ok (.getfield 21, 3) := by decide +kernel
theorem dX6_move_166 : decode cX6_move 166 = .ok (.bipush 16, 2) := by decide +kernel
theorem dX6_move_168 : decode cX6_move 168 = .ok (.iload 6, 2) := by decide +kernel
theorem dX6_move_170 : decode cX6_move 170 = .ok (.imul, 1) := by decide +kernel
theorem dX6_move_171 : decode cX6_move 171 = .ok (.iload_n 2, 1) := by decide +kernel
theorem dX6_move_172 : decode cX6_move 172 = .ok (.bipush 15, 2) := by decide +kernel
theorem dX6_move_174 : decode cX6_move 174 = .ok (.iand, 1) := by decide +kernel
theorem dX6_move_175 : decode cX6_move 175 = .ok (.iadd, 1) := by decide +kernel
theorem dX6_move_176 : decode cX6_move 176 = .ok (.iconst 0, 1) := by decide +kernel
theorem dX6_move_177 : decode cX6_move 177 = .ok (.iastore, 1) := by decide +kernel
theorem dX6_move_178 : decode cX6_move 178 = .ok (.aload_n 0, 1) := by decide +kernel
theorem dX6_move_179 : decode cX6_move 179 = .ok (.getfield 21, 3) := by decide +kernel
theorem dX6_move_182 : decode cX6_move 182 = .ok (.bipush 16, 2) := by decide +kernel
theorem dX6_move_184 : decode cX6_move 184 = .ok (.iload 5, 2) := by decide +kernel
theorem dX6_move_186 : decode cX6_move 186 = .ok (.imul, 1) := by decide +kernel
theorem dX6_move_187 : decode cX6_move 187 = .ok (.iload_n 3, 1) := by decide +kernel
theorem dX6_move_188 : decode cX6_move 188 = .ok (.bipush 15, 2) := by decide +kernel
theorem dX6_move_190 : decode cX6_move 190 = .ok (.iand, 1) := by decide +kernel
theorem dX6_move_191 : decode cX6_move 191 = .ok (.iadd, 1) := by decide +kernel
theorem dX6_move_192 : decode cX6_move 192 = .ok (.aload_n 0, 1) := by decide +kernel
theorem dX6_move_193 : decode cX6_move 193 = .ok (.getfield 13, 3) := by decide +kernel
theorem dX6_move_196 : decode cX6_move 196 = .ok (.iload 4, 2) := by decide +kernel
theorem dX6_move_198 : decode cX6_move 198 = .ok (.iaload, 1) := by decide +kernel
theorem dX6_move_199 : decode cX6_move 199 = .ok (.iastore, 1) := by decide +kernel
theorem dX6_move_200 : decode cX6_move 200 = .ok (.aload_n 0, 1) := by decide +kernel
theorem dX6_move_201 : decode cX6_move 201 = .ok (.getfield 16, 3) := by decide +kernel
theorem dX6_move_204 : decode cX6_move 204 = .ok (.iload 4, 2) := by decide +kernel
theorem dX6_move_206 : decode cX6_move 206 = .ok (.baload, 1) := by decide +kernel
theorem dX6_move_207 : decode cX6_move 207 = .ok (.ireturn, 1) := by decide +kernel
theorem dX6_lookUpSilently_0 : decode cX6_lookUpSilently 0 = .ok (.bipush 100, 2) := by decide +kernel
theorem dX6_lookUpSilently_2 : decode cX6_lookUpSilently 2 = .ok (.aload_n 0, 1) := by decide +kernel
theorem dX6_lookUpSilently_3 : decode cX6_lookUpSilently 3 = .ok (.iload_n 1, 1) := by decide +kernel
theorem dX6_lookUpSilently_4 : decode cX6_lookUpSilently 4 = .ok (.invokevirtual 86, 3) := by decide +kernel
theorem dX6_lookUpSilently_7 : decode cX6_lookUpSilently 7 = .ok (.imul, 1) := by decide +kernel
theorem dX6_lookUpSilently_8 : decode cX6_lookUpSilently 8 = .ok (.istore_n 3, 1) := by decide +kernel
theorem dX6_lookUpSilently_9 : decode cX6_lookUpSilently 9 = .ok (.bipush 24, 2) := by decide +kernel
theorem dX6_lookUpSilently_11 : decode cX6_lookUpSilently 11 = .ok (.istore 4, 2) := by decide +kernel
theorem dX6_lookUpSilently_13 : decode cX6_lookUpSilently 13 = .ok (.iload 4, 2) := by decide +kernel
theorem dX6_lookUpSilently_15 : decode cX6_lookUpSilently 15 = .ok (.ifCond .lt 49, 3) := by decide +kernel
theorem dX6_lookUpSilently_18 : decode cX6_lookUpSilently 18 = .ok (.iload_n 2, 1) := by decide +kernel
theorem dX6_lookUpSilently_19 : decode cX6_lookUpSilently 19 = .ok (.iload 4, 2) := by decide +kernel
theorem dX6_lookUpSilently_21 : decode cX6_lookUpSilently 21 = .ok (.ishr, 1) := by decide +kernel
theorem dX6_lookUpSilently_22 : decode cX6_lookUpSilently 22 = .ok (.bipush 15, 2) := by decide +kernel
theorem dX6_lookUpSilently_24 : decode cX6_lookUpSilently 24 = .ok (.iand, 1) := by decide +kernel
theorem dX6_lookUpSilently_25 : decode cX6_lookUpSilently 25 = .ok (.istore 5, 2) := by decide +kernel
theorem dX6_lookUpSilently_27 : decode cX6_lookUpSilently 27 = .ok (.iload 5, 2) := by decide +kernel
theorem dX6_lookUpSilently_29 : decode cX6_lookUpSilently 29 = .ok (.ifCond .le 27, 3) := by decide +kernel
theorem dX6_lookUpSilently_32 : decode cX6_lookUpSilently 32 = .ok (.aload_n 0, 1) := by decide +kernel
theorem dX6_lookUpSilently_33 : decode cX6_lookUpSilently 33 = .ok (.aload_n 0, 1) := by decide +kernel
theorem dX6_lookUpSilently_34 : decode cX6_lookUpSilently 34 = .ok (.iload_n 1, 1) := by decide +kernel
theorem dX6_lookUpSilently_35 : decode cX6_lookUpSilently 35 = .ok (.invokevirtual 86, 3) := by decide +kernel
theorem dX6_lookUpSilently_38 : decode cX6_lookUpSilently 38 = .ok (.aload_n 0, 1) := by decide +kernel
theorem dX6_lookUpSilently_39 : decode cX6_lookUpSilently 39 = .ok (.getfield 21, 3) := by decide +kernel
theorem dX6_lookUpSilently_42 : decode cX6_lookUpSilently 42 = .ok (.bipush 16, 2) := by decide +kernel
theorem dX6_lookUpSilently_44 : decode cX6_lookUpSilently 44 = .ok (.iload_n 3, 1) := by decide +kernel
theorem dX6_lookUpSilently_45 : decode cX6_lookUpSilently 45 = .ok (.imul, 1) := by decide +kernel
theorem dX6_lookUpSilently_46 : decode cX6_lookUpSilently 46 = .ok (.iload 5, 2) := by decide +kernel
theorem dX6_lookUpSilently_48 : decode cX6_lookUpSilently 48 = .ok (.iadd, 1) := by decide +kernel
theorem dX6_lookUpSilently_49 : decode cX6_lookUpSilently 49 = .ok (.iaload, 1) := by decide +kernel
theorem dX6_lookUpSilently_50 : decode cX6_lookUpSilently 50 = .ok (.invokevirtual 74, 3) := by decide +kernel
theorem dX6_lookUpSilently_53 : decode cX6_lookUpSilently 53 = .ok (.goto 4, 3) := by decide +kernel
theorem dX6_lookUpSilently_56 : decode cX6_lookUpSilently 56 = .ok (.iload_n 3, 1) := by decide +kernel
theorem dX6_lookUpSilently_57 : decode cX6_lookUpSilently 57 = .ok (.istore_n 3, 1) := by decide +kernel
theorem dX6_lookUpSilently_58 : decode cX6_lookUpSilently 58 = .ok (.iinc 4 (-4), 3) := by decide +kernel
theorem dX6_lookUpSilently_61 : decode cX6_lookUpSilently 61 = .ok (.goto (-48), 3) := by decide +kernel
theorem dX6_lookUpSilently_64 : decode cX6_lookUpSilently 64 = .ok (.iload_n 3, 1) := by decide +kernel
theorem dX6_lookUpSilently_65 : decode cX6_lookUpSilently 65 = .ok (.ireturn, 1) := by decide +kernel
theorem dX6_file_0 : decode cX6_file 0 = .ok (.aload_n 0, 1) := by decide +kernel
theorem dX6_file_1 : decode cX6_file 1 = .ok (.iload_n 3, 1) := by decide +kernel
theorem dX6_file_2 : decode cX6_file 2 = .ok (.ifCond .ne 7, 3) := by decide +kernel
theorem dX6_file_5 : decode cX6_file 5 = .ok (.iconst 1, 1) := by decide +kernel
theorem dX6_file_6 : decode cX6_file 6 = .ok (.goto 20, 3) := by decide +kernel
theorem dX6_file_9 : decode cX6_file 9 = .ok (.iload_n 2, 1) := by decide +kernel
theorem dX6_file_10 : decode cX6_file 10 = .ok (.invokestatic 166, 3) := by decide +kernel
theorem dX6_file_13 : decode cX6_file 13 = .ok (.ifCond .eq 8, 3) := by decide +kernel
theorem dX6_file_16 : decode cX6_file 16 = .ok (.iload 4, 2) := by decide +kernel
theorem dX6_file_18 : decode cX6_file 18 = .ok (.ifCond .ne 7, 3) := by decide +kernel
theorem dX6_file_21 : decode cX6_file 21 = .ok (.iconst 2, 1) := by decide +kernel
theorem dX6_file_22 : decode cX6_file 22 = .ok (.goto 4, 3) := by decide +kernel
theorem dX6_file_25 : decode cX6_file 25 = .ok (.iconst 0, 1) := by decide +kernel
theorem dX6_file_26 : decode cX6_file 26 = .ok (.invokevirtual 102, 3) := by decide +kernel
theorem dX6_file_29 : decode cX6_file 29 = .ok (.ifCond .eq 5, 3) := by decide +kernel
theorem dX6_file_32 : decode cX6_file 32 = .ok (.iconst (-1), 1) := by decide +kernel
theorem dX6_file_33 : decode cX6_file 33 = .ok (.ireturn, 1) := by decide +kernel
theorem dX6_file_34 : decode cX6_file 34 = .ok (.aload_n 0, 1) := by decide +kernel
theorem dX6_file_35 : decode cX6_file 35 = .ok (.iload_n 1, 1) := by decide +kernel
theorem dX6_file_36 : decode cX6_file 36 = .ok (.iload_n 2, 1) := by decide +kernel
theorem dX6_file_37 : decode cX6_file 37 = .ok (.invokevirtual 163, 3) := by decide +kernel
theorem dX6_file_40 : decode cX6_file 40 = .ok (.istore 5, 2) := by decide +kernel
theorem dX6_file_42 : decode cX6_file 42 = .ok (.aload_n 0, 1) := by decide +kernel
theorem dX6_file_43 : decode cX6_file 43 = .ok (.iload 5, 2) := by decide +kernel
theorem dX6_file_45 : decode cX6_file 45 = .ok (.ifCond .ge 7, 3) := by decide +kernel
theorem dX6_file_48 : decode cX6_file 48 = .ok (.iconst 3, 1) := by decide +kernel
theorem dX6_file_49 : decode cX6_file 49 = .ok (.goto 18, 3) := by decide +kernel
theorem dX6_file_52 : decode cX6_file 52 = .ok (.aload_n 0, 1) := by decide +kernel
theorem dX6_file_53 : decode cX6_file 53 = .ok (.getfield 16, 3) := by decide +kernel
theorem dX6_file_56 : decode cX6_file 56 = .ok (.iload 5, 2) := by decide +kernel
theorem dX6_file_58 : decode cX6_file 58 = .ok (.baload, 1) := by decide +kernel
theorem dX6_file_59 : decode cX6_file 59 = .ok (.ifCond .eq 7, 3) := by decide +kernel
theorem dX6_file_62 : decode cX6_file 62 = .ok (.iconst 4, 1) := by decide +kernel
theorem dX6_file_63 : decode cX6_file 63 = .ok (.goto 4, 3) := by decide +kernel
theorem dX6_file_66 : decode cX6_file 66 = .ok (.iconst 0, 1) := by decide +kernel
theorem dX6_file_67 : decode cX6_file 67 = .ok (.invokevirtual 102, 3) := by decide +kernel
theorem dX6_file_70 : decode cX6_file 70 = .ok (.ifCond .eq 5, 3) := by decide +kernel
theorem dX6_file_73 : decode cX6_file 73 = .ok (.iconst (-1), 1) := by decide +kernel
theorem dX6_file_74 : decode cX6_file 74 = .ok (.ireturn, 1) := by decide +kernel
theorem dX6_file_75 : decode cX6_file 75 = .ok (.aload_n 0, 1) := by decide +kernel
theorem dX6_file_76 : decode cX6_file 76 = .ok (.iload_n 1, 1) := by decide +kernel
theorem dX6_file_77 : decode cX6_file 77 = .ok (.iload 5, 2) := by decide +kernel
theorem dX6_file_79 : decode cX6_file 79 = .ok (.bipush 30, 2) := by decide +kernel
theorem dX6_file_81 : decode cX6_file 81 = .ok (.invokevirtual 81, 3) := by decide +kernel
theorem dX6_file_84 : decode cX6_file 84 = .ok (.iload 5, 2) := by decide +kernel
theorem dX6_file_86 : decode cX6_file 86 = .ok (.ireturn, 1) := by decide +kernel
theorem dX6_write_0 : decode cX6_write 0 = .ok (.aload_n 0, 1) := by decide +kernel
theorem dX6_write_1 : decode cX6_write 1 = .ok (.iload_n 1, 1) := by decide +kernel
theorem dX6_write_2 : decode cX6_write 2 = .ok (.iload_n 2, 1) := by decide +kernel
theorem dX6_write_3 : decode cX6_write 3 = .ok (.aload_n 0, 1) := by decide +kernel
theorem dX6_write_4 : decode cX6_write 4 = .ok (.iload_n 1, 1) := by decide +kernel
theorem dX6_write_5 : decode cX6_write 5 = .ok (.invokevirtual 98, 3) := by decide +kernel
theorem dX6_write_8 : decode cX6_write 8 = .ok (.iconst 1, 1) := by decide +kernel
theorem dX6_write_9 : decode cX6_write 9 = .ok (.invokevirtual 185, 3) := by decide +kernel
theorem dX6_write_12 : decode cX6_write 12 = .ok (.istore 5, 2) := by decide +kernel
theorem dX6_write_14 : decode cX6_write 14 = .ok (.iload 5, 2) := by decide +kernel
theorem dX6_write_16 : decode cX6_write 16 = .ok (.ifCond .lt 30, 3) := by decide +kernel
theorem dX6_write_19 : decode cX6_write 19 = .ok (.aload_n 0, 1) := by decide +kernel
theorem dX6_write_20 : decode cX6_write 20 = .ok (.iload_n 3, 1) := by decide +kernel
theorem dX6_write_21 : decode cX6_write 21 = .ok (.ifCond .lt 14, 3) := by decide +kernel
theorem dX6_write_24 : decode cX6_write 24 = .ok (.iload_n 3, 1) := by decide +kernel
theorem dX6_write_25 : decode cX6_write 25 = .ok (.aload_n 0, 1) := by decide +kernel
theorem dX6_write_26 : decode cX6_write 26 = .ok (.getfield 24, 3) := by decide +kernel
theorem dX6_write_29 : decode cX6_write 29 = .ok (.iload 5, 2) := by decide +kernel
theorem dX6_write_31 : decode cX6_write 31 = .ok (.iaload, 1) := by decide +kernel
theorem dX6_write_32 : decode cX6_write 32 = .ok (.if_icmp .lt 7, 3) := by decide +kernel
theorem dX6_write_35 : decode cX6_write 35 = .ok (.iconst 5, 1) := by decide +kernel
theorem dX6_write_36 : decode cX6_write 36 = .ok (.goto 4, 3) := by decide +kernel
theorem dX6_write_39 : decode cX6_write 39 = .ok (.iconst 0, 1) := by decide +kernel
theorem dX6_write_40 : decode cX6_write 40 = .ok (.invokevirtual 102, 3) := by decide +kernel
theorem dX6_write_43 : decode cX6_write 43 = .ok (.ifCond .eq 5, 3) := by decide +kernel
theorem dX6_write_46 : decode cX6_write 46 = .ok (.iconst 0, 1) := by decide +kernel
theorem dX6_write_47 : decode cX6_write 47 = .ok (.ireturn, 1) := by decide +kernel
theorem dX6_write_48 : decode cX6_write 48 = .ok (.aload_n 0, 1) := by decide +kernel
theorem dX6_write_49 : decode cX6_write 49 = .ok (.getfield 28, 3) := by decide +kernel
theorem dX6_write_52 : decode cX6_write 52 = .ok (.bipush 64, 2) := by decide +kernel
theorem dX6_write_54 : decode cX6_write 54 = .ok (.iload 5, 2) := by decide +kernel
theorem dX6_write_56 : decode cX6_write 56 = .ok (.imul, 1) := by decide +kernel
theorem dX6_write_57 : decode cX6_write 57 = .ok (.iload_n 3, 1) := by decide +kernel
theorem dX6_write_58 : decode cX6_write 58 = .ok (.iadd, 1) := by decide +kernel
theorem dX6_write_59 : decode cX6_write 59 = .ok (.iload 4, 2) := by decide +kernel
theorem dX6_write_61 : decode cX6_write 61 = .ok (.iastore, 1) := by decide +kernel
theorem dX6_write_62 : decode cX6_write 62 = .ok (.aload_n 0, 1) := by decide +kernel
theorem dX6_write_63 : decode cX6_write 63 = .ok (.getfield 24, 3) := by decide +kernel
theorem dX6_write_66 : decode cX6_write 66 = .ok (.iload 5, 2) := by decide +kernel
theorem dX6_write_68 : decode cX6_write 68 = .ok (.iaload, 1) := by decide +kernel
theorem dX6_write_69 : decode cX6_write 69 = .ok (.ireturn, 1) := by decide +kernel
theorem dX6_append_0 : decode cX6_append 0 = .ok (.aload_n 0, 1) := by decide +kernel
theorem dX6_append_1 : decode cX6_append 1 = .ok (.iload_n 1, 1) := by decide +kernel
theorem dX6_append_2 : decode cX6_append 2 = .ok (.iload_n 2, 1) := by decide +kernel
theorem dX6_append_3 : decode cX6_append 3 = .ok (.aload_n 0, 1) := by decide +kernel
theorem dX6_append_4 : decode cX6_append 4 = .ok (.iload_n 1, 1) := by decide +kernel
theorem dX6_append_5 : decode cX6_append 5 = .ok (.invokevirtual 98, 3) := by decide +kernel
theorem dX6_append_8 : decode cX6_append 8 = .ok (.iconst 1, 1) := by decide +kernel
theorem dX6_append_9 : decode cX6_append 9 = .ok (.invokevirtual 185, 3) := by decide +kernel
theorem dX6_append_12 : decode cX6_append 12 = .ok (.istore 4, 2) := by decide +kernel
theorem dX6_append_14 : decode cX6_append 14 = .ok (.iload 4, 2) := by decide +kernel
theorem dX6_append_16 : decode cX6_append 16 = .ok (.ifCond .lt 27, 3) := by decide +kernel
theorem dX6_append_19 : decode cX6_append 19 = .ok (.aload_n 0, 1) := by decide +kernel
theorem dX6_append_20 : decode cX6_append 20 = .ok (.aload_n 0, 1) := by decide +kernel
theorem dX6_append_21 : decode cX6_append 21 = .ok (.getfield 24, 3) := by decide +kernel
theorem dX6_append_24 : decode cX6_append 24 = .ok (.iload 4, 2) := by decide +kernel
theorem dX6_append_26 : decode cX6_append 26 = .ok (.iaload, 1) := by decide +kernel
theorem dX6_append_27 : decode cX6_append 27 = .ok (.bipush 64, 2) := by decide +kernel
theorem dX6_append_29 : decode cX6_append 29 = .ok (.if_icmp .ne 7, 3) := by decide +kernel
theorem dX6_append_32 : decode cX6_append 32 = .ok (.iconst 4, 1) := by decide +kernel
theorem dX6_append_33 : decode cX6_append 33 = .ok (.goto 4, 3) := by decide +kernel
theorem dX6_append_36 : decode cX6_append 36 = .ok (.iconst 0, 1) := by decide +kernel
theorem dX6_append_37 : decode cX6_append 37 = .ok (.invokevirtual 102, 3) := by decide +kernel
theorem dX6_append_40 : decode cX6_append 40 = .ok (.ifCond .eq 5, 3) := by decide +kernel
theorem dX6_append_43 : decode cX6_append 43 = .ok (.iconst 0, 1) := by decide +kernel
theorem dX6_append_44 : decode cX6_append 44 = .ok (.ireturn, 1) := by decide +kernel
theorem dX6_append_45 : decode cX6_append 45 = .ok (.aload_n 0, 1) := by decide +kernel
theorem dX6_append_46 : decode cX6_append 46 = .ok (.getfield 28, 3) := by decide +kernel
theorem dX6_append_49 : decode cX6_append 49 = .ok (.bipush 64, 2) := by decide +kernel
theorem dX6_append_51 : decode cX6_append 51 = .ok (.iload 4, 2) := by decide +kernel
theorem dX6_append_53 : decode cX6_append 53 = .ok (.imul, 1) := by decide +kernel
theorem dX6_append_54 : decode cX6_append 54 = .ok (.aload_n 0, 1) := by decide +kernel
theorem dX6_append_55 : decode cX6_append 55 = .ok (.getfield 24, 3) := by decide +kernel
theorem dX6_append_58 : decode cX6_append 58 = .ok (.iload 4, 2) := by decide +kernel
theorem dX6_append_60 : decode cX6_append 60 = .ok (.iaload, 1) := by decide +kernel
theorem dX6_append_61 : decode cX6_append 61 = .ok (.iadd, 1) := by decide +kernel
theorem dX6_append_62 : decode cX6_append 62 = .ok (.iload_n 3, 1) := by decide +kernel
theorem dX6_append_63 : decode cX6_append 63 = .ok (.iastore, 1) := by decide +kernel
theorem dX6_append_64 : decode cX6_append 64 = .ok (.aload_n 0, 1) := by decide +kernel
theorem dX6_append_65 : decode cX6_append 65 = .ok (.getfield 24, 3) := by decide +kernel
theorem dX6_append_68 : decode cX6_append 68 = .ok (.iload 4, 2) := by decide +kernel
theorem dX6_append_70 : decode cX6_append 70 = .ok (.dup2, 1) := by decide +kernel
theorem dX6_append_71 : decode cX6_append 71 = .ok (.iaload, 1) := by decide +kernel
theorem dX6_append_72 : decode cX6_append 72 = .ok (.iconst 1, 1) := by decide +kernel
theorem dX6_append_73 : decode cX6_append 73 = .ok (.iadd, 1) := by decide +kernel
theorem dX6_append_74 : decode cX6_append 74 = .ok (.iastore, 1) := by decide +kernel
theorem dX6_append_75 : decode cX6_append 75 = .ok (.aload_n 0, 1) := by decide +kernel
theorem dX6_append_76 : decode cX6_append 76 = .ok (.getfield 24, 3) := by decide +kernel
theorem dX6_append_79 : decode cX6_append 79 = .ok (.iload 4, 2) := by decide +kernel
theorem dX6_append_81 : decode cX6_append 81 = .ok (.iaload, 1) := by decide +kernel
theorem dX6_append_82 : decode cX6_append 82 = .ok (.ireturn, 1) := by decide +kernel
theorem dX6_cut_0 : decode cX6_cut 0 = .ok (.aload_n 0, 1) := by decide +kernel
theorem dX6_cut_1 : decode cX6_cut 1 = .ok (.iload_n 1, 1) := by decide +kernel
theorem dX6_cut_2 : decode cX6_cut 2 = .ok (.iload_n 2, 1) := by decide +kernel
theorem dX6_cut_3 : decode cX6_cut 3 = .ok (.aload_n 0, 1) := by decide +kernel
theorem dX6_cut_4 : decode cX6_cut 4 = .ok (.iload_n 1, 1) := by decide +kernel
theorem dX6_cut_5 : decode cX6_cut 5 = .ok (.invokevirtual 98, 3) := by decide +kernel
theorem dX6_cut_8 : decode cX6_cut 8 = .ok (.iload_n 3, 1) := by decide +kernel
theorem dX6_cut_9 : decode cX6_cut 9 = .ok (.ifCond .lt 13, 3) := by decide +kernel
theorem dX6_cut_12 : decode cX6_cut 12 = .ok (.iload_n 3, 1) := by decide +kernel
theorem dX6_cut_13 : decode cX6_cut 13 = .ok (.bipush 64, 2) := by decide +kernel
theorem dX6_cut_15 : decode cX6_cut 15 = .ok (.if_icmp .gt 7, 3) := by decide +kernel
theorem dX6_cut_18 : decode cX6_cut 18 = .ok (.iconst 1, 1) := by decide +kernel
theorem dX6_cut_19 : decode cX6_cut 19 = .ok (.goto 4, 3) := by decide +kernel
theorem dX6_cut_22 : decode cX6_cut 22 = .ok (.iconst 0, 1) := by decide +kernel
theorem dX6_cut_23 : decode cX6_cut 23 = .ok (.invokevirtual 185, 3) := by decide +kernel
theorem dX6_cut_26 : decode cX6_cut 26 = .ok (.istore 4, 2) := by decide +kernel
theorem dX6_cut_28 : decode cX6_cut 28 = .ok (.iload 4, 2) := by decide +kernel
theorem dX6_cut_30 : decode cX6_cut 30 = .ok (.ifCond .lt 26, 3) := by decide +kernel
theorem dX6_cut_33 : decode cX6_cut 33 = .ok (.aload_n 0, 1) := by decide +kernel
theorem dX6_cut_34 : decode cX6_cut 34 = .ok (.iload_n 3, 1) := by decide +kernel
theorem dX6_cut_35 : decode cX6_cut 35 = .ok (.aload_n 0, 1) := by decide +kernel
theorem dX6_cut_36 : decode cX6_cut 36 = .ok (.getfield 24, 3) := by decide +kernel
theorem dX6_cut_39 : decode cX6_cut 39 = .ok (.iload 4, 2) := by decide +kernel
theorem dX6_cut_41 : decode cX6_cut 41 = .ok (.iaload, 1) := by decide +kernel
theorem dX6_cut_42 : decode cX6_cut 42 = .ok (.if_icmp .le 7, 3) := by decide +kernel
theorem dX6_cut_45 : decode cX6_cut 45 = .ok (.iconst 5, 1) := by decide +kernel
theorem dX6_cut_46 : decode cX6_cut 46 = .ok (.goto 4, 3) := by decide +kernel
theorem dX6_cut_49 : decode cX6_cut 49 = .ok (.iconst 0, 1) := by decide +kernel
theorem dX6_cut_50 : decode cX6_cut 50 = .ok (.invokevirtual 102, 3) := by decide +kernel
theorem dX6_cut_53 : decode cX6_cut 53 = .ok (.ifCond .eq 5, 3) := by decide +kernel
theorem dX6_cut_56 : decode cX6_cut 56 = .ok (.iconst 0, 1) := by decide +kernel
theorem dX6_cut_57 : decode cX6_cut 57 = .ok (.ireturn, 1) := by decide +kernel
theorem dX6_cut_58 : decode cX6_cut 58 = .ok (.aload_n 0, 1) := by decide +kernel
theorem dX6_cut_59 : decode cX6_cut 59 = .ok (.getfield 24, 3) := by decide +kernel
theorem dX6_cut_62 : decode cX6_cut 62 = .ok (.iload 4, 2) := by decide +kernel
theorem dX6_cut_64 : decode cX6_cut 64 = .ok (.iaload, 1) := by decide +kernel
theorem dX6_cut_65 : decode cX6_cut 65 = .ok (.iload_n 3, 1) := by decide +kernel
theorem dX6_cut_66 : decode cX6_cut 66 = .ok (.isub, 1) := by decide +kernel
theorem dX6_cut_67 : decode cX6_cut 67 = .ok (.istore 5, 2) := by decide +kernel
theorem dX6_cut_69 : decode cX6_cut 69 = .ok (.iload_n 3, 1) := by decide +kernel
theorem dX6_cut_70 : decode cX6_cut 70 = .ok (.istore 6, 2) := by decide +kernel
theorem dX6_cut_72 : decode cX6_cut 72 = .ok (.iload 6, 2) := by decide +kernel
theorem dX6_cut_74 : decode cX6_cut 74 = .ok (.bipush 64, 2) := by decide +kernel
theorem dX6_cut_76 : decode cX6_cut 76 = .ok (.if_icmp .ge 23, 3) := by decide +kernel
theorem dX6_cut_79 : decode cX6_cut 79 = .ok (.aload_n 0, 1) := by decide +kernel
theorem dX6_cut_80 : decode cX6_cut 80 = .ok (.getfield 28, 3) := by decide +kernel
theorem dX6_cut_83 : decode cX6_cut 83 = .ok (.bipush 64, 2) := by decide +kernel
theorem dX6_cut_85 : decode cX6_cut 85 = .ok (.iload 4, 2) := by decide +kernel
theorem dX6_cut_87 : decode cX6_cut 87 = .ok (.imul, 1) := by decide +kernel
theorem dX6_cut_88 : decode cX6_cut 88 = .ok (.iload 6, 2) := by decide +kernel
theorem dX6_cut_90 : decode cX6_cut 90 = .ok (.iadd, 1) := by decide +kernel
theorem dX6_cut_91 : decode cX6_cut 91 = .ok (.iconst 0, 1) := by decide +kernel
theorem dX6_cut_92 : decode cX6_cut 92 = .ok (.iastore, 1) := by decide +kernel
theorem dX6_cut_93 : decode cX6_cut 93 = .ok (.iinc 6 1, 3) := by decide +kernel
theorem dX6_cut_96 : decode cX6_cut 96 = .ok (.goto (-24), 3) := by decide +kernel
theorem dX6_cut_99 : decode cX6_cut 99 = .ok (.aload_n 0, 1) := by decide +kernel
theorem dX6_cut_100 : decode cX6_cut 100 = .ok (.getfield 24, 3) := by decide +kernel
theorem dX6_cut_103 : decode cX6_cut 103 = .ok (.iload 4, 2) := by decide +kernel
theorem dX6_cut_105 : decode cX6_cut 105 = .ok (.iload_n 3, 1) := by decide +kernel
theorem dX6_cut_106 : decode cX6_cut 106 = .ok (.iastore, 1) := by decide +kernel
theorem dX6_cut_107 : decode cX6_cut 107 = .ok (.iload 5, 2) := by decide +kernel
theorem dX6_cut_109 : decode cX6_cut 109 = .ok (.ireturn, 1) := by decide +kernel
theorem dX6_read_0 : decode cX6_read 0 = .ok (.aload_n 0, 1) := by decide +kernel
theorem dX6_read_1 : decode cX6_read 1 = .ok (.iload_n 1, 1) := by decide +kernel
theorem dX6_read_2 : decode cX6_read 2 = .ok (.iload_n 2, 1) := by decide +kernel
theorem dX6_read_3 : decode cX6_read 3 = .ok (.aload_n 0, 1) := by decide +kernel
theorem dX6_read_4 : decode cX6_read 4 = .ok (.iload_n 1, 1) := by decide +kernel
theorem dX6_read_5 : decode cX6_read 5 = .ok (.invokevirtual 189, 3) := by decide +kernel
theorem dX6_read_8 : decode cX6_read 8 = .ok (.iconst 1, 1) := by decide +kernel
theorem dX6_read_9 : decode cX6_read 9 = .ok (.invokevirtual 185, 3) := by decide +kernel
theorem dX6_read_12 : decode cX6_read 12 = .ok (.istore 4, 2) := by decide +kernel
theorem dX6_read_14 : decode cX6_read 14 = .ok (.iload 4, 2) := by decide +kernel
theorem dX6_read_16 : decode cX6_read 16 = .ok (.ifCond .lt 30, 3) := by decide +kernel
theorem dX6_read_19 : decode cX6_read 19 = .ok (.aload_n 0, 1) := by decide +kernel
theorem dX6_read_20 : decode cX6_read 20 = .ok (.iload_n 3, 1) := by decide +kernel
theorem dX6_read_21 : decode cX6_read 21 = .ok (.ifCond .lt 14, 3) := by decide +kernel
theorem dX6_read_24 : decode cX6_read 24 = .ok (.iload_n 3, 1) := by decide +kernel
theorem dX6_read_25 : decode cX6_read 25 = .ok (.aload_n 0, 1) := by decide +kernel
theorem dX6_read_26 : decode cX6_read 26 = .ok (.getfield 24, 3) := by decide +kernel
theorem dX6_read_29 : decode cX6_read 29 = .ok (.iload 4, 2) := by decide +kernel
theorem dX6_read_31 : decode cX6_read 31 = .ok (.iaload, 1) := by decide +kernel
theorem dX6_read_32 : decode cX6_read 32 = .ok (.if_icmp .lt 7, 3) := by decide +kernel
theorem dX6_read_35 : decode cX6_read 35 = .ok (.iconst 5, 1) := by decide +kernel
theorem dX6_read_36 : decode cX6_read 36 = .ok (.goto 4, 3) := by decide +kernel
theorem dX6_read_39 : decode cX6_read 39 = .ok (.iconst 0, 1) := by decide +kernel
theorem dX6_read_40 : decode cX6_read 40 = .ok (.invokevirtual 102, 3) := by decide +kernel
theorem dX6_read_43 : decode cX6_read 43 = .ok (.ifCond .eq 5, 3) := by decide +kernel
theorem dX6_read_46 : decode cX6_read 46 = .ok (.iconst 0, 1) := by decide +kernel
theorem dX6_read_47 : decode cX6_read 47 = .ok (.ireturn, 1) := by decide +kernel
theorem dX6_read_48 : decode cX6_read 48 = .ok (.aload_n 0, 1) := by decide +kernel
theorem dX6_read_49 : decode cX6_read 49 = .ok (.iload_n 1, 1) := by decide +kernel
theorem dX6_read_50 : decode cX6_read 50 = .ok (.iload 4, 2) := by decide +kernel
theorem dX6_read_52 : decode cX6_read 52 = .ok (.bipush 31, 2) := by decide +kernel
theorem dX6_read_54 : decode cX6_read 54 = .ok (.iload_n 3, 1) := by decide +kernel
theorem dX6_read_55 : decode cX6_read 55 = .ok (.iadd, 1) := by decide +kernel
theorem dX6_read_56 : decode cX6_read 56 = .ok (.invokevirtual 81, 3) := by decide +kernel
theorem dX6_read_59 : decode cX6_read 59 = .ok (.aload_n 0, 1) := by decide +kernel
theorem dX6_read_60 : decode cX6_read 60 = .ok (.getfield 28, 3) := by decide +kernel
theorem dX6_read_63 : decode cX6_read 63 = .ok (.bipush 64, 2) := by decide +kernel
theorem dX6_read_65 : decode cX6_read 65 = .ok (.iload 4, 2) := by decide +kernel
theorem dX6_read_67 : decode cX6_read 67 = .ok (.imul, 1) := by decide +kernel
theorem dX6_read_68 : decode cX6_read 68 = .ok (.iload_n 3, 1) := by decide +kernel
theorem dX6_read_69 : decode cX6_read 69 = .ok (.iadd, 1) := by decide +kernel
theorem dX6_read_70 : decode cX6_read 70 = .ok (.iaload, 1) := by decide +kernel
theorem dX6_read_71 : decode cX6_read 71 = .ok (.ireturn, 1) := by decide +kernel
theorem dX6_length_0 : decode cX6_length 0 = .ok (.aload_n 0, 1) := by decide +kernel
theorem dX6_length_1 : decode cX6_length 1 = .ok (.iload_n 1, 1) := by decide +kernel
theorem dX6_length_2 : decode cX6_length 2 = .ok (.iload_n 2, 1) := by decide +kernel
theorem dX6_length_3 : decode cX6_length 3 = .ok (.aload_n 0, 1) := by decide +kernel
theorem dX6_length_4 : decode cX6_length 4 = .ok (.iload_n 1, 1) := by decide +kernel
theorem dX6_length_5 : decode cX6_length 5 = .ok (.invokevirtual 189, 3) := by decide +kernel
theorem dX6_length_8 : decode cX6_length 8 = .ok (.iconst 1, 1) := by decide +kernel
theorem dX6_length_9 : decode cX6_length 9 = .ok (.invokevirtual 185, 3) := by decide +kernel
theorem dX6_length_12 : decode cX6_length 12 = .ok (.istore_n 3, 1) := by decide +kernel
theorem dX6_length_13 : decode cX6_length 13 = .ok (.iload_n 3, 1) := by decide +kernel
theorem dX6_length_14 : decode cX6_length 14 = .ok (.ifCond .ge 7, 3) := by decide +kernel
theorem dX6_length_17 : decode cX6_length 17 = .ok (.iconst 0, 1) := by decide +kernel
theorem dX6_length_18 : decode cX6_length 18 = .ok (.goto 9, 3) := by decide +kernel
theorem dX6_length_21 : decode cX6_length 21 = .ok (.aload_n 0, 1) := by decide +kernel
theorem dX6_length_22 : decode cX6_length 22 = .ok (.getfield 24, 3) := by decide +kernel
theorem dX6_length_25 : decode cX6_length 25 = .ok (.iload_n 3, 1) := by decide +kernel
theorem dX6_length_26 : decode cX6_length 26 = .ok (.iaload, 1) := by decide +kernel
theorem dX6_length_27 : decode cX6_length 27 = .ok (.ireturn, 1) := by decide +kernel
theorem dX6_kind_0 : decode cX6_kind 0 = .ok (.aload_n 0, 1) := by decide +kernel
theorem dX6_kind_1 : decode cX6_kind 1 = .ok (.aload_n 0, 1) := by decide +kernel
theorem dX6_kind_2 : decode cX6_kind 2 = .ok (.iload_n 1, 1) := by decide +kernel
theorem dX6_kind_3 : decode cX6_kind 3 = .ok (.invokevirtual 189, 3) := by decide +kernel
theorem dX6_kind_6 : decode cX6_kind 6 = .ok (.ifCond .ne 7, 3) := by decide +kernel
theorem dX6_kind_9 : decode cX6_kind 9 = .ok (.iconst 1, 1) := by decide +kernel
theorem dX6_kind_10 : decode cX6_kind 10 = .ok (.goto 15, 3) := by decide +kernel
theorem dX6_kind_13 : decode cX6_kind 13 = .ok (.iload_n 2, 1) := by decide +kernel
theorem dX6_kind_14 : decode cX6_kind 14 = .ok (.invokestatic 166, 3) := by decide +kernel
theorem dX6_kind_17 : decode cX6_kind 17 = .ok (.ifCond .ne 7, 3) := by decide +kernel
theorem dX6_kind_20 : decode cX6_kind 20 = .ok (.iconst 2, 1) := by decide +kernel
theorem dX6_kind_21 : decode cX6_kind 21 = .ok (.goto 4, 3) := by decide +kernel
theorem dX6_kind_24 : decode cX6_kind 24 = .ok (.iconst 0, 1) := by decide +kernel
theorem dX6_kind_25 : decode cX6_kind 25 = .ok (.invokevirtual 102, 3) := by decide +kernel
theorem dX6_kind_28 : decode cX6_kind 28 = .ok (.ifCond .eq 5, 3) := by decide +kernel
theorem dX6_kind_31 : decode cX6_kind 31 = .ok (.iconst 0, 1) := by decide +kernel
theorem dX6_kind_32 : decode cX6_kind 32 = .ok (.ireturn, 1) := by decide +kernel
theorem dX6_kind_33 : decode cX6_kind 33 = .ok (.aload_n 0, 1) := by decide +kernel
theorem dX6_kind_34 : decode cX6_kind 34 = .ok (.iload_n 1, 1) := by decide +kernel
theorem dX6_kind_35 : decode cX6_kind 35 = .ok (.iload_n 2, 1) := by decide +kernel
theorem dX6_kind_36 : decode cX6_kind 36 = .ok (.invokevirtual 163, 3) := by decide +kernel
theorem dX6_kind_39 : decode cX6_kind 39 = .ok (.istore_n 3, 1) := by decide +kernel
theorem dX6_kind_40 : decode cX6_kind 40 = .ok (.iload_n 3, 1) := by decide +kernel
theorem dX6_kind_41 : decode cX6_kind 41 = .ok (.ifCond .ge 7, 3) := by decide +kernel
theorem dX6_kind_44 : decode cX6_kind 44 = .ok (.iconst 0, 1) := by decide +kernel
theorem dX6_kind_45 : decode cX6_kind 45 = .ok (.goto 17, 3) := by decide +kernel
theorem dX6_kind_48 : decode cX6_kind 48 = .ok (.aload_n 0, 1) := by decide +kernel
theorem dX6_kind_49 : decode cX6_kind 49 = .ok (.getfield 16, 3) := by decide +kernel
theorem dX6_kind_52 : decode cX6_kind 52 = .ok (.iload_n 3, 1) := by decide +kernel
theorem dX6_kind_53 : decode cX6_kind 53 = .ok (.baload, 1) := by decide +kernel
theorem dX6_kind_54 : decode cX6_kind 54 = .ok (.ifCond .eq 7, 3) := by decide +kernel
theorem dX6_kind_57 : decode cX6_kind 57 = .ok (.iconst 1, 1) := by decide +kernel
theorem dX6_kind_58 : decode cX6_kind 58 = .ok (.goto 4, 3) := by decide +kernel
theorem dX6_kind_61 : decode cX6_kind 61 = .ok (.iconst 2, 1) := by decide +kernel
theorem dX6_kind_62 : decode cX6_kind 62 = .ok (.ireturn, 1) := by decide +kernel
theorem dX6_list_0 : decode cX6_list 0 = .ok (.aload_n 0, 1) := by decide +kernel
theorem dX6_list_1 : decode cX6_list 1 = .ok (.aload_n 0, 1) := by decide +kernel
theorem dX6_list_2 : decode cX6_list 2 = .ok (.iload_n 1, 1) := by decide +kernel
theorem dX6_list_3 : decode cX6_list 3 = .ok (.invokevirtual 189, 3) := by decide +kernel
theorem dX6_list_6 : decode cX6_list 6 = .ok (.ifCond .ne 7, 3) := by decide +kernel
theorem dX6_list_9 : decode cX6_list 9 = .ok (.iconst 1, 1) := by decide +kernel
theorem dX6_list_10 : decode cX6_list 10 = .ok (.goto 15, 3) := by decide +kernel
theorem dX6_list_13 : decode cX6_list 13 = .ok (.iload_n 2, 1) := by decide +kernel
theorem dX6_list_14 : decode cX6_list 14 = .ok (.invokestatic 166, 3) := by decide +kernel
theorem dX6_list_17 : decode cX6_list 17 = .ok (.ifCond .ne 7, 3) := by decide +kernel
theorem dX6_list_20 : decode cX6_list 20 = .ok (.iconst 2, 1) := by decide +kernel
theorem dX6_list_21 : decode cX6_list 21 = .ok (.goto 4, 3) := by decide +kernel
theorem dX6_list_24 : decode cX6_list 24 = .ok (.iconst 0, 1) := by decide +kernel
theorem dX6_list_25 : decode cX6_list 25 = .ok (.invokevirtual 102, 3) := by decide +kernel
theorem dX6_list_28 : decode cX6_list 28 = .ok (.ifCond .eq 5, 3) := by decide +kernel
theorem dX6_list_31 : decode cX6_list 31 = .ok (.iconst 0, 1) := by decide +kernel
theorem dX6_list_32 : decode cX6_list 32 = .ok (.ireturn, 1) := by decide +kernel
theorem dX6_list_33 : decode cX6_list 33 = .ok (.aload_n 0, 1) := by decide +kernel
theorem dX6_list_34 : decode cX6_list 34 = .ok (.iload_n 1, 1) := by decide +kernel
theorem dX6_list_35 : decode cX6_list 35 = .ok (.iload_n 2, 1) := by decide +kernel
theorem dX6_list_36 : decode cX6_list 36 = .ok (.invokevirtual 163, 3) := by decide +kernel
theorem dX6_list_39 : decode cX6_list 39 = .ok (.istore_n 3, 1) := by decide +kernel
theorem dX6_list_40 : decode cX6_list 40 = .ok (.aload_n 0, 1) := by decide +kernel
theorem dX6_list_41 : decode cX6_list 41 = .ok (.iload_n 3, 1) := by decide +kernel
theorem dX6_list_42 : decode cX6_list 42 = .ok (.ifCond .ge 7, 3) := by decide +kernel
theorem dX6_list_45 : decode cX6_list 45 = .ok (.iconst 3, 1) := by decide +kernel
theorem dX6_list_46 : decode cX6_list 46 = .ok (.goto 17, 3) := by decide +kernel
theorem dX6_list_49 : decode cX6_list 49 = .ok (.aload_n 0, 1) := by decide +kernel
theorem dX6_list_50 : decode cX6_list 50 = .ok (.getfield 16, 3) := by decide +kernel
theorem dX6_list_53 : decode cX6_list 53 = .ok (.iload_n 3, 1) := by decide +kernel
theorem dX6_list_54 : decode cX6_list 54 = .ok (.baload, 1) := by decide +kernel
theorem dX6_list_55 : decode cX6_list 55 = .ok (.ifCond .ne 7, 3) := by decide +kernel
theorem dX6_list_58 : decode cX6_list 58 = .ok (.iconst 4, 1) := by decide +kernel
theorem dX6_list_59 : decode cX6_list 59 = .ok (.goto 4, 3) := by decide +kernel
theorem dX6_list_62 : decode cX6_list 62 = .ok (.iconst 0, 1) := by decide +kernel
theorem dX6_list_63 : decode cX6_list 63 = .ok (.invokevirtual 102, 3) := by decide +kernel
theorem dX6_list_66 : decode cX6_list 66 = .ok (.ifCond .eq 5, 3) := by decide +kernel
theorem dX6_list_69 : decode cX6_list 69 = .ok (.iconst 0, 1) := by decide +kernel
theorem dX6_list_70 : decode cX6_list 70 = .ok (.ireturn, 1) := by decide +kernel
theorem dX6_list_71 : decode cX6_list 71 = .ok (.aload_n 0, 1) := by decide +kernel
theorem dX6_list_72 : decode cX6_list 72 = .ok (.iload_n 1, 1) := by decide +kernel
theorem dX6_list_73 : decode cX6_list 73 = .ok (.iload_n 3, 1) := by decide +kernel
theorem dX6_list_74 : decode cX6_list 74 = .ok (.invokevirtual 172, 3) := by decide +kernel
theorem dX6_list_77 : decode cX6_list 77 = .ok (.aload_n 0, 1) := by decide +kernel
theorem dX6_list_78 : decode cX6_list 78 = .ok (.iload_n 3, 1) := by decide +kernel
theorem dX6_list_79 : decode cX6_list 79 = .ok (.invokevirtual 175, 3) := by decide +kernel
theorem dX6_list_82 : decode cX6_list 82 = .ok (.ireturn, 1) := by decide +kernel
