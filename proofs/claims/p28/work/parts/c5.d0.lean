section DLH0
theorem dL_low_0 : decode cL_low 0 = .ok (.iload_n 0, 1) := by decide +kernel
theorem dL_low_1 : decode cL_low 1 = .ok (.ldc 7, 2) := by decide +kernel
theorem dL_low_3 : decode cL_low 3 = .ok (.iand, 1) := by decide +kernel
theorem dL_low_4 : decode cL_low 4 = .ok (.iload_n 1, 1) := by decide +kernel
theorem dL_low_5 : decode cL_low 5 = .ok (.irem, 1) := by decide +kernel
theorem dL_low_6 : decode cL_low 6 = .ok (.ireturn, 1) := by decide +kernel
theorem dL_cell_0 : decode cL_cell 0 = .ok (.iload_n 1, 1) := by decide +kernel
theorem dL_cell_1 : decode cL_cell 1 = .ok (.aload_n 0, 1) := by decide +kernel
theorem dL_cell_2 : decode cL_cell 2 = .ok (.arraylength, 1) := by decide +kernel
theorem dL_cell_3 : decode cL_cell 3 = .ok (.if_icmp .ge 9, 3) := by decide +kernel
theorem dL_cell_6 : decode cL_cell 6 = .ok (.aload_n 0, 1) := by decide +kernel
theorem dL_cell_7 : decode cL_cell 7 = .ok (.iload_n 1, 1) := by decide +kernel
theorem dL_cell_8 : decode cL_cell 8 = .ok (.iaload, 1) := by decide +kernel
theorem dL_cell_9 : decode cL_cell 9 = .ok (.goto 11, 3) := by decide +kernel
theorem dL_cell_12 : decode cL_cell 12 = .ok (.ldc 8, 2) := by decide +kernel
theorem dL_cell_14 : decode cL_cell 14 = .ok (.iload_n 1, 1) := by decide +kernel
theorem dL_cell_15 : decode cL_cell 15 = .ok (.imul, 1) := by decide +kernel
theorem dL_cell_16 : decode cL_cell 16 = .ok (.sipush 977, 3) := by decide +kernel
theorem dL_cell_19 : decode cL_cell 19 = .ok (.iadd, 1) := by decide +kernel
theorem dL_cell_20 : decode cL_cell 20 = .ok (.ireturn, 1) := by decide +kernel
theorem dL_isMember_0 : decode cL_isMember 0 = .ok (.aload_n 0, 1) := by decide +kernel
theorem dL_isMember_1 : decode cL_isMember 1 = .ok (.iload_n 1, 1) := by decide +kernel
theorem dL_isMember_2 : decode cL_isMember 2 = .ok (.iconst 0, 1) := by decide +kernel
theorem dL_isMember_3 : decode cL_isMember 3 = .ok (.invokevirtual 9, 3) := by decide +kernel
theorem dL_isMember_6 : decode cL_isMember 6 = .ok (.ifCond .lt 7, 3) := by decide +kernel
theorem dL_isMember_9 : decode cL_isMember 9 = .ok (.iconst 1, 1) := by decide +kernel
theorem dL_isMember_10 : decode cL_isMember 10 = .ok (.goto 4, 3) := by decide +kernel
theorem dL_isMember_13 : decode cL_isMember 13 = .ok (.iconst 0, 1) := by decide +kernel
theorem dL_isMember_14 : decode cL_isMember 14 = .ok (.ireturn, 1) := by decide +kernel
theorem dL_isMember_15 : decode cL_isMember 15 = .ok (.astore_n 2, 1) := by decide +kernel
theorem dL_isMember_16 : decode cL_isMember 16 = .ok (.iconst 0, 1) := by decide +kernel
theorem dL_isMember_17 : decode cL_isMember 17 = .ok (.ireturn, 1) := by decide +kernel
theorem dL_lend_0 : decode cL_lend 0 = .ok (.aload_n 0, 1) := by decide +kernel
theorem dL_lend_1 : decode cL_lend 1 = .ok (.iload_n 1, 1) := by decide +kernel
theorem dL_lend_2 : decode cL_lend 2 = .ok (.iload_n 2, 1) := by decide +kernel
theorem dL_lend_3 : decode cL_lend 3 = .ok (.iload_n 3, 1) := by decide +kernel
theorem dL_lend_4 : decode cL_lend 4 = .ok (.invokevirtual 17, 3) := by decide +kernel
theorem dL_lend_7 : decode cL_lend 7 = .ok (.ireturn, 1) := by decide +kernel
theorem dL_lend_8 : decode cL_lend 8 = .ok (.astore 4, 2) := by decide +kernel
theorem dL_lend_10 : decode cL_lend 10 = .ok (.bipush (-3), 2) := by decide +kernel
theorem dL_lend_12 : decode cL_lend 12 = .ok (.ireturn, 1) := by decide +kernel
theorem dL_payBack_0 : decode cL_payBack 0 = .ok (.aload_n 0, 1) := by decide +kernel
theorem dL_payBack_1 : decode cL_payBack 1 = .ok (.iload_n 1, 1) := by decide +kernel
theorem dL_payBack_2 : decode cL_payBack 2 = .ok (.iload_n 2, 1) := by decide +kernel
theorem dL_payBack_3 : decode cL_payBack 3 = .ok (.invokevirtual 23, 3) := by decide +kernel
theorem dL_payBack_6 : decode cL_payBack 6 = .ok (.ireturn, 1) := by decide +kernel
theorem dL_payBack_7 : decode cL_payBack 7 = .ok (.astore_n 3, 1) := by decide +kernel
theorem dL_payBack_8 : decode cL_payBack 8 = .ok (.bipush (-3), 2) := by decide +kernel
theorem dL_payBack_10 : decode cL_payBack 10 = .ok (.ireturn, 1) := by decide +kernel
theorem dL_help_0 : decode cL_help 0 = .ok (.aload_n 0, 1) := by decide +kernel
theorem dL_help_1 : decode cL_help 1 = .ok (.iload_n 1, 1) := by decide +kernel
theorem dL_help_2 : decode cL_help 2 = .ok (.iload_n 2, 1) := by decide +kernel
theorem dL_help_3 : decode cL_help 3 = .ok (.invokevirtual 26, 3) := by decide +kernel
theorem dL_help_6 : decode cL_help 6 = .ok (.ireturn, 1) := by decide +kernel
theorem dL_help_7 : decode cL_help 7 = .ok (.astore_n 3, 1) := by decide +kernel
theorem dL_help_8 : decode cL_help 8 = .ok (.bipush (-3), 2) := by decide +kernel
theorem dL_help_10 : decode cL_help 10 = .ok (.ireturn, 1) := by decide +kernel
theorem dL_cycle_0 : decode cL_cycle 0 = .ok (.aload_n 0, 1) := by decide +kernel
theorem dL_cycle_1 : decode cL_cycle 1 = .ok (.invokevirtual 29, 3) := by decide +kernel
theorem dL_cycle_4 : decode cL_cycle 4 = .ok (.ireturn, 1) := by decide +kernel
theorem dL_cycle_5 : decode cL_cycle 5 = .ok (.astore_n 1, 1) := by decide +kernel
theorem dL_cycle_6 : decode cL_cycle 6 = .ok (.bipush (-3), 2) := by decide +kernel
theorem dL_cycle_8 : decode cL_cycle 8 = .ok (.ireturn, 1) := by decide +kernel
theorem dL_join_0 : decode cL_join 0 = .ok (.aload_n 0, 1) := by decide +kernel
theorem dL_join_1 : decode cL_join 1 = .ok (.invokevirtual 33, 3) := by decide +kernel
theorem dL_join_4 : decode cL_join 4 = .ok (.ireturn, 1) := by decide +kernel
theorem dL_join_5 : decode cL_join 5 = .ok (.astore_n 1, 1) := by decide +kernel
theorem dL_join_6 : decode cL_join 6 = .ok (.bipush (-3), 2) := by decide +kernel
theorem dL_join_8 : decode cL_join 8 = .ok (.ireturn, 1) := by decide +kernel
theorem dL_leave_0 : decode cL_leave 0 = .ok (.aload_n 0, 1) := by decide +kernel
theorem dL_leave_1 : decode cL_leave 1 = .ok (.iload_n 1, 1) := by decide +kernel
theorem dL_leave_2 : decode cL_leave 2 = .ok (.invokevirtual 36, 3) := by decide +kernel
theorem dL_leave_5 : decode cL_leave 5 = .ok (.ireturn, 1) := by decide +kernel
theorem dL_leave_6 : decode cL_leave 6 = .ok (.astore_n 2, 1) := by decide +kernel
theorem dL_leave_7 : decode cL_leave 7 = .ok (.bipush (-3), 2) := by decide +kernel
theorem dL_leave_9 : decode cL_leave 9 = .ok (.ireturn, 1) := by decide +kernel
theorem dL_undo_0 : decode cL_undo 0 = .ok (.aload_n 0, 1) := by decide +kernel
theorem dL_undo_1 : decode cL_undo 1 = .ok (.invokevirtual 40, 3) := by decide +kernel
theorem dL_undo_4 : decode cL_undo 4 = .ok (.ireturn, 1) := by decide +kernel
theorem dL_undo_5 : decode cL_undo 5 = .ok (.astore_n 1, 1) := by decide +kernel
theorem dL_undo_6 : decode cL_undo 6 = .ok (.bipush (-3), 2) := by decide +kernel
theorem dL_undo_8 : decode cL_undo 8 = .ok (.ireturn, 1) := by decide +kernel
theorem dL_books_0 : decode cL_books 0 = .ok (.iconst 0, 1) := by decide +kernel
theorem dL_books_1 : decode cL_books 1 = .ok (.istore_n 1, 1) := by decide +kernel
theorem dL_books_2 : decode cL_books 2 = .ok (.iconst 0, 1) := by decide +kernel
theorem dL_books_3 : decode cL_books 3 = .ok (.istore_n 2, 1) := by decide +kernel
theorem dL_books_4 : decode cL_books 4 = .ok (.iconst 0, 1) := by decide +kernel
theorem dL_books_5 : decode cL_books 5 = .ok (.istore_n 3, 1) := by decide +kernel
theorem dL_books_6 : decode cL_books 6 = .ok (.iconst 0, 1) := by decide +kernel
theorem dL_books_7 : decode cL_books 7 = .ok (.istore 4, 2) := by decide +kernel
theorem dL_books_9 : decode cL_books 9 = .ok (.iconst 0, 1) := by decide +kernel
theorem dL_books_10 : decode cL_books 10 = .ok (.istore 5, 2) := by decide +kernel
theorem dL_books_12 : decode cL_books 12 = .ok (.iconst 0, 1) := by decide +kernel
theorem dL_books_13 : decode cL_books 13 = .ok (.istore 6, 2) := by decide +kernel
theorem dL_books_15 : decode cL_books 15 = .ok (.iconst 0, 1) := by decide +kernel
theorem dL_books_16 : decode cL_books 16 = .ok (.istore 7, 2) := by decide +kernel
theorem dL_books_18 : decode cL_books 18 = .ok (.iconst 0, 1) := by decide +kernel
theorem dL_books_19 : decode cL_books 19 = .ok (.istore 8, 2) := by decide +kernel
theorem dL_books_21 : decode cL_books 21 = .ok (.iconst 1, 1) := by decide +kernel
theorem dL_books_22 : decode cL_books 22 = .ok (.istore 9, 2) := by decide +kernel
theorem dL_books_24 : decode cL_books 24 = .ok (.iconst 0, 1) := by decide +kernel
theorem dL_books_25 : decode cL_books 25 = .ok (.istore 10, 2) := by decide +kernel
theorem dL_books_27 : decode cL_books 27 = .ok (.iload 10, 2) := by decide +kernel
theorem dL_books_29 : decode cL_books 29 = .ok (.bipush 8, 2) := by decide +kernel
theorem dL_books_31 : decode cL_books 31 = .ok (.if_icmp .ge 471, 3) := by decide +kernel
theorem dL_books_34 : decode cL_books 34 = .ok (.iload 9, 2) := by decide +kernel
theorem dL_books_36 : decode cL_books 36 = .ok (.ifCond .eq 466, 3) := by decide +kernel
theorem dL_books_39 : decode cL_books 39 = .ok (.aload_n 0, 1) := by decide +kernel
theorem dL_books_40 : decode cL_books 40 = .ok (.iload 10, 2) := by decide +kernel
theorem dL_books_42 : decode cL_books 42 = .ok (.invokestatic 43, 3) := by decide +kernel
theorem dL_books_45 : decode cL_books 45 = .ok (.ifCond .eq 451, 3) := by decide +kernel
theorem dL_books_48 : decode cL_books 48 = .ok (.iconst 0, 1) := by decide +kernel
theorem dL_books_49 : decode cL_books 49 = .ok (.istore 11, 2) := by decide +kernel
theorem dL_books_51 : decode cL_books 51 = .ok (.iconst 0, 1) := by decide +kernel
theorem dL_books_52 : decode cL_books 52 = .ok (.istore 12, 2) := by decide +kernel
theorem dL_books_54 : decode cL_books 54 = .ok (.iconst 0, 1) := by decide +kernel
theorem dL_books_55 : decode cL_books 55 = .ok (.istore 13, 2) := by decide +kernel
theorem dL_books_57 : decode cL_books 57 = .ok (.iload 13, 2) := by decide +kernel
theorem dL_books_59 : decode cL_books 59 = .ok (.bipush 8, 2) := by decide +kernel
theorem dL_books_61 : decode cL_books 61 = .ok (.if_icmp .ge 61, 3) := by decide +kernel
theorem dL_books_64 : decode cL_books 64 = .ok (.iload 11, 2) := by decide +kernel
theorem dL_books_66 : decode cL_books 66 = .ok (.aload_n 0, 1) := by decide +kernel
theorem dL_books_67 : decode cL_books 67 = .ok (.iload 13, 2) := by decide +kernel
theorem dL_books_69 : decode cL_books 69 = .ok (.invokestatic 43, 3) := by decide +kernel
theorem dL_books_72 : decode cL_books 72 = .ok (.ifCond .eq 14, 3) := by decide +kernel
theorem dL_books_75 : decode cL_books 75 = .ok (.aload_n 0, 1) := by decide +kernel
theorem dL_books_76 : decode cL_books 76 = .ok (.iload 10, 2) := by decide +kernel
theorem dL_books_78 : decode cL_books 78 = .ok (.iload 13, 2) := by decide +kernel
theorem dL_books_80 : decode cL_books 80 = .ok (.invokevirtual 49, 3) := by decide +kernel
theorem dL_books_83 : decode cL_books 83 = .ok (.goto 4, 3) := by decide +kernel
theorem dL_books_86 : decode cL_books 86 = .ok (.iconst 0, 1) := by decide +kernel
theorem dL_books_87 : decode cL_books 87 = .ok (.iadd, 1) := by decide +kernel
theorem dL_books_88 : decode cL_books 88 = .ok (.istore 11, 2) := by decide +kernel
theorem dL_books_90 : decode cL_books 90 = .ok (.iload 12, 2) := by decide +kernel
theorem dL_books_92 : decode cL_books 92 = .ok (.aload_n 0, 1) := by decide +kernel
theorem dL_books_93 : decode cL_books 93 = .ok (.iload 13, 2) := by decide +kernel
theorem dL_books_95 : decode cL_books 95 = .ok (.invokestatic 43, 3) := by decide +kernel
theorem dL_books_98 : decode cL_books 98 = .ok (.ifCond .eq 14, 3) := by decide +kernel
theorem dL_books_101 : decode cL_books 101 = .ok (.aload_n 0, 1) := by decide +kernel
theorem dL_books_102 : decode cL_books 102 = .ok (.iload 13, 2) := by decide +kernel
theorem dL_books_104 : decode cL_books 104 = .ok (.iload 10, 2) := by decide +kernel
theorem dL_books_106 : decode cL_books 106 = .ok (.invokevirtual 49, 3) := by decide +kernel
theorem dL_books_109 : decode cL_books 109 = .ok (.goto 4, 3) := by decide +kernel
theorem dL_books_112 : decode cL_books 112 = .ok (.iconst 0, 1) := by decide +kernel
theorem dL_books_113 : decode cL_books 113 = .ok (.iadd, 1) := by decide +kernel
theorem dL_books_114 : decode cL_books 114 = .ok (.istore 12, 2) := by decide +kernel
theorem dL_books_116 : decode cL_books 116 = .ok (.iinc 13 1, 3) := by decide +kernel
theorem dL_books_119 : decode cL_books 119 = .ok (.goto (-62), 3) := by decide +kernel
theorem dL_books_122 : decode cL_books 122 = .ok (.aload_n 0, 1) := by decide +kernel
theorem dL_books_123 : decode cL_books 123 = .ok (.iload 10, 2) := by decide +kernel
theorem dL_books_125 : decode cL_books 125 = .ok (.bipush 10, 2) := by decide +kernel
theorem dL_books_127 : decode cL_books 127 = .ok (.invokevirtual 9, 3) := by decide +kernel
theorem dL_books_130 : decode cL_books 130 = .ok (.iload 11, 2) := by decide +kernel
theorem dL_books_132 : decode cL_books 132 = .ok (.if_icmp .ne 114, 3) := by decide +kernel
theorem dL_books_135 : decode cL_books 135 = .ok (.aload_n 0, 1) := by decide +kernel
theorem dL_books_136 : decode cL_books 136 = .ok (.iload 10, 2) := by decide +kernel
theorem dL_books_138 : decode cL_books 138 = .ok (.bipush 11, 2) := by decide +kernel
theorem dL_books_140 : decode cL_books 140 = .ok (.invokevirtual 9, 3) := by decide +kernel
theorem dL_books_143 : decode cL_books 143 = .ok (.iload 12, 2) := by decide +kernel
theorem dL_books_145 : decode cL_books 145 = .ok (.if_icmp .ne 101, 3) := by decide +kernel
theorem dL_books_148 : decode cL_books 148 = .ok (.aload_n 0, 1) := by decide +kernel
theorem dL_books_149 : decode cL_books 149 = .ok (.iload 10, 2) := by decide +kernel
theorem dL_books_151 : decode cL_books 151 = .ok (.iload 10, 2) := by decide +kernel
theorem dL_books_153 : decode cL_books 153 = .ok (.invokevirtual 49, 3) := by decide +kernel
theorem dL_books_156 : decode cL_books 156 = .ok (.ifCond .ne 90, 3) := by decide +kernel
theorem dL_books_159 : decode cL_books 159 = .ok (.aload_n 0, 1) := by decide +kernel
theorem dL_books_160 : decode cL_books 160 = .ok (.iload 10, 2) := by decide +kernel
theorem dL_books_162 : decode cL_books 162 = .ok (.iconst 2, 1) := by decide +kernel
theorem dL_books_163 : decode cL_books 163 = .ok (.invokevirtual 9, 3) := by decide +kernel
theorem dL_books_166 : decode cL_books 166 = .ok (.ifCond .le 7, 3) := by decide +kernel
theorem dL_books_169 : decode cL_books 169 = .ok (.iconst 1, 1) := by decide +kernel
theorem dL_books_170 : decode cL_books 170 = .ok (.goto 4, 3) := by decide +kernel
theorem dL_books_173 : decode cL_books 173 = .ok (.iconst 0, 1) := by decide +kernel
theorem dL_books_174 : decode cL_books 174 = .ok (.aload_n 0, 1) := by decide +kernel
theorem dL_books_175 : decode cL_books 175 = .ok (.iload 10, 2) := by decide +kernel
theorem dL_books_177 : decode cL_books 177 = .ok (.iconst 3, 1) := by decide +kernel
theorem dL_books_178 : decode cL_books 178 = .ok (.invokevirtual 9, 3) := by decide +kernel
theorem dL_books_181 : decode cL_books 181 = .ok (.ifCond .le 7, 3) := by decide +kernel
theorem dL_books_184 : decode cL_books 184 = .ok (.iconst 1, 1) := by decide +kernel
theorem dL_books_185 : decode cL_books 185 = .ok (.goto 4, 3) := by decide +kernel
theorem dL_books_188 : decode cL_books 188 = .ok (.iconst 0, 1) := by decide +kernel
theorem dL_books_189 : decode cL_books 189 = .ok (.if_icmp .ne 57, 3) := by decide +kernel
theorem dL_books_192 : decode cL_books 192 = .ok (.aload_n 0, 1) := by decide +kernel
theorem dL_books_193 : decode cL_books 193 = .ok (.iload 10, 2) := by decide +kernel
theorem dL_books_195 : decode cL_books 195 = .ok (.iconst 3, 1) := by decide +kernel
theorem dL_books_196 : decode cL_books 196 = .ok (.invokevirtual 9, 3) := by decide +kernel
theorem dL_books_199 : decode cL_books 199 = .ok (.ifCond .le 7, 3) := by decide +kernel
theorem dL_books_202 : decode cL_books 202 = .ok (.iconst 1, 1) := by decide +kernel
theorem dL_books_203 : decode cL_books 203 = .ok (.goto 4, 3) := by decide +kernel
theorem dL_books_206 : decode cL_books 206 = .ok (.iconst 0, 1) := by decide +kernel
theorem dL_books_207 : decode cL_books 207 = .ok (.aload_n 0, 1) := by decide +kernel
theorem dL_books_208 : decode cL_books 208 = .ok (.iload 10, 2) := by decide +kernel
theorem dL_books_210 : decode cL_books 210 = .ok (.iconst 1, 1) := by decide +kernel
theorem dL_books_211 : decode cL_books 211 = .ok (.invokevirtual 9, 3) := by decide +kernel
theorem dL_books_214 : decode cL_books 214 = .ok (.ifCond .le 7, 3) := by decide +kernel
theorem dL_books_217 : decode cL_books 217 = .ok (.iconst 1, 1) := by decide +kernel
theorem dL_books_218 : decode cL_books 218 = .ok (.goto 4, 3) := by decide +kernel
theorem dL_books_221 : decode cL_books 221 = .ok (.iconst 0, 1) := by decide +kernel
theorem dL_books_222 : decode cL_books 222 = .ok (.if_icmp .ne 24, 3) := by decide +kernel
theorem dL_books_225 : decode cL_books 225 = .ok (.aload_n 0, 1) := by decide +kernel
theorem dL_books_226 : decode cL_books 226 = .ok (.iload 10, 2) := by decide +kernel
theorem dL_books_228 : decode cL_books 228 = .ok (.iconst 2, 1) := by decide +kernel
theorem dL_books_229 : decode cL_books 229 = .ok (.invokevirtual 9, 3) := by decide +kernel
theorem dL_books_232 : decode cL_books 232 = .ok (.aload_n 0, 1) := by decide +kernel
theorem dL_books_233 : decode cL_books 233 = .ok (.iload 10, 2) := by decide +kernel
theorem dL_books_235 : decode cL_books 235 = .ok (.iconst 1, 1) := by decide +kernel
theorem dL_books_236 : decode cL_books 236 = .ok (.invokevirtual 9, 3) := by decide +kernel
theorem dL_books_239 : decode cL_books 239 = .ok (.if_icmp .gt 7, 3) := by decide +kernel
theorem dL_books_242 : decode cL_books 242 = .ok (.iconst 1, 1) := by decide +kernel
theorem dL_books_243 : decode cL_books 243 = .ok (.goto 4, 3) := by decide +kernel
theorem dL_books_246 : decode cL_books 246 = .ok (.iconst 0, 1) := by decide +kernel
theorem dL_books_247 : decode cL_books 247 = .ok (.istore 9, 2) := by decide +kernel
theorem dL_books_249 : decode cL_books 249 = .ok (.iload 9, 2) := by decide +kernel
theorem dL_books_251 : decode cL_books 251 = .ok (.ifCond .eq 91, 3) := by decide +kernel
theorem dL_books_254 : decode cL_books 254 = .ok (.aload_n 0, 1) := by decide +kernel
theorem dL_books_255 : decode cL_books 255 = .ok (.iload 10, 2) := by decide +kernel
theorem dL_books_257 : decode cL_books 257 = .ok (.iconst 0, 1) := by decide +kernel
theorem dL_books_258 : decode cL_books 258 = .ok (.invokevirtual 9, 3) := by decide +kernel
theorem dL_books_261 : decode cL_books 261 = .ok (.bipush 20, 2) := by decide +kernel
theorem dL_books_263 : decode cL_books 263 = .ok (.if_icmp .lt 79, 3) := by decide +kernel
theorem dL_books_266 : decode cL_books 266 = .ok (.aload_n 0, 1) := by decide +kernel
theorem dL_books_267 : decode cL_books 267 = .ok (.iload 10, 2) := by decide +kernel
theorem dL_books_269 : decode cL_books 269 = .ok (.iconst 0, 1) := by decide +kernel
theorem dL_books_270 : decode cL_books 270 = .ok (.invokevirtual 9, 3) := by decide +kernel
theorem dL_books_273 : decode cL_books 273 = .ok (.sipush 2000, 3) := by decide +kernel
theorem dL_books_276 : decode cL_books 276 = .ok (.if_icmp .gt 66, 3) := by decide +kernel
theorem dL_books_279 : decode cL_books 279 = .ok (.aload_n 0, 1) := by decide +kernel
theorem dL_books_280 : decode cL_books 280 = .ok (.iload 10, 2) := by decide +kernel
theorem dL_books_282 : decode cL_books 282 = .ok (.bipush 6, 2) := by decide +kernel
theorem dL_books_284 : decode cL_books 284 = .ok (.invokevirtual 9, 3) := by decide +kernel
theorem dL_books_287 : decode cL_books 287 = .ok (.aload_n 0, 1) := by decide +kernel
theorem dL_books_288 : decode cL_books 288 = .ok (.iload 10, 2) := by decide +kernel
theorem dL_books_290 : decode cL_books 290 = .ok (.bipush 7, 2) := by decide +kernel
theorem dL_books_292 : decode cL_books 292 = .ok (.invokevirtual 9, 3) := by decide +kernel
theorem dL_books_295 : decode cL_books 295 = .ok (.if_icmp .gt 47, 3) := by decide +kernel
theorem dL_books_298 : decode cL_books 298 = .ok (.aload_n 0, 1) := by decide +kernel
theorem dL_books_299 : decode cL_books 299 = .ok (.iload 10, 2) := by decide +kernel
theorem dL_books_301 : decode cL_books 301 = .ok (.iconst 4, 1) := by decide +kernel
theorem dL_books_302 : decode cL_books 302 = .ok (.invokevirtual 9, 3) := by decide +kernel
theorem dL_books_305 : decode cL_books 305 = .ok (.ifCond .lt 37, 3) := by decide +kernel
theorem dL_books_308 : decode cL_books 308 = .ok (.aload_n 0, 1) := by decide +kernel
theorem dL_books_309 : decode cL_books 309 = .ok (.iload 10, 2) := by decide +kernel
theorem dL_books_311 : decode cL_books 311 = .ok (.iconst 3, 1) := by decide +kernel
theorem dL_books_312 : decode cL_books 312 = .ok (.invokevirtual 9, 3) := by decide +kernel
theorem dL_books_315 : decode cL_books 315 = .ok (.ifCond .gt 23, 3) := by decide +kernel
theorem dL_books_318 : decode cL_books 318 = .ok (.aload_n 0, 1) := by decide +kernel
theorem dL_books_319 : decode cL_books 319 = .ok (.iload 10, 2) := by decide +kernel
theorem dL_books_321 : decode cL_books 321 = .ok (.iconst 4, 1) := by decide +kernel
theorem dL_books_322 : decode cL_books 322 = .ok (.invokevirtual 9, 3) := by decide +kernel
theorem dL_books_325 : decode cL_books 325 = .ok (.ifCond .ne 17, 3) := by decide +kernel
theorem dL_books_328 : decode cL_books 328 = .ok (.aload_n 0, 1) := by decide +kernel
theorem dL_books_329 : decode cL_books 329 = .ok (.iload 10, 2) := by decide +kernel
theorem dL_books_331 : decode cL_books 331 = .ok (.invokevirtual 52, 3) := by decide +kernel
theorem dL_books_334 : decode cL_books 334 = .ok (.iconst (-1), 1) := by decide +kernel
theorem dL_books_335 : decode cL_books 335 = .ok (.if_icmp .ne 7, 3) := by decide +kernel
theorem dL_books_338 : decode cL_books 338 = .ok (.iconst 1, 1) := by decide +kernel
theorem dL_books_339 : decode cL_books 339 = .ok (.goto 4, 3) := by decide +kernel
theorem dL_books_342 : decode cL_books 342 = .ok (.iconst 0, 1) := by decide +kernel
theorem dL_books_343 : decode cL_books 343 = .ok (.istore 9, 2) := by decide +kernel
theorem dL_books_345 : decode cL_books 345 = .ok (.iload 9, 2) := by decide +kernel
theorem dL_books_347 : decode cL_books 347 = .ok (.ifCond .eq 57, 3) := by decide +kernel
theorem dL_books_350 : decode cL_books 350 = .ok (.aload_n 0, 1) := by decide +kernel
theorem dL_books_351 : decode cL_books 351 = .ok (.iload 10, 2) := by decide +kernel
theorem dL_books_353 : decode cL_books 353 = .ok (.invokevirtual 55, 3) := by decide +kernel
theorem dL_books_356 : decode cL_books 356 = .ok (.bipush 20, 2) := by decide +kernel
theorem dL_books_358 : decode cL_books 358 = .ok (.if_icmp .lt 46, 3) := by decide +kernel
theorem dL_books_361 : decode cL_books 361 = .ok (.aload_n 0, 1) := by decide +kernel
theorem dL_books_362 : decode cL_books 362 = .ok (.iload 10, 2) := by decide +kernel
theorem dL_books_364 : decode cL_books 364 = .ok (.invokevirtual 55, 3) := by decide +kernel
theorem dL_books_367 : decode cL_books 367 = .ok (.sipush 2000, 3) := by decide +kernel
theorem dL_books_370 : decode cL_books 370 = .ok (.if_icmp .gt 34, 3) := by decide +kernel
theorem dL_books_373 : decode cL_books 373 = .ok (.aload_n 0, 1) := by decide +kernel
theorem dL_books_374 : decode cL_books 374 = .ok (.iload 10, 2) := by decide +kernel
theorem dL_books_376 : decode cL_books 376 = .ok (.bipush 6, 2) := by decide +kernel
theorem dL_books_378 : decode cL_books 378 = .ok (.invokevirtual 9, 3) := by decide +kernel
theorem dL_books_381 : decode cL_books 381 = .ok (.ifCond .gt 19, 3) := by decide +kernel
theorem dL_books_384 : decode cL_books 384 = .ok (.aload_n 0, 1) := by decide +kernel
theorem dL_books_385 : decode cL_books 385 = .ok (.iload 10, 2) := by decide +kernel
theorem dL_books_387 : decode cL_books 387 = .ok (.invokevirtual 55, 3) := by decide +kernel
theorem dL_books_390 : decode cL_books 390 = .ok (.aload_n 0, 1) := by decide +kernel
theorem dL_books_391 : decode cL_books 391 = .ok (.iload 10, 2) := by decide +kernel
theorem dL_books_393 : decode cL_books 393 = .ok (.iconst 0, 1) := by decide +kernel
theorem dL_books_394 : decode cL_books 394 = .ok (.invokevirtual 9, 3) := by decide +kernel
theorem dL_books_397 : decode cL_books 397 = .ok (.if_icmp .lt 7, 3) := by decide +kernel
theorem dL_books_400 : decode cL_books 400 = .ok (.iconst 1, 1) := by decide +kernel
theorem dL_books_401 : decode cL_books 401 = .ok (.goto 4, 3) := by decide +kernel
theorem dL_books_404 : decode cL_books 404 = .ok (.iconst 0, 1) := by decide +kernel
theorem dL_books_405 : decode cL_books 405 = .ok (.istore 9, 2) := by decide +kernel
theorem dL_books_407 : decode cL_books 407 = .ok (.iload_n 2, 1) := by decide +kernel
theorem dL_books_408 : decode cL_books 408 = .ok (.aload_n 0, 1) := by decide +kernel
theorem dL_books_409 : decode cL_books 409 = .ok (.iload 10, 2) := by decide +kernel
theorem dL_books_411 : decode cL_books 411 = .ok (.iconst 2, 1) := by decide +kernel
theorem dL_books_412 : decode cL_books 412 = .ok (.invokevirtual 9, 3) := by decide +kernel
theorem dL_books_415 : decode cL_books 415 = .ok (.iadd, 1) := by decide +kernel
theorem dL_books_416 : decode cL_books 416 = .ok (.istore_n 2, 1) := by decide +kernel
theorem dL_books_417 : decode cL_books 417 = .ok (.iload_n 3, 1) := by decide +kernel
theorem dL_books_418 : decode cL_books 418 = .ok (.aload_n 0, 1) := by decide +kernel
theorem dL_books_419 : decode cL_books 419 = .ok (.iload 10, 2) := by decide +kernel
theorem dL_books_421 : decode cL_books 421 = .ok (.bipush 8, 2) := by decide +kernel
theorem dL_books_423 : decode cL_books 423 = .ok (.invokevirtual 9, 3) := by decide +kernel
theorem dL_books_426 : decode cL_books 426 = .ok (.iadd, 1) := by decide +kernel
theorem dL_books_427 : decode cL_books 427 = .ok (.istore_n 3, 1) := by decide +kernel
theorem dL_books_428 : decode cL_books 428 = .ok (.iload 4, 2) := by decide +kernel
theorem dL_books_430 : decode cL_books 430 = .ok (.aload_n 0, 1) := by decide +kernel
end DLH0
