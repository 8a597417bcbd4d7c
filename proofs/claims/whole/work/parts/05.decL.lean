theorem dL_cell_0 : decode cL_cell 0 = .ok (.iload_n 1, 1) := by decide +kernel
theorem dL_cell_1 : decode cL_cell 1 = .ok (.aload_n 0, 1) := by decide +kernel
theorem dL_cell_2 : decode cL_cell 2 = .ok (.arraylength, 1) := by decide +kernel
theorem dL_cell_3 : decode cL_cell 3 = .ok (.if_icmp .ge 9, 3) := by decide +kernel
theorem dL_cell_6 : decode cL_cell 6 = .ok (.aload_n 0, 1) := by decide +kernel
theorem dL_cell_7 : decode cL_cell 7 = .ok (.iload_n 1, 1) := by decide +kernel
theorem dL_cell_8 : decode cL_cell 8 = .ok (.iaload, 1) := by decide +kernel
theorem dL_cell_9 : decode cL_cell 9 = .ok (.goto 4, 3) := by decide +kernel
theorem dL_cell_12 : decode cL_cell 12 = .ok (.iconst 0, 1) := by decide +kernel
theorem dL_cell_13 : decode cL_cell 13 = .ok (.ireturn, 1) := by decide +kernel
theorem dL_take_0 : decode cL_take 0 = .ok (.aload_n 2, 1) := by decide +kernel
theorem dL_take_1 : decode cL_take 1 = .ok (.iconst 0, 1) := by decide +kernel
theorem dL_take_2 : decode cL_take 2 = .ok (.aload_n 0, 1) := by decide +kernel
theorem dL_take_3 : decode cL_take 3 = .ok (.iload_n 1, 1) := by decide +kernel
theorem dL_take_4 : decode cL_take 4 = .ok (.invokevirtual 7, 3) := by decide +kernel
theorem dL_take_7 : decode cL_take 7 = .ok (.i2l, 1) := by decide +kernel
theorem dL_take_8 : decode cL_take 8 = .ok (.lastore, 1) := by decide +kernel
theorem dL_take_9 : decode cL_take 9 = .ok (.goto 9, 3) := by decide +kernel
theorem dL_take_12 : decode cL_take 12 = .ok (.astore_n 3, 1) := by decide +kernel
theorem dL_take_13 : decode cL_take 13 = .ok (.iconst 1, 1) := by decide +kernel
theorem dL_take_14 : decode cL_take 14 = .ok (.ireturn, 1) := by decide +kernel
theorem dL_take_15 : decode cL_take 15 = .ok (.astore_n 3, 1) := by decide +kernel
theorem dL_take_16 : decode cL_take 16 = .ok (.iconst 2, 1) := by decide +kernel
theorem dL_take_17 : decode cL_take 17 = .ok (.ireturn, 1) := by decide +kernel
theorem dL_take_18 : decode cL_take 18 = .ok (.iconst 0, 1) := by decide +kernel
theorem dL_take_19 : decode cL_take 19 = .ok (.ireturn, 1) := by decide +kernel
theorem dL_next_0 : decode cL_next 0 = .ok (.aload_n 2, 1) := by decide +kernel
theorem dL_next_1 : decode cL_next 1 = .ok (.iconst 0, 1) := by decide +kernel
theorem dL_next_2 : decode cL_next 2 = .ok (.aload_n 0, 1) := by decide +kernel
theorem dL_next_3 : decode cL_next 3 = .ok (.iload_n 1, 1) := by decide +kernel
theorem dL_next_4 : decode cL_next 4 = .ok (.invokevirtual 17, 3) := by decide +kernel
theorem dL_next_7 : decode cL_next 7 = .ok (.i2l, 1) := by decide +kernel
theorem dL_next_8 : decode cL_next 8 = .ok (.lastore, 1) := by decide +kernel
theorem dL_next_9 : decode cL_next 9 = .ok (.goto 6, 3) := by decide +kernel
theorem dL_next_12 : decode cL_next 12 = .ok (.astore_n 3, 1) := by decide +kernel
theorem dL_next_13 : decode cL_next 13 = .ok (.iconst 1, 1) := by decide +kernel
theorem dL_next_14 : decode cL_next 14 = .ok (.ireturn, 1) := by decide +kernel
theorem dL_next_15 : decode cL_next 15 = .ok (.iconst 0, 1) := by decide +kernel
theorem dL_next_16 : decode cL_next 16 = .ok (.ireturn, 1) := by decide +kernel
theorem dL_drop_0 : decode cL_drop 0 = .ok (.aload_n 0, 1) := by decide +kernel
theorem dL_drop_1 : decode cL_drop 1 = .ok (.iload_n 1, 1) := by decide +kernel
theorem dL_drop_2 : decode cL_drop 2 = .ok (.invokevirtual 20, 3) := by decide +kernel
theorem dL_drop_5 : decode cL_drop 5 = .ok (.goto 9, 3) := by decide +kernel
theorem dL_drop_8 : decode cL_drop 8 = .ok (.astore_n 2, 1) := by decide +kernel
theorem dL_drop_9 : decode cL_drop 9 = .ok (.iconst 1, 1) := by decide +kernel
theorem dL_drop_10 : decode cL_drop 10 = .ok (.ireturn, 1) := by decide +kernel
theorem dL_drop_11 : decode cL_drop 11 = .ok (.astore_n 2, 1) := by decide +kernel
theorem dL_drop_12 : decode cL_drop 12 = .ok (.iconst 2, 1) := by decide +kernel
theorem dL_drop_13 : decode cL_drop 13 = .ok (.ireturn, 1) := by decide +kernel
theorem dL_drop_14 : decode cL_drop 14 = .ok (.iconst 0, 1) := by decide +kernel
theorem dL_drop_15 : decode cL_drop 15 = .ok (.ireturn, 1) := by decide +kernel
theorem dL_isUsed_0 : decode cL_isUsed 0 = .ok (.aload_n 2, 1) := by decide +kernel
theorem dL_isUsed_1 : decode cL_isUsed 1 = .ok (.iconst 0, 1) := by decide +kernel
theorem dL_isUsed_2 : decode cL_isUsed 2 = .ok (.aload_n 0, 1) := by decide +kernel
theorem dL_isUsed_3 : decode cL_isUsed 3 = .ok (.iload_n 1, 1) := by decide +kernel
theorem dL_isUsed_4 : decode cL_isUsed 4 = .ok (.invokevirtual 24, 3) := by decide +kernel
theorem dL_isUsed_7 : decode cL_isUsed 7 = .ok (.ifCond .eq 7, 3) := by decide +kernel
theorem dL_isUsed_10 : decode cL_isUsed 10 = .ok (.lconst 1, 1) := by decide +kernel
theorem dL_isUsed_11 : decode cL_isUsed 11 = .ok (.goto 4, 3) := by decide +kernel
theorem dL_isUsed_14 : decode cL_isUsed 14 = .ok (.lconst 0, 1) := by decide +kernel
theorem dL_isUsed_15 : decode cL_isUsed 15 = .ok (.lastore, 1) := by decide +kernel
theorem dL_isUsed_16 : decode cL_isUsed 16 = .ok (.goto 6, 3) := by decide +kernel
theorem dL_isUsed_19 : decode cL_isUsed 19 = .ok (.astore_n 3, 1) := by decide +kernel
theorem dL_isUsed_20 : decode cL_isUsed 20 = .ok (.iconst 1, 1) := by decide +kernel
theorem dL_isUsed_21 : decode cL_isUsed 21 = .ok (.ireturn, 1) := by decide +kernel
theorem dL_isUsed_22 : decode cL_isUsed 22 = .ok (.iconst 0, 1) := by decide +kernel
theorem dL_isUsed_23 : decode cL_isUsed 23 = .ok (.ireturn, 1) := by decide +kernel
theorem dL_look_0 : decode cL_look 0 = .ok (.aload_n 3, 1) := by decide +kernel
theorem dL_look_1 : decode cL_look 1 = .ok (.iconst 0, 1) := by decide +kernel
theorem dL_look_2 : decode cL_look 2 = .ok (.aload_n 0, 1) := by decide +kernel
theorem dL_look_3 : decode cL_look 3 = .ok (.iload_n 1, 1) := by decide +kernel
theorem dL_look_4 : decode cL_look 4 = .ok (.iload_n 2, 1) := by decide +kernel
theorem dL_look_5 : decode cL_look 5 = .ok (.invokevirtual 28, 3) := by decide +kernel
theorem dL_look_8 : decode cL_look 8 = .ok (.i2l, 1) := by decide +kernel
theorem dL_look_9 : decode cL_look 9 = .ok (.lastore, 1) := by decide +kernel
theorem dL_look_10 : decode cL_look 10 = .ok (.goto 7, 3) := by decide +kernel
theorem dL_look_13 : decode cL_look 13 = .ok (.astore 4, 2) := by decide +kernel
theorem dL_look_15 : decode cL_look 15 = .ok (.iconst 1, 1) := by decide +kernel
theorem dL_look_16 : decode cL_look 16 = .ok (.ireturn, 1) := by decide +kernel
theorem dL_look_17 : decode cL_look 17 = .ok (.iconst 0, 1) := by decide +kernel
theorem dL_look_18 : decode cL_look 18 = .ok (.ireturn, 1) := by decide +kernel
theorem dL_law_0 : decode cL_law 0 = .ok (.new 8, 3) := by decide +kernel
theorem dL_law_3 : decode cL_law 3 = .ok (.dup, 1) := by decide +kernel
theorem dL_law_4 : decode cL_law 4 = .ok (.aload_n 0, 1) := by decide +kernel
theorem dL_law_5 : decode cL_law 5 = .ok (.iconst 0, 1) := by decide +kernel
theorem dL_law_6 : decode cL_law 6 = .ok (.invokestatic 32, 3) := by decide +kernel
theorem dL_law_9 : decode cL_law 9 = .ok (.invokespecial 38, 3) := by decide +kernel
theorem dL_law_12 : decode cL_law 12 = .ok (.astore_n 1, 1) := by decide +kernel
theorem dL_law_13 : decode cL_law 13 = .ok (.new 40, 3) := by decide +kernel
theorem dL_law_16 : decode cL_law 16 = .ok (.dup, 1) := by decide +kernel
theorem dL_law_17 : decode cL_law 17 = .ok (.aload_n 0, 1) := by decide +kernel
theorem dL_law_18 : decode cL_law 18 = .ok (.iconst 0, 1) := by decide +kernel
theorem dL_law_19 : decode cL_law 19 = .ok (.invokestatic 32, 3) := by decide +kernel
theorem dL_law_22 : decode cL_law 22 = .ok (.invokespecial 42, 3) := by decide +kernel
theorem dL_law_25 : decode cL_law 25 = .ok (.astore_n 2, 1) := by decide +kernel
theorem dL_law_26 : decode cL_law 26 = .ok (.iconst 1, 1) := by decide +kernel
theorem dL_law_27 : decode cL_law 27 = .ok (.newarray .long, 2) := by decide +kernel
theorem dL_law_29 : decode cL_law 29 = .ok (.astore_n 3, 1) := by decide +kernel
theorem dL_law_30 : decode cL_law 30 = .ok (.iconst 1, 1) := by decide +kernel
theorem dL_law_31 : decode cL_law 31 = .ok (.istore 4, 2) := by decide +kernel
theorem dL_law_33 : decode cL_law 33 = .ok (.iload 4, 2) := by decide +kernel
theorem dL_law_35 : decode cL_law 35 = .ok (.aload_n 0, 1) := by decide +kernel
theorem dL_law_36 : decode cL_law 36 = .ok (.arraylength, 1) := by decide +kernel
theorem dL_law_37 : decode cL_law 37 = .ok (.iconst 3, 1) := by decide +kernel
theorem dL_law_38 : decode cL_law 38 = .ok (.isub, 1) := by decide +kernel
theorem dL_law_39 : decode cL_law 39 = .ok (.if_icmp .gt 426, 3) := by decide +kernel
theorem dL_law_42 : decode cL_law 42 = .ok (.aload_n 0, 1) := by decide +kernel
theorem dL_law_43 : decode cL_law 43 = .ok (.iload 4, 2) := by decide +kernel
theorem dL_law_45 : decode cL_law 45 = .ok (.iaload, 1) := by decide +kernel
theorem dL_law_46 : decode cL_law 46 = .ok (.bipush 15, 2) := by decide +kernel
theorem dL_law_48 : decode cL_law 48 = .ok (.iand, 1) := by decide +kernel
theorem dL_law_49 : decode cL_law 49 = .ok (.tableswitch 410 0 8 #[51, 107, 163, 199, 262, 275, 288, 301, 342], 51) := by decide +kernel
theorem dL_law_100 : decode cL_law 100 = .ok (.aload_n 1, 1) := by decide +kernel
theorem dL_law_101 : decode cL_law 101 = .ok (.aload_n 0, 1) := by decide +kernel
theorem dL_law_102 : decode cL_law 102 = .ok (.iload 4, 2) := by decide +kernel
theorem dL_law_104 : decode cL_law 104 = .ok (.iconst 1, 1) := by decide +kernel
theorem dL_law_105 : decode cL_law 105 = .ok (.iadd, 1) := by decide +kernel
theorem dL_law_106 : decode cL_law 106 = .ok (.iaload, 1) := by decide +kernel
theorem dL_law_107 : decode cL_law 107 = .ok (.aload_n 3, 1) := by decide +kernel
theorem dL_law_108 : decode cL_law 108 = .ok (.invokestatic 43, 3) := by decide +kernel
theorem dL_law_111 : decode cL_law 111 = .ok (.istore 5, 2) := by decide +kernel
theorem dL_law_113 : decode cL_law 113 = .ok (.aload_n 2, 1) := by decide +kernel
theorem dL_law_114 : decode cL_law 114 = .ok (.aload_n 0, 1) := by decide +kernel
theorem dL_law_115 : decode cL_law 115 = .ok (.iload 4, 2) := by decide +kernel
theorem dL_law_117 : decode cL_law 117 = .ok (.iconst 1, 1) := by decide +kernel
theorem dL_law_118 : decode cL_law 118 = .ok (.iadd, 1) := by decide +kernel
theorem dL_law_119 : decode cL_law 119 = .ok (.iaload, 1) := by decide +kernel
theorem dL_law_120 : decode cL_law 120 = .ok (.invokevirtual 46, 3) := by decide +kernel
theorem dL_law_123 : decode cL_law 123 = .ok (.istore 6, 2) := by decide +kernel
theorem dL_law_125 : decode cL_law 125 = .ok (.aload_n 2, 1) := by decide +kernel
theorem dL_law_126 : decode cL_law 126 = .ok (.invokevirtual 47, 3) := by decide +kernel
theorem dL_law_129 : decode cL_law 129 = .ok (.iload 5, 2) := by decide +kernel
theorem dL_law_131 : decode cL_law 131 = .ok (.if_icmp .eq 5, 3) := by decide +kernel
theorem dL_law_134 : decode cL_law 134 = .ok (.iconst 0, 1) := by decide +kernel
theorem dL_law_135 : decode cL_law 135 = .ok (.ireturn, 1) := by decide +kernel
theorem dL_law_136 : decode cL_law 136 = .ok (.iload 5, 2) := by decide +kernel
theorem dL_law_138 : decode cL_law 138 = .ok (.ifCond .ne 15, 3) := by decide +kernel
theorem dL_law_141 : decode cL_law 141 = .ok (.aload_n 3, 1) := by decide +kernel
theorem dL_law_142 : decode cL_law 142 = .ok (.iconst 0, 1) := by decide +kernel
theorem dL_law_143 : decode cL_law 143 = .ok (.laload, 1) := by decide +kernel
theorem dL_law_144 : decode cL_law 144 = .ok (.iload 6, 2) := by decide +kernel
theorem dL_law_146 : decode cL_law 146 = .ok (.i2l, 1) := by decide +kernel
theorem dL_law_147 : decode cL_law 147 = .ok (.lcmp, 1) := by decide +kernel
theorem dL_law_148 : decode cL_law 148 = .ok (.ifCond .eq 5, 3) := by decide +kernel
theorem dL_law_151 : decode cL_law 151 = .ok (.iconst 0, 1) := by decide +kernel
theorem dL_law_152 : decode cL_law 152 = .ok (.ireturn, 1) := by decide +kernel
theorem dL_law_153 : decode cL_law 153 = .ok (.goto 306, 3) := by decide +kernel
theorem dL_law_156 : decode cL_law 156 = .ok (.aload_n 1, 1) := by decide +kernel
theorem dL_law_157 : decode cL_law 157 = .ok (.aload_n 0, 1) := by decide +kernel
theorem dL_law_158 : decode cL_law 158 = .ok (.iload 4, 2) := by decide +kernel
theorem dL_law_160 : decode cL_law 160 = .ok (.iconst 1, 1) := by decide +kernel
theorem dL_law_161 : decode cL_law 161 = .ok (.iadd, 1) := by decide +kernel
theorem dL_law_162 : decode cL_law 162 = .ok (.iaload, 1) := by decide +kernel
theorem dL_law_163 : decode cL_law 163 = .ok (.aload_n 3, 1) := by decide +kernel
theorem dL_law_164 : decode cL_law 164 = .ok (.invokestatic 51, 3) := by decide +kernel
theorem dL_law_167 : decode cL_law 167 = .ok (.istore 5, 2) := by decide +kernel
theorem dL_law_169 : decode cL_law 169 = .ok (.aload_n 2, 1) := by decide +kernel
theorem dL_law_170 : decode cL_law 170 = .ok (.aload_n 0, 1) := by decide +kernel
theorem dL_law_171 : decode cL_law 171 = .ok (.iload 4, 2) := by decide +kernel
theorem dL_law_173 : decode cL_law 173 = .ok (.iconst 1, 1) := by decide +kernel
theorem dL_law_174 : decode cL_law 174 = .ok (.iadd, 1) := by decide +kernel
theorem dL_law_175 : decode cL_law 175 = .ok (.iaload, 1) := by decide +kernel
theorem dL_law_176 : decode cL_law 176 = .ok (.invokevirtual 53, 3) := by decide +kernel
theorem dL_law_179 : decode cL_law 179 = .ok (.istore 6, 2) := by decide +kernel
theorem dL_law_181 : decode cL_law 181 = .ok (.aload_n 2, 1) := by decide +kernel
theorem dL_law_182 : decode cL_law 182 = .ok (.invokevirtual 47, 3) := by decide +kernel
theorem dL_law_185 : decode cL_law 185 = .ok (.iload 5, 2) := by decide +kernel
theorem dL_law_187 : decode cL_law 187 = .ok (.if_icmp .eq 5, 3) := by decide +kernel
theorem dL_law_190 : decode cL_law 190 = .ok (.iconst 0, 1) := by decide +kernel
theorem dL_law_191 : decode cL_law 191 = .ok (.ireturn, 1) := by decide +kernel
theorem dL_law_192 : decode cL_law 192 = .ok (.iload 5, 2) := by decide +kernel
theorem dL_law_194 : decode cL_law 194 = .ok (.ifCond .ne 15, 3) := by decide +kernel
theorem dL_law_197 : decode cL_law 197 = .ok (.aload_n 3, 1) := by decide +kernel
theorem dL_law_198 : decode cL_law 198 = .ok (.iconst 0, 1) := by decide +kernel
theorem dL_law_199 : decode cL_law 199 = .ok (.laload, 1) := by decide +kernel
theorem dL_law_200 : decode cL_law 200 = .ok (.iload 6, 2) := by decide +kernel
theorem dL_law_202 : decode cL_law 202 = .ok (.i2l, 1) := by decide +kernel
theorem dL_law_203 : decode cL_law 203 = .ok (.lcmp, 1) := by decide +kernel
theorem dL_law_204 : decode cL_law 204 = .ok (.ifCond .eq 5, 3) := by decide +kernel
theorem dL_law_207 : decode cL_law 207 = .ok (.iconst 0, 1) := by decide +kernel
theorem dL_law_208 : decode cL_law 208 = .ok (.ireturn, 1) := by decide +kernel
theorem dL_law_209 : decode cL_law 209 = .ok (.goto 250, 3) := by decide +kernel
theorem dL_law_212 : decode cL_law 212 = .ok (.aload_n 1, 1) := by decide +kernel
theorem dL_law_213 : decode cL_law 213 = .ok (.aload_n 0, 1) := by decide +kernel
theorem dL_law_214 : decode cL_law 214 = .ok (.iload 4, 2) := by decide +kernel
theorem dL_law_216 : decode cL_law 216 = .ok (.iconst 1, 1) := by decide +kernel
theorem dL_law_217 : decode cL_law 217 = .ok (.iadd, 1) := by decide +kernel
theorem dL_law_218 : decode cL_law 218 = .ok (.iaload, 1) := by decide +kernel
theorem dL_law_219 : decode cL_law 219 = .ok (.invokestatic 54, 3) := by decide +kernel
theorem dL_law_222 : decode cL_law 222 = .ok (.istore 5, 2) := by decide +kernel
theorem dL_law_224 : decode cL_law 224 = .ok (.aload_n 2, 1) := by decide +kernel
theorem dL_law_225 : decode cL_law 225 = .ok (.aload_n 0, 1) := by decide +kernel
theorem dL_law_226 : decode cL_law 226 = .ok (.iload 4, 2) := by decide +kernel
theorem dL_law_228 : decode cL_law 228 = .ok (.iconst 1, 1) := by decide +kernel
theorem dL_law_229 : decode cL_law 229 = .ok (.iadd, 1) := by decide +kernel
