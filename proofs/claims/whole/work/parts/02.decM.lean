theorem dX4_init_0 : decode cX4_init 0 = .ok (.aload_n 0, 1) := by decide +kernel
theorem dX4_init_1 : decode cX4_init 1 = .ok (.invokespecial 1, 3) := by decide +kernel
theorem dX4_init_4 : decode cX4_init 4 = .ok (.aload_n 0, 1) := by decide +kernel
theorem dX4_init_5 : decode cX4_init 5 = .ok (.sipush 180, 3) := by decide +kernel
theorem dX4_init_8 : decode cX4_init 8 = .ok (.newarray .int, 2) := by decide +kernel
theorem dX4_init_10 : decode cX4_init 10 = .ok (.putfield 7, 3) := by decide +kernel
theorem dX4_init_13 : decode cX4_init 13 = .ok (.aload_n 0, 1) := by decide +kernel
theorem dX4_init_14 : decode cX4_init 14 = .ok (.bipush 30, 2) := by decide +kernel
theorem dX4_init_16 : decode cX4_init 16 = .ok (.newarray .int, 2) := by decide +kernel
theorem dX4_init_18 : decode cX4_init 18 = .ok (.putfield 13, 3) := by decide +kernel
theorem dX4_init_21 : decode cX4_init 21 = .ok (.aload_n 0, 1) := by decide +kernel
theorem dX4_init_22 : decode cX4_init 22 = .ok (.sipush 672, 3) := by decide +kernel
theorem dX4_init_25 : decode cX4_init 25 = .ok (.newarray .int, 2) := by decide +kernel
theorem dX4_init_27 : decode cX4_init 27 = .ok (.putfield 16, 3) := by decide +kernel
theorem dX4_init_30 : decode cX4_init 30 = .ok (.aload_n 0, 1) := by decide +kernel
theorem dX4_init_31 : decode cX4_init 31 = .ok (.sipush 4500, 3) := by decide +kernel
theorem dX4_init_34 : decode cX4_init 34 = .ok (.newarray .long, 2) := by decide +kernel
theorem dX4_init_36 : decode cX4_init 36 = .ok (.putfield 19, 3) := by decide +kernel
theorem dX4_init_39 : decode cX4_init 39 = .ok (.aload_n 0, 1) := by decide +kernel
theorem dX4_init_40 : decode cX4_init 40 = .ok (.sipush 240, 3) := by decide +kernel
theorem dX4_init_43 : decode cX4_init 43 = .ok (.newarray .long, 2) := by decide +kernel
theorem dX4_init_45 : decode cX4_init 45 = .ok (.putfield 23, 3) := by decide +kernel
theorem dX4_init_48 : decode cX4_init 48 = .ok (.aload_n 0, 1) := by decide +kernel
theorem dX4_init_49 : decode cX4_init 49 = .ok (.bipush 30, 2) := by decide +kernel
theorem dX4_init_51 : decode cX4_init 51 = .ok (.newarray .long, 2) := by decide +kernel
theorem dX4_init_53 : decode cX4_init 53 = .ok (.putfield 26, 3) := by decide +kernel
theorem dX4_init_56 : decode cX4_init 56 = .ok (.aload_n 0, 1) := by decide +kernel
theorem dX4_init_57 : decode cX4_init 57 = .ok (.bipush 6, 2) := by decide +kernel
theorem dX4_init_59 : decode cX4_init 59 = .ok (.newarray .int, 2) := by decide +kernel
theorem dX4_init_61 : decode cX4_init 61 = .ok (.putfield 29, 3) := by decide +kernel
theorem dX4_init_64 : decode cX4_init 64 = .ok (.aload_n 0, 1) := by decide +kernel
theorem dX4_init_65 : decode cX4_init 65 = .ok (.bipush 6, 2) := by decide +kernel
theorem dX4_init_67 : decode cX4_init 67 = .ok (.newarray .int, 2) := by decide +kernel
theorem dX4_init_69 : decode cX4_init 69 = .ok (.putfield 32, 3) := by decide +kernel
theorem dX4_init_72 : decode cX4_init 72 = .ok (.aload_n 0, 1) := by decide +kernel
theorem dX4_init_73 : decode cX4_init 73 = .ok (.bipush 30, 2) := by decide +kernel
theorem dX4_init_75 : decode cX4_init 75 = .ok (.newarray .long, 2) := by decide +kernel
theorem dX4_init_77 : decode cX4_init 77 = .ok (.putfield 35, 3) := by decide +kernel
theorem dX4_init_80 : decode cX4_init 80 = .ok (.aload_n 0, 1) := by decide +kernel
theorem dX4_init_81 : decode cX4_init 81 = .ok (.bipush 30, 2) := by decide +kernel
theorem dX4_init_83 : decode cX4_init 83 = .ok (.newarray .long, 2) := by decide +kernel
theorem dX4_init_85 : decode cX4_init 85 = .ok (.putfield 38, 3) := by decide +kernel
theorem dX4_init_88 : decode cX4_init 88 = .ok (.aload_n 0, 1) := by decide +kernel
theorem dX4_init_89 : decode cX4_init 89 = .ok (.bipush 30, 2) := by decide +kernel
theorem dX4_init_91 : decode cX4_init 91 = .ok (.newarray .long, 2) := by decide +kernel
theorem dX4_init_93 : decode cX4_init 93 = .ok (.putfield 41, 3) := by decide +kernel
theorem dX4_init_96 : decode cX4_init 96 = .ok (.aload_n 0, 1) := by decide +kernel
theorem dX4_init_97 : decode cX4_init 97 = .ok (.bipush 30, 2) := by decide +kernel
theorem dX4_init_99 : decode cX4_init 99 = .ok (.newarray .long, 2) := by decide +kernel
theorem dX4_init_101 : decode cX4_init 101 = .ok (.putfield 44, 3) := by decide +kernel
theorem dX4_init_104 : decode cX4_init 104 = .ok (.aload_n 0, 1) := by decide +kernel
theorem dX4_init_105 : decode cX4_init 105 = .ok (.bipush 30, 2) := by decide +kernel
theorem dX4_init_107 : decode cX4_init 107 = .ok (.newarray .long, 2) := by decide +kernel
theorem dX4_init_109 : decode cX4_init 109 = .ok (.putfield 47, 3) := by decide +kernel
theorem dX4_init_112 : decode cX4_init 112 = .ok (.aload_n 0, 1) := by decide +kernel
theorem dX4_init_113 : decode cX4_init 113 = .ok (.bipush 30, 2) := by decide +kernel
theorem dX4_init_115 : decode cX4_init 115 = .ok (.newarray .long, 2) := by decide +kernel
theorem dX4_init_117 : decode cX4_init 117 = .ok (.putfield 50, 3) := by decide +kernel
theorem dX4_init_120 : decode cX4_init 120 = .ok (.aload_n 0, 1) := by decide +kernel
theorem dX4_init_121 : decode cX4_init 121 = .ok (.bipush 30, 2) := by decide +kernel
theorem dX4_init_123 : decode cX4_init 123 = .ok (.newarray .long, 2) := by decide +kernel
theorem dX4_init_125 : decode cX4_init 125 = .ok (.putfield 53, 3) := by decide +kernel
theorem dX4_init_128 : decode cX4_init 128 = .ok (.aload_n 0, 1) := by decide +kernel
theorem dX4_init_129 : decode cX4_init 129 = .ok (.bipush 30, 2) := by decide +kernel
theorem dX4_init_131 : decode cX4_init 131 = .ok (.newarray .long, 2) := by decide +kernel
theorem dX4_init_133 : decode cX4_init 133 = .ok (.putfield 56, 3) := by decide +kernel
theorem dX4_init_136 : decode cX4_init 136 = .ok (.aload_n 0, 1) := by decide +kernel
theorem dX4_init_137 : decode cX4_init 137 = .ok (.sipush 480, 3) := by decide +kernel
theorem dX4_init_140 : decode cX4_init 140 = .ok (.newarray .long, 2) := by decide +kernel
theorem dX4_init_142 : decode cX4_init 142 = .ok (.putfield 59, 3) := by decide +kernel
theorem dX4_init_145 : decode cX4_init 145 = .ok (.aload_n 0, 1) := by decide +kernel
theorem dX4_init_146 : decode cX4_init 146 = .ok (.iconst 2, 1) := by decide +kernel
theorem dX4_init_147 : decode cX4_init 147 = .ok (.newarray .boolean, 2) := by decide +kernel
theorem dX4_init_149 : decode cX4_init 149 = .ok (.putfield 62, 3) := by decide +kernel
theorem dX4_init_152 : decode cX4_init 152 = .ok (.iconst 0, 1) := by decide +kernel
theorem dX4_init_153 : decode cX4_init 153 = .ok (.istore_n 1, 1) := by decide +kernel
theorem dX4_init_154 : decode cX4_init 154 = .ok (.iconst 0, 1) := by decide +kernel
theorem dX4_init_155 : decode cX4_init 155 = .ok (.istore_n 2, 1) := by decide +kernel
theorem dX4_init_156 : decode cX4_init 156 = .ok (.iload_n 2, 1) := by decide +kernel
theorem dX4_init_157 : decode cX4_init 157 = .ok (.bipush 6, 2) := by decide +kernel
theorem dX4_init_159 : decode cX4_init 159 = .ok (.if_icmp .gt 40, 3) := by decide +kernel
theorem dX4_init_162 : decode cX4_init 162 = .ok (.ldc 66, 2) := by decide +kernel
theorem dX4_init_164 : decode cX4_init 164 = .ok (.istore_n 3, 1) := by decide +kernel
theorem dX4_init_165 : decode cX4_init 165 = .ok (.iload_n 3, 1) := by decide +kernel
theorem dX4_init_166 : decode cX4_init 166 = .ok (.ifCond .lt 27, 3) := by decide +kernel
theorem dX4_init_169 : decode cX4_init 169 = .ok (.iload_n 3, 1) := by decide +kernel
theorem dX4_init_170 : decode cX4_init 170 = .ok (.iload_n 2, 1) := by decide +kernel
theorem dX4_init_171 : decode cX4_init 171 = .ok (.invokestatic 67, 3) := by decide +kernel
theorem dX4_init_174 : decode cX4_init 174 = .ok (.ifCond .eq 13, 3) := by decide +kernel
theorem dX4_init_177 : decode cX4_init 177 = .ok (.aload_n 0, 1) := by decide +kernel
theorem dX4_init_178 : decode cX4_init 178 = .ok (.iload_n 1, 1) := by decide +kernel
theorem dX4_init_179 : decode cX4_init 179 = .ok (.iload_n 3, 1) := by decide +kernel
theorem dX4_init_180 : decode cX4_init 180 = .ok (.iload_n 2, 1) := by decide +kernel
theorem dX4_init_181 : decode cX4_init 181 = .ok (.invokevirtual 71, 3) := by decide +kernel
theorem dX4_init_184 : decode cX4_init 184 = .ok (.iinc 1 1, 3) := by decide +kernel
theorem dX4_init_187 : decode cX4_init 187 = .ok (.iinc 3 (-1), 3) := by decide +kernel
theorem dX4_init_190 : decode cX4_init 190 = .ok (.goto (-25), 3) := by decide +kernel
theorem dX4_init_193 : decode cX4_init 193 = .ok (.iinc 2 1, 3) := by decide +kernel
theorem dX4_init_196 : decode cX4_init 196 = .ok (.goto (-40), 3) := by decide +kernel
theorem dX4_init_199 : decode cX4_init 199 = .ok (.iconst 0, 1) := by decide +kernel
theorem dX4_init_200 : decode cX4_init 200 = .ok (.istore_n 2, 1) := by decide +kernel
theorem dX4_init_201 : decode cX4_init 201 = .ok (.iload_n 2, 1) := by decide +kernel
theorem dX4_init_202 : decode cX4_init 202 = .ok (.bipush 30, 2) := by decide +kernel
theorem dX4_init_204 : decode cX4_init 204 = .ok (.if_icmp .ge 39, 3) := by decide +kernel
theorem dX4_init_207 : decode cX4_init 207 = .ok (.aload_n 0, 1) := by decide +kernel
theorem dX4_init_208 : decode cX4_init 208 = .ok (.getfield 19, 3) := by decide +kernel
theorem dX4_init_211 : decode cX4_init 211 = .ok (.iconst 0, 1) := by decide +kernel
theorem dX4_init_212 : decode cX4_init 212 = .ok (.iload_n 2, 1) := by decide +kernel
theorem dX4_init_213 : decode cX4_init 213 = .ok (.iload_n 2, 1) := by decide +kernel
theorem dX4_init_214 : decode cX4_init 214 = .ok (.invokestatic 75, 3) := by decide +kernel
theorem dX4_init_217 : decode cX4_init 217 = .ok (.lconst 1, 1) := by decide +kernel
theorem dX4_init_218 : decode cX4_init 218 = .ok (.lastore, 1) := by decide +kernel
theorem dX4_init_219 : decode cX4_init 219 = .ok (.aload_n 0, 1) := by decide +kernel
theorem dX4_init_220 : decode cX4_init 220 = .ok (.iconst 1, 1) := by decide +kernel
theorem dX4_init_221 : decode cX4_init 221 = .ok (.iload_n 2, 1) := by decide +kernel
theorem dX4_init_222 : decode cX4_init 222 = .ok (.invokevirtual 79, 3) := by decide +kernel
theorem dX4_init_225 : decode cX4_init 225 = .ok (.aload_n 0, 1) := by decide +kernel
theorem dX4_init_226 : decode cX4_init 226 = .ok (.iconst 2, 1) := by decide +kernel
theorem dX4_init_227 : decode cX4_init 227 = .ok (.iload_n 2, 1) := by decide +kernel
theorem dX4_init_228 : decode cX4_init 228 = .ok (.invokevirtual 79, 3) := by decide +kernel
theorem dX4_init_231 : decode cX4_init 231 = .ok (.aload_n 0, 1) := by decide +kernel
theorem dX4_init_232 : decode cX4_init 232 = .ok (.iconst 3, 1) := by decide +kernel
theorem dX4_init_233 : decode cX4_init 233 = .ok (.iload_n 2, 1) := by decide +kernel
theorem dX4_init_234 : decode cX4_init 234 = .ok (.invokevirtual 79, 3) := by decide +kernel
theorem dX4_init_237 : decode cX4_init 237 = .ok (.iinc 2 1, 3) := by decide +kernel
theorem dX4_init_240 : decode cX4_init 240 = .ok (.goto (-39), 3) := by decide +kernel
theorem dX4_init_243 : decode cX4_init 243 = .ok (.return_, 1) := by decide +kernel
theorem dX4_figure_0 : decode cX4_figure 0 = .ok (.iload_n 0, 1) := by decide +kernel
theorem dX4_figure_1 : decode cX4_figure 1 = .ok (.istore_n 2, 1) := by decide +kernel
theorem dX4_figure_2 : decode cX4_figure 2 = .ok (.iconst 0, 1) := by decide +kernel
theorem dX4_figure_3 : decode cX4_figure 3 = .ok (.istore_n 3, 1) := by decide +kernel
theorem dX4_figure_4 : decode cX4_figure 4 = .ok (.iload_n 3, 1) := by decide +kernel
theorem dX4_figure_5 : decode cX4_figure 5 = .ok (.iconst 5, 1) := by decide +kernel
theorem dX4_figure_6 : decode cX4_figure 6 = .ok (.iload_n 1, 1) := by decide +kernel
theorem dX4_figure_7 : decode cX4_figure 7 = .ok (.isub, 1) := by decide +kernel
theorem dX4_figure_8 : decode cX4_figure 8 = .ok (.if_icmp .ge 14, 3) := by decide +kernel
theorem dX4_figure_11 : decode cX4_figure 11 = .ok (.iload_n 2, 1) := by decide +kernel
theorem dX4_figure_12 : decode cX4_figure 12 = .ok (.bipush 7, 2) := by decide +kernel
theorem dX4_figure_14 : decode cX4_figure 14 = .ok (.idiv, 1) := by decide +kernel
theorem dX4_figure_15 : decode cX4_figure 15 = .ok (.istore_n 2, 1) := by decide +kernel
theorem dX4_figure_16 : decode cX4_figure 16 = .ok (.iinc 3 1, 3) := by decide +kernel
theorem dX4_figure_19 : decode cX4_figure 19 = .ok (.goto (-15), 3) := by decide +kernel
theorem dX4_figure_22 : decode cX4_figure 22 = .ok (.iload_n 2, 1) := by decide +kernel
theorem dX4_figure_23 : decode cX4_figure 23 = .ok (.bipush 7, 2) := by decide +kernel
theorem dX4_figure_25 : decode cX4_figure 25 = .ok (.irem, 1) := by decide +kernel
theorem dX4_figure_26 : decode cX4_figure 26 = .ok (.ireturn, 1) := by decide +kernel
theorem dX4_isFalling_0 : decode cX4_isFalling 0 = .ok (.bipush 6, 2) := by decide +kernel
theorem dX4_isFalling_2 : decode cX4_isFalling 2 = .ok (.istore_n 2, 1) := by decide +kernel
theorem dX4_isFalling_3 : decode cX4_isFalling 3 = .ok (.iconst 0, 1) := by decide +kernel
theorem dX4_isFalling_4 : decode cX4_isFalling 4 = .ok (.istore_n 3, 1) := by decide +kernel
theorem dX4_isFalling_5 : decode cX4_isFalling 5 = .ok (.iload_n 0, 1) := by decide +kernel
theorem dX4_isFalling_6 : decode cX4_isFalling 6 = .ok (.istore 4, 2) := by decide +kernel
theorem dX4_isFalling_8 : decode cX4_isFalling 8 = .ok (.iconst 0, 1) := by decide +kernel
theorem dX4_isFalling_9 : decode cX4_isFalling 9 = .ok (.istore 5, 2) := by decide +kernel
theorem dX4_isFalling_11 : decode cX4_isFalling 11 = .ok (.iconst 0, 1) := by decide +kernel
theorem dX4_isFalling_12 : decode cX4_isFalling 12 = .ok (.istore 6, 2) := by decide +kernel
theorem dX4_isFalling_14 : decode cX4_isFalling 14 = .ok (.iload 6, 2) := by decide +kernel
theorem dX4_isFalling_16 : decode cX4_isFalling 16 = .ok (.bipush 6, 2) := by decide +kernel
theorem dX4_isFalling_18 : decode cX4_isFalling 18 = .ok (.if_icmp .ge 47, 3) := by decide +kernel
theorem dX4_isFalling_21 : decode cX4_isFalling 21 = .ok (.iload 4, 2) := by decide +kernel
theorem dX4_isFalling_23 : decode cX4_isFalling 23 = .ok (.bipush 7, 2) := by decide +kernel
theorem dX4_isFalling_25 : decode cX4_isFalling 25 = .ok (.irem, 1) := by decide +kernel
theorem dX4_isFalling_26 : decode cX4_isFalling 26 = .ok (.istore 7, 2) := by decide +kernel
theorem dX4_isFalling_28 : decode cX4_isFalling 28 = .ok (.iload 7, 2) := by decide +kernel
theorem dX4_isFalling_30 : decode cX4_isFalling 30 = .ok (.iload 5, 2) := by decide +kernel
theorem dX4_isFalling_32 : decode cX4_isFalling 32 = .ok (.if_icmp .lt 9, 3) := by decide +kernel
theorem dX4_isFalling_35 : decode cX4_isFalling 35 = .ok (.iload 7, 2) := by decide +kernel
theorem dX4_isFalling_37 : decode cX4_isFalling 37 = .ok (.iload_n 2, 1) := by decide +kernel
theorem dX4_isFalling_38 : decode cX4_isFalling 38 = .ok (.if_icmp .le 5, 3) := by decide +kernel
theorem dX4_isFalling_41 : decode cX4_isFalling 41 = .ok (.iconst 0, 1) := by decide +kernel
theorem dX4_isFalling_42 : decode cX4_isFalling 42 = .ok (.ireturn, 1) := by decide +kernel
theorem dX4_isFalling_43 : decode cX4_isFalling 43 = .ok (.iload 7, 2) := by decide +kernel
theorem dX4_isFalling_45 : decode cX4_isFalling 45 = .ok (.istore 5, 2) := by decide +kernel
theorem dX4_isFalling_47 : decode cX4_isFalling 47 = .ok (.iload_n 3, 1) := by decide +kernel
theorem dX4_isFalling_48 : decode cX4_isFalling 48 = .ok (.iload 7, 2) := by decide +kernel
theorem dX4_isFalling_50 : decode cX4_isFalling 50 = .ok (.iadd, 1) := by decide +kernel
theorem dX4_isFalling_51 : decode cX4_isFalling 51 = .ok (.istore_n 3, 1) := by decide +kernel
theorem dX4_isFalling_52 : decode cX4_isFalling 52 = .ok (.iload 4, 2) := by decide +kernel
theorem dX4_isFalling_54 : decode cX4_isFalling 54 = .ok (.bipush 7, 2) := by decide +kernel
theorem dX4_isFalling_56 : decode cX4_isFalling 56 = .ok (.idiv, 1) := by decide +kernel
theorem dX4_isFalling_57 : decode cX4_isFalling 57 = .ok (.istore 4, 2) := by decide +kernel
theorem dX4_isFalling_59 : decode cX4_isFalling 59 = .ok (.iinc 6 1, 3) := by decide +kernel
theorem dX4_isFalling_62 : decode cX4_isFalling 62 = .ok (.goto (-48), 3) := by decide +kernel
theorem dX4_isFalling_65 : decode cX4_isFalling 65 = .ok (.iload_n 3, 1) := by decide +kernel
theorem dX4_isFalling_66 : decode cX4_isFalling 66 = .ok (.iload_n 1, 1) := by decide +kernel
theorem dX4_isFalling_67 : decode cX4_isFalling 67 = .ok (.if_icmp .ne 7, 3) := by decide +kernel
theorem dX4_isFalling_70 : decode cX4_isFalling 70 = .ok (.iconst 1, 1) := by decide +kernel
theorem dX4_isFalling_71 : decode cX4_isFalling 71 = .ok (.goto 4, 3) := by decide +kernel
theorem dX4_isFalling_74 : decode cX4_isFalling 74 = .ok (.iconst 0, 1) := by decide +kernel
theorem dX4_isFalling_75 : decode cX4_isFalling 75 = .ok (.ireturn, 1) := by decide +kernel
theorem dX4_key_0 : decode cX4_key 0 = .ok (.iload_n 0, 1) := by decide +kernel
theorem dX4_key_1 : decode cX4_key 1 = .ok (.ifCond .ne 7, 3) := by decide +kernel
theorem dX4_key_4 : decode cX4_key 4 = .ok (.iconst 0, 1) := by decide +kernel
theorem dX4_key_5 : decode cX4_key 5 = .ok (.goto 56, 3) := by decide +kernel
theorem dX4_key_8 : decode cX4_key 8 = .ok (.iload_n 0, 1) := by decide +kernel
theorem dX4_key_9 : decode cX4_key 9 = .ok (.iconst 1, 1) := by decide +kernel
theorem dX4_key_10 : decode cX4_key 10 = .ok (.if_icmp .ne 7, 3) := by decide +kernel
theorem dX4_key_13 : decode cX4_key 13 = .ok (.iconst 1, 1) := by decide +kernel
theorem dX4_key_14 : decode cX4_key 14 = .ok (.goto 47, 3) := by decide +kernel
theorem dX4_key_17 : decode cX4_key 17 = .ok (.iload_n 0, 1) := by decide +kernel
theorem dX4_key_18 : decode cX4_key 18 = .ok (.iconst 2, 1) := by decide +kernel
theorem dX4_key_19 : decode cX4_key 19 = .ok (.if_icmp .ne 8, 3) := by decide +kernel
theorem dX4_key_22 : decode cX4_key 22 = .ok (.bipush 7, 2) := by decide +kernel
theorem dX4_key_24 : decode cX4_key 24 = .ok (.goto 37, 3) := by decide +kernel
theorem dX4_key_27 : decode cX4_key 27 = .ok (.iload_n 0, 1) := by decide +kernel
theorem dX4_key_28 : decode cX4_key 28 = .ok (.iconst 3, 1) := by decide +kernel
theorem dX4_key_29 : decode cX4_key 29 = .ok (.if_icmp .ne 8, 3) := by decide +kernel
theorem dX4_key_32 : decode cX4_key 32 = .ok (.bipush 28, 2) := by decide +kernel
theorem dX4_key_34 : decode cX4_key 34 = .ok (.goto 27, 3) := by decide +kernel
theorem dX4_key_37 : decode cX4_key 37 = .ok (.iload_n 0, 1) := by decide +kernel
theorem dX4_key_38 : decode cX4_key 38 = .ok (.iconst 4, 1) := by decide +kernel
theorem dX4_key_39 : decode cX4_key 39 = .ok (.if_icmp .ne 8, 3) := by decide +kernel
theorem dX4_key_42 : decode cX4_key 42 = .ok (.bipush 84, 2) := by decide +kernel
theorem dX4_key_44 : decode cX4_key 44 = .ok (.goto 17, 3) := by decide +kernel
theorem dX4_key_47 : decode cX4_key 47 = .ok (.iload_n 0, 1) := by decide +kernel
theorem dX4_key_48 : decode cX4_key 48 = .ok (.iconst 5, 1) := by decide +kernel
theorem dX4_key_49 : decode cX4_key 49 = .ok (.if_icmp .ne 9, 3) := by decide +kernel
theorem dX4_key_52 : decode cX4_key 52 = .ok (.sipush 168, 3) := by decide +kernel
theorem dX4_key_55 : decode cX4_key 55 = .ok (.goto 6, 3) := by decide +kernel
theorem dX4_key_58 : decode cX4_key 58 = .ok (.sipush 336, 3) := by decide +kernel
theorem dX4_key_61 : decode cX4_key 61 = .ok (.ireturn, 1) := by decide +kernel
theorem dX4_layPartition_0 : decode cX4_layPartition 0 = .ok (.iconst 0, 1) := by decide +kernel
theorem dX4_layPartition_1 : decode cX4_layPartition 1 = .ok (.istore 4, 2) := by decide +kernel
theorem dX4_layPartition_3 : decode cX4_layPartition 3 = .ok (.iconst 0, 1) := by decide +kernel
theorem dX4_layPartition_4 : decode cX4_layPartition 4 = .ok (.istore 5, 2) := by decide +kernel
theorem dX4_layPartition_6 : decode cX4_layPartition 6 = .ok (.iload 5, 2) := by decide +kernel
theorem dX4_layPartition_8 : decode cX4_layPartition 8 = .ok (.bipush 6, 2) := by decide +kernel
theorem dX4_layPartition_10 : decode cX4_layPartition 10 = .ok (.if_icmp .ge 47, 3) := by decide +kernel
theorem dX4_layPartition_13 : decode cX4_layPartition 13 = .ok (.aload_n 0, 1) := by decide +kernel
theorem dX4_layPartition_14 : decode cX4_layPartition 14 = .ok (.getfield 7, 3) := by decide +kernel
theorem dX4_layPartition_17 : decode cX4_layPartition 17 = .ok (.bipush 6, 2) := by decide +kernel
theorem dX4_layPartition_19 : decode cX4_layPartition 19 = .ok (.iload_n 1, 1) := by decide +kernel
theorem dX4_layPartition_20 : decode cX4_layPartition 20 = .ok (.imul, 1) := by decide +kernel
theorem dX4_layPartition_21 : decode cX4_layPartition 21 = .ok (.iload 5, 2) := by decide +kernel
theorem dX4_layPartition_23 : decode cX4_layPartition 23 = .ok (.iadd, 1) := by decide +kernel
theorem dX4_layPartition_24 : decode cX4_layPartition 24 = .ok (.iload_n 2, 1) := by decide +kernel
theorem dX4_layPartition_25 : decode cX4_layPartition 25 = .ok (.iload 5, 2) := by decide +kernel
theorem dX4_layPartition_27 : decode cX4_layPartition 27 = .ok (.invokestatic 83, 3) := by decide +kernel
theorem dX4_layPartition_30 : decode cX4_layPartition 30 = .ok (.iastore, 1) := by decide +kernel
theorem dX4_layPartition_31 : decode cX4_layPartition 31 = .ok (.iload 4, 2) := by decide +kernel
theorem dX4_layPartition_33 : decode cX4_layPartition 33 = .ok (.aload_n 0, 1) := by decide +kernel
theorem dX4_layPartition_34 : decode cX4_layPartition 34 = .ok (.getfield 7, 3) := by decide +kernel
theorem dX4_layPartition_37 : decode cX4_layPartition 37 = .ok (.bipush 6, 2) := by decide +kernel
theorem dX4_layPartition_39 : decode cX4_layPartition 39 = .ok (.iload_n 1, 1) := by decide +kernel
theorem dX4_layPartition_40 : decode cX4_layPartition 40 = .ok (.imul, 1) := by decide +kernel
theorem dX4_layPartition_41 : decode cX4_layPartition 41 = .ok (.iload 5, 2) := by decide +kernel
theorem dX4_layPartition_43 : decode cX4_layPartition 43 = .ok (.iadd, 1) := by decide +kernel
theorem dX4_layPartition_44 : decode cX4_layPartition 44 = .ok (.iaload, 1) := by decide +kernel
theorem dX4_layPartition_45 : decode cX4_layPartition 45 = .ok (.invokestatic 87, 3) := by decide +kernel
theorem dX4_layPartition_48 : decode cX4_layPartition 48 = .ok (.iadd, 1) := by decide +kernel
theorem dX4_layPartition_49 : decode cX4_layPartition 49 = .ok (.istore 4, 2) := by decide +kernel
theorem dX4_layPartition_51 : decode cX4_layPartition 51 = .ok (.iinc 5 1, 3) := by decide +kernel
theorem dX4_layPartition_54 : decode cX4_layPartition 54 = .ok (.goto (-48), 3) := by decide +kernel
theorem dX4_layPartition_57 : decode cX4_layPartition 57 = .ok (.aload_n 0, 1) := by decide +kernel
theorem dX4_layPartition_58 : decode cX4_layPartition 58 = .ok (.getfield 13, 3) := by decide +kernel
theorem dX4_layPartition_61 : decode cX4_layPartition 61 = .ok (.iload_n 1, 1) := by decide +kernel
theorem dX4_layPartition_62 : decode cX4_layPartition 62 = .ok (.iload_n 3, 1) := by decide +kernel
theorem dX4_layPartition_63 : decode cX4_layPartition 63 = .ok (.iastore, 1) := by decide +kernel
theorem dX4_layPartition_64 : decode cX4_layPartition 64 = .ok (.aload_n 0, 1) := by decide +kernel
theorem dX4_layPartition_65 : decode cX4_layPartition 65 = .ok (.getfield 16, 3) := by decide +kernel
theorem dX4_layPartition_68 : decode cX4_layPartition 68 = .ok (.iload 4, 2) := by decide +kernel
theorem dX4_layPartition_70 : decode cX4_layPartition 70 = .ok (.iload_n 1, 1) := by decide +kernel
theorem dX4_layPartition_71 : decode cX4_layPartition 71 = .ok (.iastore, 1) := by decide +kernel
theorem dX4_layPartition_72 : decode cX4_layPartition 72 = .ok (.return_, 1) := by decide +kernel
theorem dX4_at_0 : decode cX4_at 0 = .ok (.bipush 30, 2) := by decide +kernel
theorem dX4_at_2 : decode cX4_at 2 = .ok (.bipush 30, 2) := by decide +kernel
theorem dX4_at_4 : decode cX4_at 4 = .ok (.iload_n 0, 1) := by decide +kernel
theorem dX4_at_5 : decode cX4_at 5 = .ok (.imul, 1) := by decide +kernel
theorem dX4_at_6 : decode cX4_at 6 = .ok (.iload_n 1, 1) := by decide +kernel
theorem dX4_at_7 : decode cX4_at 7 = .ok (.iadd, 1) := by decide +kernel
theorem dX4_at_8 : decode cX4_at 8 = .ok (.imul, 1) := by decide +kernel
theorem dX4_at_9 : decode cX4_at 9 = .ok (.iload_n 2, 1) := by decide +kernel
theorem dX4_at_10 : decode cX4_at 10 = .ok (.iadd, 1) := by decide +kernel
theorem dX4_at_11 : decode cX4_at 11 = .ok (.ireturn, 1) := by decide +kernel
theorem dX4_partOf_0 : decode cX4_partOf 0 = .ok (.aload_n 0, 1) := by decide +kernel
theorem dX4_partOf_1 : decode cX4_partOf 1 = .ok (.getfield 7, 3) := by decide +kernel
theorem dX4_partOf_4 : decode cX4_partOf 4 = .ok (.bipush 6, 2) := by decide +kernel
theorem dX4_partOf_6 : decode cX4_partOf 6 = .ok (.iload_n 1, 1) := by decide +kernel
theorem dX4_partOf_7 : decode cX4_partOf 7 = .ok (.imul, 1) := by decide +kernel
theorem dX4_partOf_8 : decode cX4_partOf 8 = .ok (.iload_n 2, 1) := by decide +kernel
theorem dX4_partOf_9 : decode cX4_partOf 9 = .ok (.iadd, 1) := by decide +kernel
theorem dX4_partOf_10 : decode cX4_partOf 10 = .ok (.iaload, 1) := by decide +kernel
theorem dX4_partOf_11 : decode cX4_partOf 11 = .ok (.ireturn, 1) := by decide +kernel
theorem dX4_lengthOf_0 : decode cX4_lengthOf 0 = .ok (.iconst 0, 1) := by decide +kernel
theorem dX4_lengthOf_1 : decode cX4_lengthOf 1 = .ok (.istore_n 2, 1) := by decide +kernel
theorem dX4_lengthOf_2 : decode cX4_lengthOf 2 = .ok (.iconst 0, 1) := by decide +kernel
theorem dX4_lengthOf_3 : decode cX4_lengthOf 3 = .ok (.istore_n 3, 1) := by decide +kernel
theorem dX4_lengthOf_4 : decode cX4_lengthOf 4 = .ok (.iload_n 3, 1) := by decide +kernel
theorem dX4_lengthOf_5 : decode cX4_lengthOf 5 = .ok (.bipush 6, 2) := by decide +kernel
theorem dX4_lengthOf_7 : decode cX4_lengthOf 7 = .ok (.if_icmp .ge 26, 3) := by decide +kernel
theorem dX4_lengthOf_10 : decode cX4_lengthOf 10 = .ok (.iload_n 2, 1) := by decide +kernel
theorem dX4_lengthOf_11 : decode cX4_lengthOf 11 = .ok (.aload_n 0, 1) := by decide +kernel
theorem dX4_lengthOf_12 : decode cX4_lengthOf 12 = .ok (.iload_n 1, 1) := by decide +kernel
theorem dX4_lengthOf_13 : decode cX4_lengthOf 13 = .ok (.iload_n 3, 1) := by decide +kernel
theorem dX4_lengthOf_14 : decode cX4_lengthOf 14 = .ok (.invokevirtual 91, 3) := by decide +kernel
theorem dX4_lengthOf_17 : decode cX4_lengthOf 17 = .ok (.ifCond .le 7, 3) := by decide +kernel
theorem dX4_lengthOf_20 : decode cX4_lengthOf 20 = .ok (.iconst 1, 1) := by decide +kernel
theorem dX4_lengthOf_21 : decode cX4_lengthOf 21 = .ok (.goto 4, 3) := by decide +kernel
theorem dX4_lengthOf_24 : decode cX4_lengthOf 24 = .ok (.iconst 0, 1) := by decide +kernel
theorem dX4_lengthOf_25 : decode cX4_lengthOf 25 = .ok (.iadd, 1) := by decide +kernel
theorem dX4_lengthOf_26 : decode cX4_lengthOf 26 = .ok (.istore_n 2, 1) := by decide +kernel
theorem dX4_lengthOf_27 : decode cX4_lengthOf 27 = .ok (.iinc 3 1, 3) := by decide +kernel
theorem dX4_lengthOf_30 : decode cX4_lengthOf 30 = .ok (.goto (-26), 3) := by decide +kernel
theorem dX4_lengthOf_33 : decode cX4_lengthOf 33 = .ok (.iload_n 2, 1) := by decide +kernel
theorem dX4_lengthOf_34 : decode cX4_lengthOf 34 = .ok (.ireturn, 1) := by decide +kernel
theorem dX4_multiply_0 : decode cX4_multiply 0 = .ok (.iconst 0, 1) := by decide +kernel
theorem dX4_multiply_1 : decode cX4_multiply 1 = .ok (.istore 7, 2) := by decide +kernel
theorem dX4_multiply_3 : decode cX4_multiply 3 = .ok (.iload 7, 2) := by decide +kernel
theorem dX4_multiply_5 : decode cX4_multiply 5 = .ok (.bipush 30, 2) := by decide +kernel
theorem dX4_multiply_7 : decode cX4_multiply 7 = .ok (.if_icmp .ge 179, 3) := by decide +kernel
theorem dX4_multiply_10 : decode cX4_multiply 10 = .ok (.iconst 1, 1) := by decide +kernel
theorem dX4_multiply_11 : decode cX4_multiply 11 = .ok (.istore 8, 2) := by decide +kernel
theorem dX4_multiply_13 : decode cX4_multiply 13 = .ok (.iconst 0, 1) := by decide +kernel
theorem dX4_multiply_14 : decode cX4_multiply 14 = .ok (.istore 9, 2) := by decide +kernel
theorem dX4_multiply_16 : decode cX4_multiply 16 = .ok (.iload 9, 2) := by decide +kernel
theorem dX4_multiply_18 : decode cX4_multiply 18 = .ok (.bipush 6, 2) := by decide +kernel
theorem dX4_multiply_20 : decode cX4_multiply 20 = .ok (.if_icmp .ge 24, 3) := by decide +kernel
theorem dX4_multiply_23 : decode cX4_multiply 23 = .ok (.iload 8, 2) := by decide +kernel
theorem dX4_multiply_25 : decode cX4_multiply 25 = .ok (.aload_n 0, 1) := by decide +kernel
theorem dX4_multiply_26 : decode cX4_multiply 26 = .ok (.iload 7, 2) := by decide +kernel
theorem dX4_multiply_28 : decode cX4_multiply 28 = .ok (.iload 9, 2) := by decide +kernel
theorem dX4_multiply_30 : decode cX4_multiply 30 = .ok (.invokevirtual 91, 3) := by decide +kernel
theorem dX4_multiply_33 : decode cX4_multiply 33 = .ok (.iconst 1, 1) := by decide +kernel
theorem dX4_multiply_34 : decode cX4_multiply 34 = .ok (.iadd, 1) := by decide +kernel
theorem dX4_multiply_35 : decode cX4_multiply 35 = .ok (.imul, 1) := by decide +kernel
theorem dX4_multiply_36 : decode cX4_multiply 36 = .ok (.istore 8, 2) := by decide +kernel
theorem dX4_multiply_38 : decode cX4_multiply 38 = .ok (.iinc 9 1, 3) := by decide +kernel
theorem dX4_multiply_41 : decode cX4_multiply 41 = .ok (.goto (-25), 3) := by decide +kernel
theorem dX4_multiply_44 : decode cX4_multiply 44 = .ok (.lconst 0, 1) := by decide +kernel
theorem dX4_multiply_45 : decode cX4_multiply 45 = .ok (.lstore 9, 2) := by decide +kernel
theorem dX4_multiply_47 : decode cX4_multiply 47 = .ok (.iconst 0, 1) := by decide +kernel
theorem dX4_multiply_48 : decode cX4_multiply 48 = .ok (.istore 11, 2) := by decide +kernel
theorem dX4_multiply_50 : decode cX4_multiply 50 = .ok (.iload 11, 2) := by decide +kernel
theorem dX4_multiply_52 : decode cX4_multiply 52 = .ok (.iload 8, 2) := by decide +kernel
theorem dX4_multiply_54 : decode cX4_multiply 54 = .ok (.if_icmp .ge 116, 3) := by decide +kernel
theorem dX4_multiply_57 : decode cX4_multiply 57 = .ok (.iconst 0, 1) := by decide +kernel
theorem dX4_multiply_58 : decode cX4_multiply 58 = .ok (.istore 12, 2) := by decide +kernel
theorem dX4_multiply_60 : decode cX4_multiply 60 = .ok (.iconst 0, 1) := by decide +kernel
theorem dX4_multiply_61 : decode cX4_multiply 61 = .ok (.istore 13, 2) := by decide +kernel
theorem dX4_multiply_63 : decode cX4_multiply 63 = .ok (.iload 11, 2) := by decide +kernel
theorem dX4_multiply_65 : decode cX4_multiply 65 = .ok (.istore 14, 2) := by decide +kernel
theorem dX4_multiply_67 : decode cX4_multiply 67 = .ok (.iconst 0, 1) := by decide +kernel
theorem dX4_multiply_68 : decode cX4_multiply 68 = .ok (.istore 15, 2) := by decide +kernel
theorem dX4_multiply_70 : decode cX4_multiply 70 = .ok (.iload 15, 2) := by decide +kernel
theorem dX4_multiply_72 : decode cX4_multiply 72 = .ok (.bipush 6, 2) := by decide +kernel
theorem dX4_multiply_74 : decode cX4_multiply 74 = .ok (.if_icmp .ge 61, 3) := by decide +kernel
theorem dX4_multiply_77 : decode cX4_multiply 77 = .ok (.aload_n 0, 1) := by decide +kernel
theorem dX4_multiply_78 : decode cX4_multiply 78 = .ok (.iload 7, 2) := by decide +kernel
theorem dX4_multiply_80 : decode cX4_multiply 80 = .ok (.iload 15, 2) := by decide +kernel
theorem dX4_multiply_82 : decode cX4_multiply 82 = .ok (.invokevirtual 91, 3) := by decide +kernel
theorem dX4_multiply_85 : decode cX4_multiply 85 = .ok (.istore 16, 2) := by decide +kernel
theorem dX4_multiply_87 : decode cX4_multiply 87 = .ok (.iload 12, 2) := by decide +kernel
theorem dX4_multiply_89 : decode cX4_multiply 89 = .ok (.iload 14, 2) := by decide +kernel
theorem dX4_multiply_91 : decode cX4_multiply 91 = .ok (.iload 16, 2) := by decide +kernel
theorem dX4_multiply_93 : decode cX4_multiply 93 = .ok (.iconst 1, 1) := by decide +kernel
theorem dX4_multiply_94 : decode cX4_multiply 94 = .ok (.iadd, 1) := by decide +kernel
theorem dX4_multiply_95 : decode cX4_multiply 95 = .ok (.irem, 1) := by decide +kernel
theorem dX4_multiply_96 : decode cX4_multiply 96 = .ok (.invokestatic 87, 3) := by decide +kernel
theorem dX4_multiply_99 : decode cX4_multiply 99 = .ok (.iadd, 1) := by decide +kernel
theorem dX4_multiply_100 : decode cX4_multiply 100 = .ok (.istore 12, 2) := by decide +kernel
theorem dX4_multiply_102 : decode cX4_multiply 102 = .ok (.iload 13, 2) := by decide +kernel
theorem dX4_multiply_104 : decode cX4_multiply 104 = .ok (.iload 16, 2) := by decide +kernel
theorem dX4_multiply_106 : decode cX4_multiply 106 = .ok (.iload 14, 2) := by decide +kernel
theorem dX4_multiply_108 : decode cX4_multiply 108 = .ok (.iload 16, 2) := by decide +kernel
theorem dX4_multiply_110 : decode cX4_multiply 110 = .ok (.iconst 1, 1) := by decide +kernel
theorem dX4_multiply_111 : decode cX4_multiply 111 = .ok (.iadd, 1) := by decide +kernel
theorem dX4_multiply_112 : decode cX4_multiply 112 = .ok (.irem, 1) := by decide +kernel
theorem dX4_multiply_113 : decode cX4_multiply 113 = .ok (.isub, 1) := by decide +kernel
theorem dX4_multiply_114 : decode cX4_multiply 114 = .ok (.invokestatic 87, 3) := by decide +kernel
theorem dX4_multiply_117 : decode cX4_multiply 117 = .ok (.iadd, 1) := by decide +kernel
theorem dX4_multiply_118 : decode cX4_multiply 118 = .ok (.istore 13, 2) := by decide +kernel
theorem dX4_multiply_120 : decode cX4_multiply 120 = .ok (.iload 14, 2) := by decide +kernel
theorem dX4_multiply_122 : decode cX4_multiply 122 = .ok (.iload 16, 2) := by decide +kernel
theorem dX4_multiply_124 : decode cX4_multiply 124 = .ok (.iconst 1, 1) := by decide +kernel
theorem dX4_multiply_125 : decode cX4_multiply 125 = .ok (.iadd, 1) := by decide +kernel
theorem dX4_multiply_126 : decode cX4_multiply 126 = .ok (.idiv, 1) := by decide +kernel
theorem dX4_multiply_127 : decode cX4_multiply 127 = .ok (.istore 14, 2) := by decide +kernel
theorem dX4_multiply_129 : decode cX4_multiply 129 = .ok (.iinc 15 1, 3) := by decide +kernel
theorem dX4_multiply_132 : decode cX4_multiply 132 = .ok (.goto (-62), 3) := by decide +kernel
theorem dX4_multiply_135 : decode cX4_multiply 135 = .ok (.lload 9, 2) := by decide +kernel
theorem dX4_multiply_137 : decode cX4_multiply 137 = .ok (.aload_n 1, 1) := by decide +kernel
theorem dX4_multiply_138 : decode cX4_multiply 138 = .ok (.iload_n 2, 1) := by decide +kernel
theorem dX4_multiply_139 : decode cX4_multiply 139 = .ok (.aload_n 0, 1) := by decide +kernel
theorem dX4_multiply_140 : decode cX4_multiply 140 = .ok (.getfield 16, 3) := by decide +kernel
theorem dX4_multiply_143 : decode cX4_multiply 143 = .ok (.iload 12, 2) := by decide +kernel
theorem dX4_multiply_145 : decode cX4_multiply 145 = .ok (.iaload, 1) := by decide +kernel
theorem dX4_multiply_146 : decode cX4_multiply 146 = .ok (.iadd, 1) := by decide +kernel
theorem dX4_multiply_147 : decode cX4_multiply 147 = .ok (.laload, 1) := by decide +kernel
theorem dX4_multiply_148 : decode cX4_multiply 148 = .ok (.aload_n 3, 1) := by decide +kernel
theorem dX4_multiply_149 : decode cX4_multiply 149 = .ok (.iload 4, 2) := by decide +kernel
theorem dX4_multiply_151 : decode cX4_multiply 151 = .ok (.aload_n 0, 1) := by decide +kernel
theorem dX4_multiply_152 : decode cX4_multiply 152 = .ok (.getfield 16, 3) := by decide +kernel
theorem dX4_multiply_155 : decode cX4_multiply 155 = .ok (.iload 13, 2) := by decide +kernel
theorem dX4_multiply_157 : decode cX4_multiply 157 = .ok (.iaload, 1) := by decide +kernel
theorem dX4_multiply_158 : decode cX4_multiply 158 = .ok (.iadd, 1) := by decide +kernel
theorem dX4_multiply_159 : decode cX4_multiply 159 = .ok (.laload, 1) := by decide +kernel
theorem dX4_multiply_160 : decode cX4_multiply 160 = .ok (.lmul, 1) := by decide +kernel
theorem dX4_multiply_161 : decode cX4_multiply 161 = .ok (.ladd, 1) := by decide +kernel
theorem dX4_multiply_162 : decode cX4_multiply 162 = .ok (.lstore 9, 2) := by decide +kernel
theorem dX4_multiply_164 : decode cX4_multiply 164 = .ok (.iinc 11 1, 3) := by decide +kernel
theorem dX4_multiply_167 : decode cX4_multiply 167 = .ok (.goto (-117), 3) := by decide +kernel
theorem dX4_multiply_170 : decode cX4_multiply 170 = .ok (.aload 5, 2) := by decide +kernel
theorem dX4_multiply_172 : decode cX4_multiply 172 = .ok (.iload 6, 2) := by decide +kernel
theorem dX4_multiply_174 : decode cX4_multiply 174 = .ok (.iload 7, 2) := by decide +kernel
theorem dX4_multiply_176 : decode cX4_multiply 176 = .ok (.iadd, 1) := by decide +kernel
theorem dX4_multiply_177 : decode cX4_multiply 177 = .ok (.lload 9, 2) := by decide +kernel
theorem dX4_multiply_179 : decode cX4_multiply 179 = .ok (.lastore, 1) := by decide +kernel
theorem dX4_multiply_180 : decode cX4_multiply 180 = .ok (.iinc 7 1, 3) := by decide +kernel
theorem dX4_multiply_183 : decode cX4_multiply 183 = .ok (.goto (-180), 3) := by decide +kernel
theorem dX4_multiply_186 : decode cX4_multiply 186 = .ok (.return_, 1) := by decide +kernel
theorem dX4_layProduct_0 : decode cX4_layProduct 0 = .ok (.aload_n 0, 1) := by decide +kernel
theorem dX4_layProduct_1 : decode cX4_layProduct 1 = .ok (.iload_n 2, 1) := by decide +kernel
theorem dX4_layProduct_2 : decode cX4_layProduct 2 = .ok (.invokevirtual 94, 3) := by decide +kernel
theorem dX4_layProduct_5 : decode cX4_layProduct 5 = .ok (.istore_n 3, 1) := by decide +kernel
theorem dX4_layProduct_6 : decode cX4_layProduct 6 = .ok (.iload_n 3, 1) := by decide +kernel
theorem dX4_layProduct_7 : decode cX4_layProduct 7 = .ok (.ifCond .ne 16, 3) := by decide +kernel
theorem dX4_layProduct_10 : decode cX4_layProduct 10 = .ok (.aload_n 0, 1) := by decide +kernel
theorem dX4_layProduct_11 : decode cX4_layProduct 11 = .ok (.getfield 19, 3) := by decide +kernel
theorem dX4_layProduct_14 : decode cX4_layProduct 14 = .ok (.iload_n 1, 1) := by decide +kernel
theorem dX4_layProduct_15 : decode cX4_layProduct 15 = .ok (.iload_n 2, 1) := by decide +kernel
theorem dX4_layProduct_16 : decode cX4_layProduct 16 = .ok (.iconst 0, 1) := by decide +kernel
theorem dX4_layProduct_17 : decode cX4_layProduct 17 = .ok (.invokestatic 75, 3) := by decide +kernel
theorem dX4_layProduct_20 : decode cX4_layProduct 20 = .ok (.lconst 1, 1) := by decide +kernel
theorem dX4_layProduct_21 : decode cX4_layProduct 21 = .ok (.lastore, 1) := by decide +kernel
theorem dX4_layProduct_22 : decode cX4_layProduct 22 = .ok (.return_, 1) := by decide +kernel
theorem dX4_layProduct_23 : decode cX4_layProduct 23 = .ok (.aload_n 0, 1) := by decide +kernel
theorem dX4_layProduct_24 : decode cX4_layProduct 24 = .ok (.iload_n 2, 1) := by decide +kernel
theorem dX4_layProduct_25 : decode cX4_layProduct 25 = .ok (.iload_n 3, 1) := by decide +kernel
theorem dX4_layProduct_26 : decode cX4_layProduct 26 = .ok (.iconst 1, 1) := by decide +kernel
theorem dX4_layProduct_27 : decode cX4_layProduct 27 = .ok (.isub, 1) := by decide +kernel
theorem dX4_layProduct_28 : decode cX4_layProduct 28 = .ok (.invokevirtual 91, 3) := by decide +kernel
theorem dX4_layProduct_31 : decode cX4_layProduct 31 = .ok (.istore 4, 2) := by decide +kernel
theorem dX4_layProduct_33 : decode cX4_layProduct 33 = .ok (.iconst 0, 1) := by decide +kernel
theorem dX4_layProduct_34 : decode cX4_layProduct 34 = .ok (.istore 5, 2) := by decide +kernel
theorem dX4_layProduct_36 : decode cX4_layProduct 36 = .ok (.iconst 0, 1) := by decide +kernel
theorem dX4_layProduct_37 : decode cX4_layProduct 37 = .ok (.istore 6, 2) := by decide +kernel
theorem dX4_layProduct_39 : decode cX4_layProduct 39 = .ok (.iload 6, 2) := by decide +kernel
theorem dX4_layProduct_41 : decode cX4_layProduct 41 = .ok (.iload_n 3, 1) := by decide +kernel
theorem dX4_layProduct_42 : decode cX4_layProduct 42 = .ok (.iconst 1, 1) := by decide +kernel
theorem dX4_layProduct_43 : decode cX4_layProduct 43 = .ok (.isub, 1) := by decide +kernel
theorem dX4_layProduct_44 : decode cX4_layProduct 44 = .ok (.if_icmp .ge 24, 3) := by decide +kernel
theorem dX4_layProduct_47 : decode cX4_layProduct 47 = .ok (.iload 5, 2) := by decide +kernel
theorem dX4_layProduct_49 : decode cX4_layProduct 49 = .ok (.aload_n 0, 1) := by decide +kernel
theorem dX4_layProduct_50 : decode cX4_layProduct 50 = .ok (.iload_n 2, 1) := by decide +kernel
theorem dX4_layProduct_51 : decode cX4_layProduct 51 = .ok (.iload 6, 2) := by decide +kernel
theorem dX4_layProduct_53 : decode cX4_layProduct 53 = .ok (.invokevirtual 91, 3) := by decide +kernel
theorem dX4_layProduct_56 : decode cX4_layProduct 56 = .ok (.invokestatic 87, 3) := by decide +kernel
theorem dX4_layProduct_59 : decode cX4_layProduct 59 = .ok (.iadd, 1) := by decide +kernel
theorem dX4_layProduct_60 : decode cX4_layProduct 60 = .ok (.istore 5, 2) := by decide +kernel
theorem dX4_layProduct_62 : decode cX4_layProduct 62 = .ok (.iinc 6 1, 3) := by decide +kernel
theorem dX4_layProduct_65 : decode cX4_layProduct 65 = .ok (.goto (-26), 3) := by decide +kernel
theorem dX4_layProduct_68 : decode cX4_layProduct 68 = .ok (.iconst 0, 1) := by decide +kernel
theorem dX4_layProduct_69 : decode cX4_layProduct 69 = .ok (.istore 6, 2) := by decide +kernel
theorem dX4_layProduct_71 : decode cX4_layProduct 71 = .ok (.iload 6, 2) := by decide +kernel
theorem dX4_layProduct_73 : decode cX4_layProduct 73 = .ok (.bipush 30, 2) := by decide +kernel
theorem dX4_layProduct_75 : decode cX4_layProduct 75 = .ok (.if_icmp .ge 81, 3) := by decide +kernel
theorem dX4_layProduct_78 : decode cX4_layProduct 78 = .ok (.aload_n 0, 1) := by decide +kernel
theorem dX4_layProduct_79 : decode cX4_layProduct 79 = .ok (.getfield 13, 3) := by decide +kernel
theorem dX4_layProduct_82 : decode cX4_layProduct 82 = .ok (.iload 6, 2) := by decide +kernel
theorem dX4_layProduct_84 : decode cX4_layProduct 84 = .ok (.iaload, 1) := by decide +kernel
theorem dX4_layProduct_85 : decode cX4_layProduct 85 = .ok (.iload 4, 2) := by decide +kernel
theorem dX4_layProduct_87 : decode cX4_layProduct 87 = .ok (.if_icmp .ne 43, 3) := by decide +kernel
theorem dX4_layProduct_90 : decode cX4_layProduct 90 = .ok (.iload_n 1, 1) := by decide +kernel
theorem dX4_layProduct_91 : decode cX4_layProduct 91 = .ok (.iconst 2, 1) := by decide +kernel
theorem dX4_layProduct_92 : decode cX4_layProduct 92 = .ok (.if_icmp .eq 34, 3) := by decide +kernel
theorem dX4_layProduct_95 : decode cX4_layProduct 95 = .ok (.iload_n 1, 1) := by decide +kernel
theorem dX4_layProduct_96 : decode cX4_layProduct 96 = .ok (.iconst 1, 1) := by decide +kernel
theorem dX4_layProduct_97 : decode cX4_layProduct 97 = .ok (.if_icmp .ne 14, 3) := by decide +kernel
theorem dX4_layProduct_100 : decode cX4_layProduct 100 = .ok (.aload_n 0, 1) := by decide +kernel
theorem dX4_layProduct_101 : decode cX4_layProduct 101 = .ok (.iload 6, 2) := by decide +kernel
theorem dX4_layProduct_103 : decode cX4_layProduct 103 = .ok (.iconst 0, 1) := by decide +kernel
theorem dX4_layProduct_104 : decode cX4_layProduct 104 = .ok (.invokevirtual 91, 3) := by decide +kernel
theorem dX4_layProduct_107 : decode cX4_layProduct 107 = .ok (.iconst 1, 1) := by decide +kernel
theorem dX4_layProduct_108 : decode cX4_layProduct 108 = .ok (.if_icmp .eq 18, 3) := by decide +kernel
theorem dX4_layProduct_111 : decode cX4_layProduct 111 = .ok (.iload_n 1, 1) := by decide +kernel
theorem dX4_layProduct_112 : decode cX4_layProduct 112 = .ok (.iconst 3, 1) := by decide +kernel
theorem dX4_layProduct_113 : decode cX4_layProduct 113 = .ok (.if_icmp .ne 17, 3) := by decide +kernel
theorem dX4_layProduct_116 : decode cX4_layProduct 116 = .ok (.aload_n 0, 1) := by decide +kernel
theorem dX4_layProduct_117 : decode cX4_layProduct 117 = .ok (.iload 6, 2) := by decide +kernel
theorem dX4_layProduct_119 : decode cX4_layProduct 119 = .ok (.invokevirtual 94, 3) := by decide +kernel
theorem dX4_layProduct_122 : decode cX4_layProduct 122 = .ok (.iconst 1, 1) := by decide +kernel
theorem dX4_layProduct_123 : decode cX4_layProduct 123 = .ok (.if_icmp .ne 7, 3) := by decide +kernel
theorem dX4_layProduct_126 : decode cX4_layProduct 126 = .ok (.iconst 1, 1) := by decide +kernel
theorem dX4_layProduct_127 : decode cX4_layProduct 127 = .ok (.goto 4, 3) := by decide +kernel
theorem dX4_layProduct_130 : decode cX4_layProduct 130 = .ok (.iconst 0, 1) := by decide +kernel
theorem dX4_layProduct_131 : decode cX4_layProduct 131 = .ok (.istore 7, 2) := by decide +kernel
theorem dX4_layProduct_133 : decode cX4_layProduct 133 = .ok (.aload_n 0, 1) := by decide +kernel
theorem dX4_layProduct_134 : decode cX4_layProduct 134 = .ok (.getfield 26, 3) := by decide +kernel
theorem dX4_layProduct_137 : decode cX4_layProduct 137 = .ok (.iload 6, 2) := by decide +kernel
theorem dX4_layProduct_139 : decode cX4_layProduct 139 = .ok (.iload 7, 2) := by decide +kernel
theorem dX4_layProduct_141 : decode cX4_layProduct 141 = .ok (.ifCond .eq 7, 3) := by decide +kernel
theorem dX4_layProduct_144 : decode cX4_layProduct 144 = .ok (.lconst 1, 1) := by decide +kernel
theorem dX4_layProduct_145 : decode cX4_layProduct 145 = .ok (.goto 4, 3) := by decide +kernel
theorem dX4_layProduct_148 : decode cX4_layProduct 148 = .ok (.lconst 0, 1) := by decide +kernel
theorem dX4_layProduct_149 : decode cX4_layProduct 149 = .ok (.lastore, 1) := by decide +kernel
theorem dX4_layProduct_150 : decode cX4_layProduct 150 = .ok (.iinc 6 1, 3) := by decide +kernel
theorem dX4_layProduct_153 : decode cX4_layProduct 153 = .ok (.goto (-82), 3) := by decide +kernel
theorem dX4_layProduct_156 : decode cX4_layProduct 156 = .ok (.aload_n 0, 1) := by decide +kernel
theorem dX4_layProduct_157 : decode cX4_layProduct 157 = .ok (.aload_n 0, 1) := by decide +kernel
theorem dX4_layProduct_158 : decode cX4_layProduct 158 = .ok (.getfield 19, 3) := by decide +kernel
theorem dX4_layProduct_161 : decode cX4_layProduct 161 = .ok (.iload_n 1, 1) := by decide +kernel
theorem dX4_layProduct_162 : decode cX4_layProduct 162 = .ok (.aload_n 0, 1) := by decide +kernel
theorem dX4_layProduct_163 : decode cX4_layProduct 163 = .ok (.getfield 16, 3) := by decide +kernel
theorem dX4_layProduct_166 : decode cX4_layProduct 166 = .ok (.iload 5, 2) := by decide +kernel
theorem dX4_layProduct_168 : decode cX4_layProduct 168 = .ok (.iaload, 1) := by decide +kernel
theorem dX4_layProduct_169 : decode cX4_layProduct 169 = .ok (.iconst 0, 1) := by decide +kernel
theorem dX4_layProduct_170 : decode cX4_layProduct 170 = .ok (.invokestatic 75, 3) := by decide +kernel
theorem dX4_layProduct_173 : decode cX4_layProduct 173 = .ok (.aload_n 0, 1) := by decide +kernel
theorem dX4_layProduct_174 : decode cX4_layProduct 174 = .ok (.getfield 26, 3) := by decide +kernel
theorem dX4_layProduct_177 : decode cX4_layProduct 177 = .ok (.iconst 0, 1) := by decide +kernel
theorem dX4_layProduct_178 : decode cX4_layProduct 178 = .ok (.aload_n 0, 1) := by decide +kernel
theorem dX4_layProduct_179 : decode cX4_layProduct 179 = .ok (.getfield 19, 3) := by decide +kernel
theorem dX4_layProduct_182 : decode cX4_layProduct 182 = .ok (.iload_n 1, 1) := by decide +kernel
theorem dX4_layProduct_183 : decode cX4_layProduct 183 = .ok (.iload_n 2, 1) := by decide +kernel
theorem dX4_layProduct_184 : decode cX4_layProduct 184 = .ok (.iconst 0, 1) := by decide +kernel
theorem dX4_layProduct_185 : decode cX4_layProduct 185 = .ok (.invokestatic 75, 3) := by decide +kernel
theorem dX4_layProduct_188 : decode cX4_layProduct 188 = .ok (.invokevirtual 97, 3) := by decide +kernel
theorem dX4_layProduct_191 : decode cX4_layProduct 191 = .ok (.return_, 1) := by decide +kernel
theorem dX4_in_0 : decode cX4_in 0 = .ok (.iload_n 0, 1) := by decide +kernel
theorem dX4_in_1 : decode cX4_in 1 = .ok (.iload_n 1, 1) := by decide +kernel
theorem dX4_in_2 : decode cX4_in 2 = .ok (.if_icmp .lt 12, 3) := by decide +kernel
theorem dX4_in_5 : decode cX4_in 5 = .ok (.iload_n 0, 1) := by decide +kernel
theorem dX4_in_6 : decode cX4_in 6 = .ok (.iload_n 2, 1) := by decide +kernel
theorem dX4_in_7 : decode cX4_in 7 = .ok (.if_icmp .gt 7, 3) := by decide +kernel
theorem dX4_in_10 : decode cX4_in 10 = .ok (.iconst 1, 1) := by decide +kernel
theorem dX4_in_11 : decode cX4_in 11 = .ok (.goto 4, 3) := by decide +kernel
theorem dX4_in_14 : decode cX4_in 14 = .ok (.iconst 0, 1) := by decide +kernel
theorem dX4_in_15 : decode cX4_in 15 = .ok (.ireturn, 1) := by decide +kernel
theorem dX4_isPartition_0 : decode cX4_isPartition 0 = .ok (.iload_n 0, 1) := by decide +kernel
theorem dX4_isPartition_1 : decode cX4_isPartition 1 = .ok (.iconst 0, 1) := by decide +kernel
theorem dX4_isPartition_2 : decode cX4_isPartition 2 = .ok (.bipush 29, 2) := by decide +kernel
theorem dX4_isPartition_4 : decode cX4_isPartition 4 = .ok (.invokestatic 101, 3) := by decide +kernel
theorem dX4_isPartition_7 : decode cX4_isPartition 7 = .ok (.ireturn, 1) := by decide +kernel
theorem dX4_isSlot_0 : decode cX4_isSlot 0 = .ok (.iload_n 0, 1) := by decide +kernel
theorem dX4_isSlot_1 : decode cX4_isSlot 1 = .ok (.iconst 0, 1) := by decide +kernel
theorem dX4_isSlot_2 : decode cX4_isSlot 2 = .ok (.bipush 7, 2) := by decide +kernel
theorem dX4_isSlot_4 : decode cX4_isSlot 4 = .ok (.invokestatic 101, 3) := by decide +kernel
theorem dX4_isSlot_7 : decode cX4_isSlot 7 = .ok (.ireturn, 1) := by decide +kernel
theorem dX4_isFilled_0 : decode cX4_isFilled 0 = .ok (.iload_n 3, 1) := by decide +kernel
theorem dX4_isFilled_1 : decode cX4_isFilled 1 = .ok (.istore 5, 2) := by decide +kernel
theorem dX4_isFilled_3 : decode cX4_isFilled 3 = .ok (.iconst 0, 1) := by decide +kernel
theorem dX4_isFilled_4 : decode cX4_isFilled 4 = .ok (.istore 6, 2) := by decide +kernel
theorem dX4_isFilled_6 : decode cX4_isFilled 6 = .ok (.iload 6, 2) := by decide +kernel
theorem dX4_isFilled_8 : decode cX4_isFilled 8 = .ok (.bipush 6, 2) := by decide +kernel
theorem dX4_isFilled_10 : decode cX4_isFilled 10 = .ok (.if_icmp .ge 17, 3) := by decide +kernel
theorem dX4_isFilled_13 : decode cX4_isFilled 13 = .ok (.aload_n 0, 1) := by decide +kernel
theorem dX4_isFilled_14 : decode cX4_isFilled 14 = .ok (.getfield 32, 3) := by decide +kernel
theorem dX4_isFilled_17 : decode cX4_isFilled 17 = .ok (.iload 6, 2) := by decide +kernel
theorem dX4_isFilled_19 : decode cX4_isFilled 19 = .ok (.iconst 0, 1) := by decide +kernel
theorem dX4_isFilled_20 : decode cX4_isFilled 20 = .ok (.iastore, 1) := by decide +kernel
theorem dX4_isFilled_21 : decode cX4_isFilled 21 = .ok (.iinc 6 1, 3) := by decide +kernel
theorem dX4_isFilled_24 : decode cX4_isFilled 24 = .ok (.goto (-18), 3) := by decide +kernel
theorem dX4_isFilled_27 : decode cX4_isFilled 27 = .ok (.iconst 0, 1) := by decide +kernel
theorem dX4_isFilled_28 : decode cX4_isFilled 28 = .ok (.istore 6, 2) := by decide +kernel
theorem dX4_isFilled_30 : decode cX4_isFilled 30 = .ok (.iload 6, 2) := by decide +kernel
theorem dX4_isFilled_32 : decode cX4_isFilled 32 = .ok (.aload_n 0, 1) := by decide +kernel
theorem dX4_isFilled_33 : decode cX4_isFilled 33 = .ok (.getfield 13, 3) := by decide +kernel
theorem dX4_isFilled_36 : decode cX4_isFilled 36 = .ok (.iload_n 1, 1) := by decide +kernel
theorem dX4_isFilled_37 : decode cX4_isFilled 37 = .ok (.iaload, 1) := by decide +kernel
theorem dX4_isFilled_38 : decode cX4_isFilled 38 = .ok (.if_icmp .ge 44, 3) := by decide +kernel
theorem dX4_isFilled_41 : decode cX4_isFilled 41 = .ok (.aload_n 0, 1) := by decide +kernel
theorem dX4_isFilled_42 : decode cX4_isFilled 42 = .ok (.getfield 29, 3) := by decide +kernel
theorem dX4_isFilled_45 : decode cX4_isFilled 45 = .ok (.iload 6, 2) := by decide +kernel
theorem dX4_isFilled_47 : decode cX4_isFilled 47 = .ok (.iload 5, 2) := by decide +kernel
theorem dX4_isFilled_49 : decode cX4_isFilled 49 = .ok (.iload 4, 2) := by decide +kernel
theorem dX4_isFilled_51 : decode cX4_isFilled 51 = .ok (.irem, 1) := by decide +kernel
theorem dX4_isFilled_52 : decode cX4_isFilled 52 = .ok (.iastore, 1) := by decide +kernel
theorem dX4_isFilled_53 : decode cX4_isFilled 53 = .ok (.aload_n 0, 1) := by decide +kernel
theorem dX4_isFilled_54 : decode cX4_isFilled 54 = .ok (.getfield 32, 3) := by decide +kernel
theorem dX4_isFilled_57 : decode cX4_isFilled 57 = .ok (.aload_n 0, 1) := by decide +kernel
theorem dX4_isFilled_58 : decode cX4_isFilled 58 = .ok (.getfield 29, 3) := by decide +kernel
theorem dX4_isFilled_61 : decode cX4_isFilled 61 = .ok (.iload 6, 2) := by decide +kernel
theorem dX4_isFilled_63 : decode cX4_isFilled 63 = .ok (.iaload, 1) := by decide +kernel
theorem dX4_isFilled_64 : decode cX4_isFilled 64 = .ok (.dup2, 1) := by decide +kernel
theorem dX4_isFilled_65 : decode cX4_isFilled 65 = .ok (.iaload, 1) := by decide +kernel
theorem dX4_isFilled_66 : decode cX4_isFilled 66 = .ok (.iconst 1, 1) := by decide +kernel
theorem dX4_isFilled_67 : decode cX4_isFilled 67 = .ok (.iadd, 1) := by decide +kernel
theorem dX4_isFilled_68 : decode cX4_isFilled 68 = .ok (.iastore, 1) := by decide +kernel
theorem dX4_isFilled_69 : decode cX4_isFilled 69 = .ok (.iload 5, 2) := by decide +kernel
theorem dX4_isFilled_71 : decode cX4_isFilled 71 = .ok (.iload 4, 2) := by decide +kernel
theorem dX4_isFilled_73 : decode cX4_isFilled 73 = .ok (.idiv, 1) := by decide +kernel
theorem dX4_isFilled_74 : decode cX4_isFilled 74 = .ok (.istore 5, 2) := by decide +kernel
theorem dX4_isFilled_76 : decode cX4_isFilled 76 = .ok (.iinc 6 1, 3) := by decide +kernel
theorem dX4_isFilled_79 : decode cX4_isFilled 79 = .ok (.goto (-49), 3) := by decide +kernel
theorem dX4_isFilled_82 : decode cX4_isFilled 82 = .ok (.iconst 0, 1) := by decide +kernel
theorem dX4_isFilled_83 : decode cX4_isFilled 83 = .ok (.istore 6, 2) := by decide +kernel
theorem dX4_isFilled_85 : decode cX4_isFilled 85 = .ok (.iload 6, 2) := by decide +kernel
theorem dX4_isFilled_87 : decode cX4_isFilled 87 = .ok (.bipush 6, 2) := by decide +kernel
theorem dX4_isFilled_89 : decode cX4_isFilled 89 = .ok (.if_icmp .ge 28, 3) := by decide +kernel
theorem dX4_isFilled_92 : decode cX4_isFilled 92 = .ok (.aload_n 0, 1) := by decide +kernel
theorem dX4_isFilled_93 : decode cX4_isFilled 93 = .ok (.getfield 32, 3) := by decide +kernel
theorem dX4_isFilled_96 : decode cX4_isFilled 96 = .ok (.iload 6, 2) := by decide +kernel
theorem dX4_isFilled_98 : decode cX4_isFilled 98 = .ok (.iaload, 1) := by decide +kernel
theorem dX4_isFilled_99 : decode cX4_isFilled 99 = .ok (.aload_n 0, 1) := by decide +kernel
theorem dX4_isFilled_100 : decode cX4_isFilled 100 = .ok (.iload_n 2, 1) := by decide +kernel
theorem dX4_isFilled_101 : decode cX4_isFilled 101 = .ok (.iload 6, 2) := by decide +kernel
theorem dX4_isFilled_103 : decode cX4_isFilled 103 = .ok (.invokevirtual 91, 3) := by decide +kernel
theorem dX4_isFilled_106 : decode cX4_isFilled 106 = .ok (.if_icmp .eq 5, 3) := by decide +kernel
theorem dX4_isFilled_109 : decode cX4_isFilled 109 = .ok (.iconst 0, 1) := by decide +kernel
theorem dX4_isFilled_110 : decode cX4_isFilled 110 = .ok (.ireturn, 1) := by decide +kernel
theorem dX4_isFilled_111 : decode cX4_isFilled 111 = .ok (.iinc 6 1, 3) := by decide +kernel
theorem dX4_isFilled_114 : decode cX4_isFilled 114 = .ok (.goto (-29), 3) := by decide +kernel
theorem dX4_isFilled_117 : decode cX4_isFilled 117 = .ok (.iconst 0, 1) := by decide +kernel
theorem dX4_isFilled_118 : decode cX4_isFilled 118 = .ok (.istore 6, 2) := by decide +kernel
theorem dX4_isFilled_120 : decode cX4_isFilled 120 = .ok (.iconst 0, 1) := by decide +kernel
theorem dX4_isFilled_121 : decode cX4_isFilled 121 = .ok (.istore 7, 2) := by decide +kernel
theorem dX4_isFilled_123 : decode cX4_isFilled 123 = .ok (.iconst 0, 1) := by decide +kernel
theorem dX4_isFilled_124 : decode cX4_isFilled 124 = .ok (.istore 8, 2) := by decide +kernel
theorem dX4_isFilled_126 : decode cX4_isFilled 126 = .ok (.iload 8, 2) := by decide +kernel
theorem dX4_isFilled_128 : decode cX4_isFilled 128 = .ok (.bipush 6, 2) := by decide +kernel
theorem dX4_isFilled_130 : decode cX4_isFilled 130 = .ok (.if_icmp .ge 106, 3) := by decide +kernel
theorem dX4_isFilled_133 : decode cX4_isFilled 133 = .ok (.iconst 0, 1) := by decide +kernel
theorem dX4_isFilled_134 : decode cX4_isFilled 134 = .ok (.istore 9, 2) := by decide +kernel
theorem dX4_isFilled_136 : decode cX4_isFilled 136 = .ok (.iload 9, 2) := by decide +kernel
theorem dX4_isFilled_138 : decode cX4_isFilled 138 = .ok (.aload_n 0, 1) := by decide +kernel
theorem dX4_isFilled_139 : decode cX4_isFilled 139 = .ok (.iload_n 1, 1) := by decide +kernel
theorem dX4_isFilled_140 : decode cX4_isFilled 140 = .ok (.iload 8, 2) := by decide +kernel
theorem dX4_isFilled_142 : decode cX4_isFilled 142 = .ok (.invokevirtual 91, 3) := by decide +kernel
theorem dX4_isFilled_145 : decode cX4_isFilled 145 = .ok (.if_icmp .ge 69, 3) := by decide +kernel
theorem dX4_isFilled_148 : decode cX4_isFilled 148 = .ok (.iload 9, 2) := by decide +kernel
theorem dX4_isFilled_150 : decode cX4_isFilled 150 = .ok (.ifCond .le 28, 3) := by decide +kernel
theorem dX4_isFilled_153 : decode cX4_isFilled 153 = .ok (.aload_n 0, 1) := by decide +kernel
theorem dX4_isFilled_154 : decode cX4_isFilled 154 = .ok (.getfield 29, 3) := by decide +kernel
theorem dX4_isFilled_157 : decode cX4_isFilled 157 = .ok (.iload 6, 2) := by decide +kernel
theorem dX4_isFilled_159 : decode cX4_isFilled 159 = .ok (.iload 9, 2) := by decide +kernel
theorem dX4_isFilled_161 : decode cX4_isFilled 161 = .ok (.iadd, 1) := by decide +kernel
theorem dX4_isFilled_162 : decode cX4_isFilled 162 = .ok (.iaload, 1) := by decide +kernel
theorem dX4_isFilled_163 : decode cX4_isFilled 163 = .ok (.aload_n 0, 1) := by decide +kernel
theorem dX4_isFilled_164 : decode cX4_isFilled 164 = .ok (.getfield 29, 3) := by decide +kernel
theorem dX4_isFilled_167 : decode cX4_isFilled 167 = .ok (.iload 6, 2) := by decide +kernel
theorem dX4_isFilled_169 : decode cX4_isFilled 169 = .ok (.iload 9, 2) := by decide +kernel
theorem dX4_isFilled_171 : decode cX4_isFilled 171 = .ok (.iadd, 1) := by decide +kernel
theorem dX4_isFilled_172 : decode cX4_isFilled 172 = .ok (.iconst 1, 1) := by decide +kernel
theorem dX4_isFilled_173 : decode cX4_isFilled 173 = .ok (.isub, 1) := by decide +kernel
theorem dX4_isFilled_174 : decode cX4_isFilled 174 = .ok (.iaload, 1) := by decide +kernel
theorem dX4_isFilled_175 : decode cX4_isFilled 175 = .ok (.if_icmp .lt 31, 3) := by decide +kernel
theorem dX4_isFilled_178 : decode cX4_isFilled 178 = .ok (.iload 8, 2) := by decide +kernel
theorem dX4_isFilled_180 : decode cX4_isFilled 180 = .ok (.ifCond .le 28, 3) := by decide +kernel
theorem dX4_isFilled_183 : decode cX4_isFilled 183 = .ok (.aload_n 0, 1) := by decide +kernel
theorem dX4_isFilled_184 : decode cX4_isFilled 184 = .ok (.getfield 29, 3) := by decide +kernel
theorem dX4_isFilled_187 : decode cX4_isFilled 187 = .ok (.iload 6, 2) := by decide +kernel
theorem dX4_isFilled_189 : decode cX4_isFilled 189 = .ok (.iload 9, 2) := by decide +kernel
theorem dX4_isFilled_191 : decode cX4_isFilled 191 = .ok (.iadd, 1) := by decide +kernel
theorem dX4_isFilled_192 : decode cX4_isFilled 192 = .ok (.iaload, 1) := by decide +kernel
theorem dX4_isFilled_193 : decode cX4_isFilled 193 = .ok (.aload_n 0, 1) := by decide +kernel
theorem dX4_isFilled_194 : decode cX4_isFilled 194 = .ok (.getfield 29, 3) := by decide +kernel
theorem dX4_isFilled_197 : decode cX4_isFilled 197 = .ok (.iload 7, 2) := by decide +kernel
theorem dX4_isFilled_199 : decode cX4_isFilled 199 = .ok (.iload 9, 2) := by decide +kernel
theorem dX4_isFilled_201 : decode cX4_isFilled 201 = .ok (.iadd, 1) := by decide +kernel
theorem dX4_isFilled_202 : decode cX4_isFilled 202 = .ok (.iaload, 1) := by decide +kernel
theorem dX4_isFilled_203 : decode cX4_isFilled 203 = .ok (.if_icmp .gt 5, 3) := by decide +kernel
theorem dX4_isFilled_206 : decode cX4_isFilled 206 = .ok (.iconst 0, 1) := by decide +kernel
theorem dX4_isFilled_207 : decode cX4_isFilled 207 = .ok (.ireturn, 1) := by decide +kernel
theorem dX4_isFilled_208 : decode cX4_isFilled 208 = .ok (.iinc 9 1, 3) := by decide +kernel
theorem dX4_isFilled_211 : decode cX4_isFilled 211 = .ok (.goto (-75), 3) := by decide +kernel
theorem dX4_isFilled_214 : decode cX4_isFilled 214 = .ok (.iload 6, 2) := by decide +kernel
theorem dX4_isFilled_216 : decode cX4_isFilled 216 = .ok (.istore 7, 2) := by decide +kernel
theorem dX4_isFilled_218 : decode cX4_isFilled 218 = .ok (.iload 6, 2) := by decide +kernel
theorem dX4_isFilled_220 : decode cX4_isFilled 220 = .ok (.aload_n 0, 1) := by decide +kernel
theorem dX4_isFilled_221 : decode cX4_isFilled 221 = .ok (.iload_n 1, 1) := by decide +kernel
theorem dX4_isFilled_222 : decode cX4_isFilled 222 = .ok (.iload 8, 2) := by decide +kernel
theorem dX4_isFilled_224 : decode cX4_isFilled 224 = .ok (.invokevirtual 91, 3) := by decide +kernel
theorem dX4_isFilled_227 : decode cX4_isFilled 227 = .ok (.iadd, 1) := by decide +kernel
theorem dX4_isFilled_228 : decode cX4_isFilled 228 = .ok (.istore 6, 2) := by decide +kernel
theorem dX4_isFilled_230 : decode cX4_isFilled 230 = .ok (.iinc 8 1, 3) := by decide +kernel
theorem dX4_isFilled_233 : decode cX4_isFilled 233 = .ok (.goto (-107), 3) := by decide +kernel
theorem dX4_isFilled_236 : decode cX4_isFilled 236 = .ok (.iconst 1, 1) := by decide +kernel
theorem dX4_isFilled_237 : decode cX4_isFilled 237 = .ok (.ireturn, 1) := by decide +kernel
theorem dX4_fillings_0 : decode cX4_fillings 0 = .ok (.aload_n 0, 1) := by decide +kernel
theorem dX4_fillings_1 : decode cX4_fillings 1 = .ok (.getfield 13, 3) := by decide +kernel
theorem dX4_fillings_4 : decode cX4_fillings 4 = .ok (.iload_n 1, 1) := by decide +kernel
theorem dX4_fillings_5 : decode cX4_fillings 5 = .ok (.iaload, 1) := by decide +kernel
theorem dX4_fillings_6 : decode cX4_fillings 6 = .ok (.aload_n 0, 1) := by decide +kernel
theorem dX4_fillings_7 : decode cX4_fillings 7 = .ok (.getfield 13, 3) := by decide +kernel
theorem dX4_fillings_10 : decode cX4_fillings 10 = .ok (.iload_n 2, 1) := by decide +kernel
theorem dX4_fillings_11 : decode cX4_fillings 11 = .ok (.iaload, 1) := by decide +kernel
theorem dX4_fillings_12 : decode cX4_fillings 12 = .ok (.if_icmp .eq 5, 3) := by decide +kernel
theorem dX4_fillings_15 : decode cX4_fillings 15 = .ok (.iconst 0, 1) := by decide +kernel
theorem dX4_fillings_16 : decode cX4_fillings 16 = .ok (.ireturn, 1) := by decide +kernel
theorem dX4_fillings_17 : decode cX4_fillings 17 = .ok (.aload_n 0, 1) := by decide +kernel
theorem dX4_fillings_18 : decode cX4_fillings 18 = .ok (.iload_n 2, 1) := by decide +kernel
theorem dX4_fillings_19 : decode cX4_fillings 19 = .ok (.invokevirtual 94, 3) := by decide +kernel
theorem dX4_fillings_22 : decode cX4_fillings 22 = .ok (.istore_n 3, 1) := by decide +kernel
theorem dX4_fillings_23 : decode cX4_fillings 23 = .ok (.iconst 1, 1) := by decide +kernel
theorem dX4_fillings_24 : decode cX4_fillings 24 = .ok (.istore 4, 2) := by decide +kernel
theorem dX4_fillings_26 : decode cX4_fillings 26 = .ok (.iconst 0, 1) := by decide +kernel
theorem dX4_fillings_27 : decode cX4_fillings 27 = .ok (.istore 5, 2) := by decide +kernel
theorem dX4_fillings_29 : decode cX4_fillings 29 = .ok (.iload 5, 2) := by decide +kernel
theorem dX4_fillings_31 : decode cX4_fillings 31 = .ok (.aload_n 0, 1) := by decide +kernel
theorem dX4_fillings_32 : decode cX4_fillings 32 = .ok (.getfield 13, 3) := by decide +kernel
theorem dX4_fillings_35 : decode cX4_fillings 35 = .ok (.iload_n 1, 1) := by decide +kernel
theorem dX4_fillings_36 : decode cX4_fillings 36 = .ok (.iaload, 1) := by decide +kernel
theorem dX4_fillings_37 : decode cX4_fillings 37 = .ok (.if_icmp .ge 15, 3) := by decide +kernel
theorem dX4_fillings_40 : decode cX4_fillings 40 = .ok (.iload 4, 2) := by decide +kernel
theorem dX4_fillings_42 : decode cX4_fillings 42 = .ok (.iload_n 3, 1) := by decide +kernel
theorem dX4_fillings_43 : decode cX4_fillings 43 = .ok (.imul, 1) := by decide +kernel
theorem dX4_fillings_44 : decode cX4_fillings 44 = .ok (.istore 4, 2) := by decide +kernel
theorem dX4_fillings_46 : decode cX4_fillings 46 = .ok (.iinc 5 1, 3) := by decide +kernel
theorem dX4_fillings_49 : decode cX4_fillings 49 = .ok (.goto (-20), 3) := by decide +kernel
theorem dX4_fillings_52 : decode cX4_fillings 52 = .ok (.iconst 0, 1) := by decide +kernel
theorem dX4_fillings_53 : decode cX4_fillings 53 = .ok (.istore 5, 2) := by decide +kernel
theorem dX4_fillings_55 : decode cX4_fillings 55 = .ok (.iconst 0, 1) := by decide +kernel
theorem dX4_fillings_56 : decode cX4_fillings 56 = .ok (.istore 6, 2) := by decide +kernel
theorem dX4_fillings_58 : decode cX4_fillings 58 = .ok (.iload 6, 2) := by decide +kernel
theorem dX4_fillings_60 : decode cX4_fillings 60 = .ok (.iload 4, 2) := by decide +kernel
theorem dX4_fillings_62 : decode cX4_fillings 62 = .ok (.if_icmp .ge 31, 3) := by decide +kernel
theorem dX4_fillings_65 : decode cX4_fillings 65 = .ok (.iload 5, 2) := by decide +kernel
theorem dX4_fillings_67 : decode cX4_fillings 67 = .ok (.aload_n 0, 1) := by decide +kernel
theorem dX4_fillings_68 : decode cX4_fillings 68 = .ok (.iload_n 1, 1) := by decide +kernel
theorem dX4_fillings_69 : decode cX4_fillings 69 = .ok (.iload_n 2, 1) := by decide +kernel
theorem dX4_fillings_70 : decode cX4_fillings 70 = .ok (.iload 6, 2) := by decide +kernel
theorem dX4_fillings_72 : decode cX4_fillings 72 = .ok (.iload_n 3, 1) := by decide +kernel
theorem dX4_fillings_73 : decode cX4_fillings 73 = .ok (.invokevirtual 105, 3) := by decide +kernel
theorem dX4_fillings_76 : decode cX4_fillings 76 = .ok (.ifCond .eq 7, 3) := by decide +kernel
theorem dX4_fillings_79 : decode cX4_fillings 79 = .ok (.iconst 1, 1) := by decide +kernel
theorem dX4_fillings_80 : decode cX4_fillings 80 = .ok (.goto 4, 3) := by decide +kernel
theorem dX4_fillings_83 : decode cX4_fillings 83 = .ok (.iconst 0, 1) := by decide +kernel
theorem dX4_fillings_84 : decode cX4_fillings 84 = .ok (.iadd, 1) := by decide +kernel
theorem dX4_fillings_85 : decode cX4_fillings 85 = .ok (.istore 5, 2) := by decide +kernel
theorem dX4_fillings_87 : decode cX4_fillings 87 = .ok (.iinc 6 1, 3) := by decide +kernel
theorem dX4_fillings_90 : decode cX4_fillings 90 = .ok (.goto (-32), 3) := by decide +kernel
theorem dX4_fillings_93 : decode cX4_fillings 93 = .ok (.iload 5, 2) := by decide +kernel
theorem dX4_fillings_95 : decode cX4_fillings 95 = .ok (.ireturn, 1) := by decide +kernel
theorem dX4_layTableaux_0 : decode cX4_layTableaux 0 = .ok (.aload_n 0, 1) := by decide +kernel
theorem dX4_layTableaux_1 : decode cX4_layTableaux 1 = .ok (.getfield 109, 3) := by decide +kernel
theorem dX4_layTableaux_4 : decode cX4_layTableaux 4 = .ok (.ifCond .eq 4, 3) := by decide +kernel
theorem dX4_layTableaux_7 : decode cX4_layTableaux 7 = .ok (.return_, 1) := by decide +kernel
theorem dX4_layTableaux_8 : decode cX4_layTableaux 8 = .ok (.aload_n 0, 1) := by decide +kernel
theorem dX4_layTableaux_9 : decode cX4_layTableaux 9 = .ok (.iconst 1, 1) := by decide +kernel
theorem dX4_layTableaux_10 : decode cX4_layTableaux 10 = .ok (.putfield 109, 3) := by decide +kernel
theorem dX4_layTableaux_13 : decode cX4_layTableaux 13 = .ok (.iconst 0, 1) := by decide +kernel
theorem dX4_layTableaux_14 : decode cX4_layTableaux 14 = .ok (.istore_n 1, 1) := by decide +kernel
theorem dX4_layTableaux_15 : decode cX4_layTableaux 15 = .ok (.iload_n 1, 1) := by decide +kernel
theorem dX4_layTableaux_16 : decode cX4_layTableaux 16 = .ok (.bipush 30, 2) := by decide +kernel
theorem dX4_layTableaux_18 : decode cX4_layTableaux 18 = .ok (.if_icmp .ge 41, 3) := by decide +kernel
theorem dX4_layTableaux_21 : decode cX4_layTableaux 21 = .ok (.iconst 0, 1) := by decide +kernel
theorem dX4_layTableaux_22 : decode cX4_layTableaux 22 = .ok (.istore_n 2, 1) := by decide +kernel
theorem dX4_layTableaux_23 : decode cX4_layTableaux 23 = .ok (.iload_n 2, 1) := by decide +kernel
theorem dX4_layTableaux_24 : decode cX4_layTableaux 24 = .ok (.bipush 30, 2) := by decide +kernel
theorem dX4_layTableaux_26 : decode cX4_layTableaux 26 = .ok (.if_icmp .ge 27, 3) := by decide +kernel
theorem dX4_layTableaux_29 : decode cX4_layTableaux 29 = .ok (.aload_n 0, 1) := by decide +kernel
theorem dX4_layTableaux_30 : decode cX4_layTableaux 30 = .ok (.getfield 19, 3) := by decide +kernel
theorem dX4_layTableaux_33 : decode cX4_layTableaux 33 = .ok (.iconst 4, 1) := by decide +kernel
theorem dX4_layTableaux_34 : decode cX4_layTableaux 34 = .ok (.iload_n 1, 1) := by decide +kernel
theorem dX4_layTableaux_35 : decode cX4_layTableaux 35 = .ok (.iload_n 2, 1) := by decide +kernel
theorem dX4_layTableaux_36 : decode cX4_layTableaux 36 = .ok (.invokestatic 75, 3) := by decide +kernel
theorem dX4_layTableaux_39 : decode cX4_layTableaux 39 = .ok (.aload_n 0, 1) := by decide +kernel
theorem dX4_layTableaux_40 : decode cX4_layTableaux 40 = .ok (.iload_n 1, 1) := by decide +kernel
theorem dX4_layTableaux_41 : decode cX4_layTableaux 41 = .ok (.iload_n 2, 1) := by decide +kernel
theorem dX4_layTableaux_42 : decode cX4_layTableaux 42 = .ok (.invokevirtual 113, 3) := by decide +kernel
theorem dX4_layTableaux_45 : decode cX4_layTableaux 45 = .ok (.i2l, 1) := by decide +kernel
theorem dX4_layTableaux_46 : decode cX4_layTableaux 46 = .ok (.lastore, 1) := by decide +kernel
theorem dX4_layTableaux_47 : decode cX4_layTableaux 47 = .ok (.iinc 2 1, 3) := by decide +kernel
theorem dX4_layTableaux_50 : decode cX4_layTableaux 50 = .ok (.goto (-27), 3) := by decide +kernel
theorem dX4_layTableaux_53 : decode cX4_layTableaux 53 = .ok (.iinc 1 1, 3) := by decide +kernel
theorem dX4_layTableaux_56 : decode cX4_layTableaux 56 = .ok (.goto (-41), 3) := by decide +kernel
theorem dX4_layTableaux_59 : decode cX4_layTableaux 59 = .ok (.return_, 1) := by decide +kernel
theorem dX4_part_0 : decode cX4_part 0 = .ok (.iload_n 1, 1) := by decide +kernel
theorem dX4_part_1 : decode cX4_part 1 = .ok (.invokestatic 116, 3) := by decide +kernel
theorem dX4_part_4 : decode cX4_part 4 = .ok (.ifCond .ne 5, 3) := by decide +kernel
theorem dX4_part_7 : decode cX4_part 7 = .ok (.iconst (-1), 1) := by decide +kernel
theorem dX4_part_8 : decode cX4_part 8 = .ok (.ireturn, 1) := by decide +kernel
theorem dX4_part_9 : decode cX4_part 9 = .ok (.iload_n 2, 1) := by decide +kernel
theorem dX4_part_10 : decode cX4_part 10 = .ok (.iconst 0, 1) := by decide +kernel
theorem dX4_part_11 : decode cX4_part 11 = .ok (.iconst 5, 1) := by decide +kernel
theorem dX4_part_12 : decode cX4_part 12 = .ok (.invokestatic 101, 3) := by decide +kernel
theorem dX4_part_15 : decode cX4_part 15 = .ok (.ifCond .eq 12, 3) := by decide +kernel
theorem dX4_part_18 : decode cX4_part 18 = .ok (.aload_n 0, 1) := by decide +kernel
theorem dX4_part_19 : decode cX4_part 19 = .ok (.iload_n 1, 1) := by decide +kernel
theorem dX4_part_20 : decode cX4_part 20 = .ok (.iload_n 2, 1) := by decide +kernel
theorem dX4_part_21 : decode cX4_part 21 = .ok (.invokevirtual 91, 3) := by decide +kernel
theorem dX4_part_24 : decode cX4_part 24 = .ok (.goto 5, 3) := by decide +kernel
theorem dX4_part_27 : decode cX4_part 27 = .ok (.bipush (-2), 2) := by decide +kernel
theorem dX4_part_29 : decode cX4_part 29 = .ok (.ireturn, 1) := by decide +kernel
theorem dX4_conjugate_0 : decode cX4_conjugate 0 = .ok (.iconst 0, 1) := by decide +kernel
theorem dX4_conjugate_1 : decode cX4_conjugate 1 = .ok (.istore_n 2, 1) := by decide +kernel
theorem dX4_conjugate_2 : decode cX4_conjugate 2 = .ok (.iconst 1, 1) := by decide +kernel
theorem dX4_conjugate_3 : decode cX4_conjugate 3 = .ok (.istore_n 3, 1) := by decide +kernel
theorem dX4_conjugate_4 : decode cX4_conjugate 4 = .ok (.iload_n 3, 1) := by decide +kernel
theorem dX4_conjugate_5 : decode cX4_conjugate 5 = .ok (.bipush 6, 2) := by decide +kernel
theorem dX4_conjugate_7 : decode cX4_conjugate 7 = .ok (.if_icmp .gt 57, 3) := by decide +kernel
theorem dX4_conjugate_10 : decode cX4_conjugate 10 = .ok (.iconst 0, 1) := by decide +kernel
theorem dX4_conjugate_11 : decode cX4_conjugate 11 = .ok (.istore 4, 2) := by decide +kernel
theorem dX4_conjugate_13 : decode cX4_conjugate 13 = .ok (.iconst 0, 1) := by decide +kernel
theorem dX4_conjugate_14 : decode cX4_conjugate 14 = .ok (.istore 5, 2) := by decide +kernel
theorem dX4_conjugate_16 : decode cX4_conjugate 16 = .ok (.iload 5, 2) := by decide +kernel
theorem dX4_conjugate_18 : decode cX4_conjugate 18 = .ok (.bipush 6, 2) := by decide +kernel
theorem dX4_conjugate_20 : decode cX4_conjugate 20 = .ok (.if_icmp .ge 30, 3) := by decide +kernel
theorem dX4_conjugate_23 : decode cX4_conjugate 23 = .ok (.iload 4, 2) := by decide +kernel
theorem dX4_conjugate_25 : decode cX4_conjugate 25 = .ok (.aload_n 0, 1) := by decide +kernel
theorem dX4_conjugate_26 : decode cX4_conjugate 26 = .ok (.iload_n 1, 1) := by decide +kernel
theorem dX4_conjugate_27 : decode cX4_conjugate 27 = .ok (.iload 5, 2) := by decide +kernel
theorem dX4_conjugate_29 : decode cX4_conjugate 29 = .ok (.invokevirtual 91, 3) := by decide +kernel
theorem dX4_conjugate_32 : decode cX4_conjugate 32 = .ok (.iload_n 3, 1) := by decide +kernel
theorem dX4_conjugate_33 : decode cX4_conjugate 33 = .ok (.if_icmp .lt 7, 3) := by decide +kernel
theorem dX4_conjugate_36 : decode cX4_conjugate 36 = .ok (.iconst 1, 1) := by decide +kernel
theorem dX4_conjugate_37 : decode cX4_conjugate 37 = .ok (.goto 4, 3) := by decide +kernel
theorem dX4_conjugate_40 : decode cX4_conjugate 40 = .ok (.iconst 0, 1) := by decide +kernel
theorem dX4_conjugate_41 : decode cX4_conjugate 41 = .ok (.iadd, 1) := by decide +kernel
theorem dX4_conjugate_42 : decode cX4_conjugate 42 = .ok (.istore 4, 2) := by decide +kernel
theorem dX4_conjugate_44 : decode cX4_conjugate 44 = .ok (.iinc 5 1, 3) := by decide +kernel
theorem dX4_conjugate_47 : decode cX4_conjugate 47 = .ok (.goto (-31), 3) := by decide +kernel
theorem dX4_conjugate_50 : decode cX4_conjugate 50 = .ok (.iload_n 2, 1) := by decide +kernel
theorem dX4_conjugate_51 : decode cX4_conjugate 51 = .ok (.iload 4, 2) := by decide +kernel
theorem dX4_conjugate_53 : decode cX4_conjugate 53 = .ok (.invokestatic 87, 3) := by decide +kernel
theorem dX4_conjugate_56 : decode cX4_conjugate 56 = .ok (.iadd, 1) := by decide +kernel
theorem dX4_conjugate_57 : decode cX4_conjugate 57 = .ok (.istore_n 2, 1) := by decide +kernel
theorem dX4_conjugate_58 : decode cX4_conjugate 58 = .ok (.iinc 3 1, 3) := by decide +kernel
theorem dX4_conjugate_61 : decode cX4_conjugate 61 = .ok (.goto (-57), 3) := by decide +kernel
theorem dX4_conjugate_64 : decode cX4_conjugate 64 = .ok (.aload_n 0, 1) := by decide +kernel
theorem dX4_conjugate_65 : decode cX4_conjugate 65 = .ok (.getfield 16, 3) := by decide +kernel
theorem dX4_conjugate_68 : decode cX4_conjugate 68 = .ok (.iload_n 2, 1) := by decide +kernel
theorem dX4_conjugate_69 : decode cX4_conjugate 69 = .ok (.iaload, 1) := by decide +kernel
theorem dX4_conjugate_70 : decode cX4_conjugate 70 = .ok (.ireturn, 1) := by decide +kernel
theorem dX4_timesOf_0 : decode cX4_timesOf 0 = .ok (.iconst 0, 1) := by decide +kernel
theorem dX4_timesOf_1 : decode cX4_timesOf 1 = .ok (.istore_n 3, 1) := by decide +kernel
theorem dX4_timesOf_2 : decode cX4_timesOf 2 = .ok (.iconst 0, 1) := by decide +kernel
theorem dX4_timesOf_3 : decode cX4_timesOf 3 = .ok (.istore 4, 2) := by decide +kernel
theorem dX4_timesOf_5 : decode cX4_timesOf 5 = .ok (.iload 4, 2) := by decide +kernel
theorem dX4_timesOf_7 : decode cX4_timesOf 7 = .ok (.bipush 6, 2) := by decide +kernel
theorem dX4_timesOf_9 : decode cX4_timesOf 9 = .ok (.if_icmp .ge 28, 3) := by decide +kernel
theorem dX4_timesOf_12 : decode cX4_timesOf 12 = .ok (.iload_n 3, 1) := by decide +kernel
theorem dX4_timesOf_13 : decode cX4_timesOf 13 = .ok (.aload_n 0, 1) := by decide +kernel
theorem dX4_timesOf_14 : decode cX4_timesOf 14 = .ok (.iload_n 1, 1) := by decide +kernel
theorem dX4_timesOf_15 : decode cX4_timesOf 15 = .ok (.iload 4, 2) := by decide +kernel
theorem dX4_timesOf_17 : decode cX4_timesOf 17 = .ok (.invokevirtual 91, 3) := by decide +kernel
theorem dX4_timesOf_20 : decode cX4_timesOf 20 = .ok (.iload_n 2, 1) := by decide +kernel
theorem dX4_timesOf_21 : decode cX4_timesOf 21 = .ok (.if_icmp .ne 7, 3) := by decide +kernel
theorem dX4_timesOf_24 : decode cX4_timesOf 24 = .ok (.iconst 1, 1) := by decide +kernel
theorem dX4_timesOf_25 : decode cX4_timesOf 25 = .ok (.goto 4, 3) := by decide +kernel
theorem dX4_timesOf_28 : decode cX4_timesOf 28 = .ok (.iconst 0, 1) := by decide +kernel
theorem dX4_timesOf_29 : decode cX4_timesOf 29 = .ok (.iadd, 1) := by decide +kernel
theorem dX4_timesOf_30 : decode cX4_timesOf 30 = .ok (.istore_n 3, 1) := by decide +kernel
theorem dX4_timesOf_31 : decode cX4_timesOf 31 = .ok (.iinc 4 1, 3) := by decide +kernel
theorem dX4_timesOf_34 : decode cX4_timesOf 34 = .ok (.goto (-29), 3) := by decide +kernel
theorem dX4_timesOf_37 : decode cX4_timesOf 37 = .ok (.iload_n 3, 1) := by decide +kernel
theorem dX4_timesOf_38 : decode cX4_timesOf 38 = .ok (.ireturn, 1) := by decide +kernel
theorem dX4_alike_0 : decode cX4_alike 0 = .ok (.iconst 1, 1) := by decide +kernel
theorem dX4_alike_1 : decode cX4_alike 1 = .ok (.istore_n 2, 1) := by decide +kernel
theorem dX4_alike_2 : decode cX4_alike 2 = .ok (.iconst 1, 1) := by decide +kernel
theorem dX4_alike_3 : decode cX4_alike 3 = .ok (.istore_n 3, 1) := by decide +kernel
theorem dX4_alike_4 : decode cX4_alike 4 = .ok (.iload_n 3, 1) := by decide +kernel
theorem dX4_alike_5 : decode cX4_alike 5 = .ok (.bipush 6, 2) := by decide +kernel
theorem dX4_alike_7 : decode cX4_alike 7 = .ok (.if_icmp .gt 38, 3) := by decide +kernel
theorem dX4_alike_10 : decode cX4_alike 10 = .ok (.aload_n 0, 1) := by decide +kernel
theorem dX4_alike_11 : decode cX4_alike 11 = .ok (.iload_n 1, 1) := by decide +kernel
theorem dX4_alike_12 : decode cX4_alike 12 = .ok (.iload_n 3, 1) := by decide +kernel
theorem dX4_alike_13 : decode cX4_alike 13 = .ok (.invokevirtual 120, 3) := by decide +kernel
theorem dX4_alike_16 : decode cX4_alike 16 = .ok (.istore 4, 2) := by decide +kernel
theorem dX4_alike_18 : decode cX4_alike 18 = .ok (.iconst 2, 1) := by decide +kernel
theorem dX4_alike_19 : decode cX4_alike 19 = .ok (.istore 5, 2) := by decide +kernel
theorem dX4_alike_21 : decode cX4_alike 21 = .ok (.iload 5, 2) := by decide +kernel
theorem dX4_alike_23 : decode cX4_alike 23 = .ok (.iload 4, 2) := by decide +kernel
theorem dX4_alike_25 : decode cX4_alike 25 = .ok (.if_icmp .gt 14, 3) := by decide +kernel
theorem dX4_alike_28 : decode cX4_alike 28 = .ok (.iload_n 2, 1) := by decide +kernel
theorem dX4_alike_29 : decode cX4_alike 29 = .ok (.iload 5, 2) := by decide +kernel
theorem dX4_alike_31 : decode cX4_alike 31 = .ok (.imul, 1) := by decide +kernel
theorem dX4_alike_32 : decode cX4_alike 32 = .ok (.istore_n 2, 1) := by decide +kernel
theorem dX4_alike_33 : decode cX4_alike 33 = .ok (.iinc 5 1, 3) := by decide +kernel
theorem dX4_alike_36 : decode cX4_alike 36 = .ok (.goto (-15), 3) := by decide +kernel
theorem dX4_alike_39 : decode cX4_alike 39 = .ok (.iinc 3 1, 3) := by decide +kernel
theorem dX4_alike_42 : decode cX4_alike 42 = .ok (.goto (-38), 3) := by decide +kernel
theorem dX4_alike_45 : decode cX4_alike 45 = .ok (.iload_n 2, 1) := by decide +kernel
theorem dX4_alike_46 : decode cX4_alike 46 = .ok (.ireturn, 1) := by decide +kernel
theorem dX4_z_0 : decode cX4_z 0 = .ok (.aload_n 0, 1) := by decide +kernel
theorem dX4_z_1 : decode cX4_z 1 = .ok (.iload_n 1, 1) := by decide +kernel
theorem dX4_z_2 : decode cX4_z 2 = .ok (.invokevirtual 123, 3) := by decide +kernel
theorem dX4_z_5 : decode cX4_z 5 = .ok (.istore_n 2, 1) := by decide +kernel
theorem dX4_z_6 : decode cX4_z 6 = .ok (.iconst 0, 1) := by decide +kernel
theorem dX4_z_7 : decode cX4_z 7 = .ok (.istore_n 3, 1) := by decide +kernel
theorem dX4_z_8 : decode cX4_z 8 = .ok (.iload_n 3, 1) := by decide +kernel
theorem dX4_z_9 : decode cX4_z 9 = .ok (.bipush 6, 2) := by decide +kernel
theorem dX4_z_11 : decode cX4_z 11 = .ok (.if_icmp .ge 31, 3) := by decide +kernel
theorem dX4_z_14 : decode cX4_z 14 = .ok (.iload_n 2, 1) := by decide +kernel
theorem dX4_z_15 : decode cX4_z 15 = .ok (.aload_n 0, 1) := by decide +kernel
theorem dX4_z_16 : decode cX4_z 16 = .ok (.iload_n 1, 1) := by decide +kernel
theorem dX4_z_17 : decode cX4_z 17 = .ok (.iload_n 3, 1) := by decide +kernel
theorem dX4_z_18 : decode cX4_z 18 = .ok (.invokevirtual 91, 3) := by decide +kernel
theorem dX4_z_21 : decode cX4_z 21 = .ok (.ifCond .le 12, 3) := by decide +kernel
theorem dX4_z_24 : decode cX4_z 24 = .ok (.aload_n 0, 1) := by decide +kernel
theorem dX4_z_25 : decode cX4_z 25 = .ok (.iload_n 1, 1) := by decide +kernel
theorem dX4_z_26 : decode cX4_z 26 = .ok (.iload_n 3, 1) := by decide +kernel
theorem dX4_z_27 : decode cX4_z 27 = .ok (.invokevirtual 91, 3) := by decide +kernel
theorem dX4_z_30 : decode cX4_z 30 = .ok (.goto 4, 3) := by decide +kernel
theorem dX4_z_33 : decode cX4_z 33 = .ok (.iconst 1, 1) := by decide +kernel
theorem dX4_z_34 : decode cX4_z 34 = .ok (.imul, 1) := by decide +kernel
theorem dX4_z_35 : decode cX4_z 35 = .ok (.istore_n 2, 1) := by decide +kernel
theorem dX4_z_36 : decode cX4_z 36 = .ok (.iinc 3 1, 3) := by decide +kernel
theorem dX4_z_39 : decode cX4_z 39 = .ok (.goto (-31), 3) := by decide +kernel
theorem dX4_z_42 : decode cX4_z 42 = .ok (.iload_n 2, 1) := by decide +kernel
theorem dX4_z_43 : decode cX4_z 43 = .ok (.ireturn, 1) := by decide +kernel
theorem dX4_about_0 : decode cX4_about 0 = .ok (.iload_n 1, 1) := by decide +kernel
theorem dX4_about_1 : decode cX4_about 1 = .ok (.invokestatic 116, 3) := by decide +kernel
theorem dX4_about_4 : decode cX4_about 4 = .ok (.ifCond .ne 5, 3) := by decide +kernel
theorem dX4_about_7 : decode cX4_about 7 = .ok (.iconst (-1), 1) := by decide +kernel
theorem dX4_about_8 : decode cX4_about 8 = .ok (.ireturn, 1) := by decide +kernel
theorem dX4_about_9 : decode cX4_about 9 = .ok (.iload_n 2, 1) := by decide +kernel
theorem dX4_about_10 : decode cX4_about 10 = .ok (.tableswitch 81 0 4 #[34, 41, 47, 53, 59], 34) := by decide +kernel
theorem dX4_about_44 : decode cX4_about 44 = .ok (.aload_n 0, 1) := by decide +kernel
theorem dX4_about_45 : decode cX4_about 45 = .ok (.getfield 13, 3) := by decide +kernel
theorem dX4_about_48 : decode cX4_about 48 = .ok (.iload_n 1, 1) := by decide +kernel
theorem dX4_about_49 : decode cX4_about 49 = .ok (.iaload, 1) := by decide +kernel
theorem dX4_about_50 : decode cX4_about 50 = .ok (.ireturn, 1) := by decide +kernel
theorem dX4_about_51 : decode cX4_about 51 = .ok (.aload_n 0, 1) := by decide +kernel
theorem dX4_about_52 : decode cX4_about 52 = .ok (.iload_n 1, 1) := by decide +kernel
theorem dX4_about_53 : decode cX4_about 53 = .ok (.invokevirtual 94, 3) := by decide +kernel
theorem dX4_about_56 : decode cX4_about 56 = .ok (.ireturn, 1) := by decide +kernel
theorem dX4_about_57 : decode cX4_about 57 = .ok (.aload_n 0, 1) := by decide +kernel
theorem dX4_about_58 : decode cX4_about 58 = .ok (.iload_n 1, 1) := by decide +kernel
theorem dX4_about_59 : decode cX4_about 59 = .ok (.invokevirtual 126, 3) := by decide +kernel
theorem dX4_about_62 : decode cX4_about 62 = .ok (.ireturn, 1) := by decide +kernel
theorem dX4_about_63 : decode cX4_about 63 = .ok (.aload_n 0, 1) := by decide +kernel
theorem dX4_about_64 : decode cX4_about 64 = .ok (.iload_n 1, 1) := by decide +kernel
theorem dX4_about_65 : decode cX4_about 65 = .ok (.invokevirtual 129, 3) := by decide +kernel
theorem dX4_about_68 : decode cX4_about 68 = .ok (.ireturn, 1) := by decide +kernel
theorem dX4_about_69 : decode cX4_about 69 = .ok (.aload_n 0, 1) := by decide +kernel
theorem dX4_about_70 : decode cX4_about 70 = .ok (.iload_n 1, 1) := by decide +kernel
theorem dX4_about_71 : decode cX4_about 71 = .ok (.aload_n 0, 1) := by decide +kernel
theorem dX4_about_72 : decode cX4_about 72 = .ok (.getfield 16, 3) := by decide +kernel
theorem dX4_about_75 : decode cX4_about 75 = .ok (.aload_n 0, 1) := by decide +kernel
theorem dX4_about_76 : decode cX4_about 76 = .ok (.getfield 13, 3) := by decide +kernel
theorem dX4_about_79 : decode cX4_about 79 = .ok (.iload_n 1, 1) := by decide +kernel
theorem dX4_about_80 : decode cX4_about 80 = .ok (.iaload, 1) := by decide +kernel
theorem dX4_about_81 : decode cX4_about 81 = .ok (.iconst 1, 1) := by decide +kernel
theorem dX4_about_82 : decode cX4_about 82 = .ok (.invokestatic 87, 3) := by decide +kernel
theorem dX4_about_85 : decode cX4_about 85 = .ok (.imul, 1) := by decide +kernel
theorem dX4_about_86 : decode cX4_about 86 = .ok (.iaload, 1) := by decide +kernel
theorem dX4_about_87 : decode cX4_about 87 = .ok (.invokevirtual 113, 3) := by decide +kernel
theorem dX4_about_90 : decode cX4_about 90 = .ok (.ireturn, 1) := by decide +kernel
theorem dX4_about_91 : decode cX4_about 91 = .ok (.bipush (-2), 2) := by decide +kernel
theorem dX4_about_93 : decode cX4_about 93 = .ok (.ireturn, 1) := by decide +kernel
theorem dX4_kostka_0 : decode cX4_kostka 0 = .ok (.iload_n 1, 1) := by decide +kernel
theorem dX4_kostka_1 : decode cX4_kostka 1 = .ok (.invokestatic 116, 3) := by decide +kernel
theorem dX4_kostka_4 : decode cX4_kostka 4 = .ok (.ifCond .eq 19, 3) := by decide +kernel
theorem dX4_kostka_7 : decode cX4_kostka 7 = .ok (.iload_n 2, 1) := by decide +kernel
theorem dX4_kostka_8 : decode cX4_kostka 8 = .ok (.invokestatic 116, 3) := by decide +kernel
theorem dX4_kostka_11 : decode cX4_kostka 11 = .ok (.ifCond .eq 12, 3) := by decide +kernel
theorem dX4_kostka_14 : decode cX4_kostka 14 = .ok (.aload_n 0, 1) := by decide +kernel
theorem dX4_kostka_15 : decode cX4_kostka 15 = .ok (.iload_n 1, 1) := by decide +kernel
theorem dX4_kostka_16 : decode cX4_kostka 16 = .ok (.iload_n 2, 1) := by decide +kernel
theorem dX4_kostka_17 : decode cX4_kostka 17 = .ok (.invokevirtual 113, 3) := by decide +kernel
theorem dX4_kostka_20 : decode cX4_kostka 20 = .ok (.goto 4, 3) := by decide +kernel
theorem dX4_kostka_23 : decode cX4_kostka 23 = .ok (.iconst (-1), 1) := by decide +kernel
theorem dX4_kostka_24 : decode cX4_kostka 24 = .ok (.ireturn, 1) := by decide +kernel
theorem dX4_above_0 : decode cX4_above 0 = .ok (.iload_n 1, 1) := by decide +kernel
theorem dX4_above_1 : decode cX4_above 1 = .ok (.invokestatic 116, 3) := by decide +kernel
theorem dX4_above_4 : decode cX4_above 4 = .ok (.ifCond .eq 10, 3) := by decide +kernel
theorem dX4_above_7 : decode cX4_above 7 = .ok (.iload_n 2, 1) := by decide +kernel
theorem dX4_above_8 : decode cX4_above 8 = .ok (.invokestatic 116, 3) := by decide +kernel
theorem dX4_above_11 : decode cX4_above 11 = .ok (.ifCond .ne 5, 3) := by decide +kernel
theorem dX4_above_14 : decode cX4_above 14 = .ok (.iconst (-1), 1) := by decide +kernel
theorem dX4_above_15 : decode cX4_above 15 = .ok (.ireturn, 1) := by decide +kernel
theorem dX4_above_16 : decode cX4_above 16 = .ok (.iconst 0, 1) := by decide +kernel
theorem dX4_above_17 : decode cX4_above 17 = .ok (.istore_n 3, 1) := by decide +kernel
theorem dX4_above_18 : decode cX4_above 18 = .ok (.aload_n 0, 1) := by decide +kernel
theorem dX4_above_19 : decode cX4_above 19 = .ok (.getfield 13, 3) := by decide +kernel
theorem dX4_above_22 : decode cX4_above 22 = .ok (.iload_n 1, 1) := by decide +kernel
theorem dX4_above_23 : decode cX4_above 23 = .ok (.iaload, 1) := by decide +kernel
theorem dX4_above_24 : decode cX4_above 24 = .ok (.aload_n 0, 1) := by decide +kernel
theorem dX4_above_25 : decode cX4_above 25 = .ok (.getfield 13, 3) := by decide +kernel
theorem dX4_above_28 : decode cX4_above 28 = .ok (.iload_n 2, 1) := by decide +kernel
theorem dX4_above_29 : decode cX4_above 29 = .ok (.iaload, 1) := by decide +kernel
theorem dX4_above_30 : decode cX4_above 30 = .ok (.if_icmp .ne 7, 3) := by decide +kernel
theorem dX4_above_33 : decode cX4_above 33 = .ok (.iconst 1, 1) := by decide +kernel
theorem dX4_above_34 : decode cX4_above 34 = .ok (.goto 4, 3) := by decide +kernel
theorem dX4_above_37 : decode cX4_above 37 = .ok (.iconst 0, 1) := by decide +kernel
theorem dX4_above_38 : decode cX4_above 38 = .ok (.istore 4, 2) := by decide +kernel
theorem dX4_above_40 : decode cX4_above 40 = .ok (.iconst 0, 1) := by decide +kernel
theorem dX4_above_41 : decode cX4_above 41 = .ok (.istore 5, 2) := by decide +kernel
theorem dX4_above_43 : decode cX4_above 43 = .ok (.iload 5, 2) := by decide +kernel
theorem dX4_above_45 : decode cX4_above 45 = .ok (.bipush 6, 2) := by decide +kernel
theorem dX4_above_47 : decode cX4_above 47 = .ok (.if_icmp .ge 43, 3) := by decide +kernel
theorem dX4_above_50 : decode cX4_above 50 = .ok (.iload_n 3, 1) := by decide +kernel
theorem dX4_above_51 : decode cX4_above 51 = .ok (.aload_n 0, 1) := by decide +kernel
theorem dX4_above_52 : decode cX4_above 52 = .ok (.iload_n 1, 1) := by decide +kernel
theorem dX4_above_53 : decode cX4_above 53 = .ok (.iload 5, 2) := by decide +kernel
theorem dX4_above_55 : decode cX4_above 55 = .ok (.invokevirtual 91, 3) := by decide +kernel
theorem dX4_above_58 : decode cX4_above 58 = .ok (.aload_n 0, 1) := by decide +kernel
theorem dX4_above_59 : decode cX4_above 59 = .ok (.iload_n 2, 1) := by decide +kernel
theorem dX4_above_60 : decode cX4_above 60 = .ok (.iload 5, 2) := by decide +kernel
theorem dX4_above_62 : decode cX4_above 62 = .ok (.invokevirtual 91, 3) := by decide +kernel
theorem dX4_above_65 : decode cX4_above 65 = .ok (.isub, 1) := by decide +kernel
theorem dX4_above_66 : decode cX4_above 66 = .ok (.iadd, 1) := by decide +kernel
theorem dX4_above_67 : decode cX4_above 67 = .ok (.istore_n 3, 1) := by decide +kernel
theorem dX4_above_68 : decode cX4_above 68 = .ok (.iload 4, 2) := by decide +kernel
theorem dX4_above_70 : decode cX4_above 70 = .ok (.ifCond .eq 11, 3) := by decide +kernel
theorem dX4_above_73 : decode cX4_above 73 = .ok (.iload_n 3, 1) := by decide +kernel
theorem dX4_above_74 : decode cX4_above 74 = .ok (.ifCond .lt 7, 3) := by decide +kernel
theorem dX4_above_77 : decode cX4_above 77 = .ok (.iconst 1, 1) := by decide +kernel
theorem dX4_above_78 : decode cX4_above 78 = .ok (.goto 4, 3) := by decide +kernel
theorem dX4_above_81 : decode cX4_above 81 = .ok (.iconst 0, 1) := by decide +kernel
theorem dX4_above_82 : decode cX4_above 82 = .ok (.istore 4, 2) := by decide +kernel
theorem dX4_above_84 : decode cX4_above 84 = .ok (.iinc 5 1, 3) := by decide +kernel
theorem dX4_above_87 : decode cX4_above 87 = .ok (.goto (-44), 3) := by decide +kernel
theorem dX4_above_90 : decode cX4_above 90 = .ok (.iload 4, 2) := by decide +kernel
theorem dX4_above_92 : decode cX4_above 92 = .ok (.ifCond .eq 7, 3) := by decide +kernel
theorem dX4_above_95 : decode cX4_above 95 = .ok (.iconst 1, 1) := by decide +kernel
theorem dX4_above_96 : decode cX4_above 96 = .ok (.goto 4, 3) := by decide +kernel
theorem dX4_above_99 : decode cX4_above 99 = .ok (.iconst 0, 1) := by decide +kernel
theorem dX4_above_100 : decode cX4_above 100 = .ok (.ireturn, 1) := by decide +kernel
theorem dX4_takeOff_0 : decode cX4_takeOff 0 = .ok (.aload_n 0, 1) := by decide +kernel
theorem dX4_takeOff_1 : decode cX4_takeOff 1 = .ok (.getfield 38, 3) := by decide +kernel
theorem dX4_takeOff_4 : decode cX4_takeOff 4 = .ok (.iload_n 2, 1) := by decide +kernel
theorem dX4_takeOff_5 : decode cX4_takeOff 5 = .ok (.lload_n 3, 1) := by decide +kernel
theorem dX4_takeOff_6 : decode cX4_takeOff 6 = .ok (.lastore, 1) := by decide +kernel
theorem dX4_takeOff_7 : decode cX4_takeOff 7 = .ok (.iconst 0, 1) := by decide +kernel
theorem dX4_takeOff_8 : decode cX4_takeOff 8 = .ok (.istore 5, 2) := by decide +kernel
theorem dX4_takeOff_10 : decode cX4_takeOff 10 = .ok (.iload 5, 2) := by decide +kernel
theorem dX4_takeOff_12 : decode cX4_takeOff 12 = .ok (.bipush 30, 2) := by decide +kernel
theorem dX4_takeOff_14 : decode cX4_takeOff 14 = .ok (.if_icmp .ge 33, 3) := by decide +kernel
theorem dX4_takeOff_17 : decode cX4_takeOff 17 = .ok (.aload_n 0, 1) := by decide +kernel
theorem dX4_takeOff_18 : decode cX4_takeOff 18 = .ok (.getfield 35, 3) := by decide +kernel
theorem dX4_takeOff_21 : decode cX4_takeOff 21 = .ok (.iload 5, 2) := by decide +kernel
theorem dX4_takeOff_23 : decode cX4_takeOff 23 = .ok (.dup2, 1) := by decide +kernel
theorem dX4_takeOff_24 : decode cX4_takeOff 24 = .ok (.laload, 1) := by decide +kernel
theorem dX4_takeOff_25 : decode cX4_takeOff 25 = .ok (.lload_n 3, 1) := by decide +kernel
theorem dX4_takeOff_26 : decode cX4_takeOff 26 = .ok (.aload_n 0, 1) := by decide +kernel
theorem dX4_takeOff_27 : decode cX4_takeOff 27 = .ok (.getfield 19, 3) := by decide +kernel
theorem dX4_takeOff_30 : decode cX4_takeOff 30 = .ok (.iload_n 1, 1) := by decide +kernel
theorem dX4_takeOff_31 : decode cX4_takeOff 31 = .ok (.iload_n 2, 1) := by decide +kernel
theorem dX4_takeOff_32 : decode cX4_takeOff 32 = .ok (.iload 5, 2) := by decide +kernel
theorem dX4_takeOff_34 : decode cX4_takeOff 34 = .ok (.invokestatic 75, 3) := by decide +kernel
theorem dX4_takeOff_37 : decode cX4_takeOff 37 = .ok (.laload, 1) := by decide +kernel
theorem dX4_takeOff_38 : decode cX4_takeOff 38 = .ok (.lmul, 1) := by decide +kernel
theorem dX4_takeOff_39 : decode cX4_takeOff 39 = .ok (.lsub, 1) := by decide +kernel
theorem dX4_takeOff_40 : decode cX4_takeOff 40 = .ok (.lastore, 1) := by decide +kernel
theorem dX4_takeOff_41 : decode cX4_takeOff 41 = .ok (.iinc 5 1, 3) := by decide +kernel
theorem dX4_takeOff_44 : decode cX4_takeOff 44 = .ok (.goto (-34), 3) := by decide +kernel
theorem dX4_takeOff_47 : decode cX4_takeOff 47 = .ok (.return_, 1) := by decide +kernel
theorem dX4_layFound_0 : decode cX4_layFound 0 = .ok (.iconst 0, 1) := by decide +kernel
theorem dX4_layFound_1 : decode cX4_layFound 1 = .ok (.istore 4, 2) := by decide +kernel
theorem dX4_layFound_3 : decode cX4_layFound 3 = .ok (.iload 4, 2) := by decide +kernel
theorem dX4_layFound_5 : decode cX4_layFound 5 = .ok (.bipush 30, 2) := by decide +kernel
theorem dX4_layFound_7 : decode cX4_layFound 7 = .ok (.if_icmp .ge 40, 3) := by decide +kernel
theorem dX4_layFound_10 : decode cX4_layFound 10 = .ok (.aload_n 0, 1) := by decide +kernel
theorem dX4_layFound_11 : decode cX4_layFound 11 = .ok (.getfield 35, 3) := by decide +kernel
theorem dX4_layFound_14 : decode cX4_layFound 14 = .ok (.iload 4, 2) := by decide +kernel
theorem dX4_layFound_16 : decode cX4_layFound 16 = .ok (.iload_n 3, 1) := by decide +kernel
theorem dX4_layFound_17 : decode cX4_layFound 17 = .ok (.iconst 3, 1) := by decide +kernel
theorem dX4_layFound_18 : decode cX4_layFound 18 = .ok (.if_icmp .ne 16, 3) := by decide +kernel
theorem dX4_layFound_21 : decode cX4_layFound 21 = .ok (.ldc2_w 132, 3) := by decide +kernel
theorem dX4_layFound_24 : decode cX4_layFound 24 = .ok (.aload_n 1, 1) := by decide +kernel
theorem dX4_layFound_25 : decode cX4_layFound 25 = .ok (.iload_n 2, 1) := by decide +kernel
theorem dX4_layFound_26 : decode cX4_layFound 26 = .ok (.iload 4, 2) := by decide +kernel
theorem dX4_layFound_28 : decode cX4_layFound 28 = .ok (.iadd, 1) := by decide +kernel
theorem dX4_layFound_29 : decode cX4_layFound 29 = .ok (.laload, 1) := by decide +kernel
theorem dX4_layFound_30 : decode cX4_layFound 30 = .ok (.lmul, 1) := by decide +kernel
theorem dX4_layFound_31 : decode cX4_layFound 31 = .ok (.goto 9, 3) := by decide +kernel
theorem dX4_layFound_34 : decode cX4_layFound 34 = .ok (.aload_n 1, 1) := by decide +kernel
theorem dX4_layFound_35 : decode cX4_layFound 35 = .ok (.iload_n 2, 1) := by decide +kernel
theorem dX4_layFound_36 : decode cX4_layFound 36 = .ok (.iload 4, 2) := by decide +kernel
theorem dX4_layFound_38 : decode cX4_layFound 38 = .ok (.iadd, 1) := by decide +kernel
theorem dX4_layFound_39 : decode cX4_layFound 39 = .ok (.laload, 1) := by decide +kernel
theorem dX4_layFound_40 : decode cX4_layFound 40 = .ok (.lastore, 1) := by decide +kernel
theorem dX4_layFound_41 : decode cX4_layFound 41 = .ok (.iinc 4 1, 3) := by decide +kernel
theorem dX4_layFound_44 : decode cX4_layFound 44 = .ok (.goto (-41), 3) := by decide +kernel
theorem dX4_layFound_47 : decode cX4_layFound 47 = .ok (.iload_n 3, 1) := by decide +kernel
theorem dX4_layFound_48 : decode cX4_layFound 48 = .ok (.iconst 4, 1) := by decide +kernel
theorem dX4_layFound_49 : decode cX4_layFound 49 = .ok (.if_icmp .eq 8, 3) := by decide +kernel
theorem dX4_layFound_52 : decode cX4_layFound 52 = .ok (.iload_n 3, 1) := by decide +kernel
theorem dX4_layFound_53 : decode cX4_layFound 53 = .ok (.iconst 2, 1) := by decide +kernel
theorem dX4_layFound_54 : decode cX4_layFound 54 = .ok (.if_icmp .ne 7, 3) := by decide +kernel
theorem dX4_layFound_57 : decode cX4_layFound 57 = .ok (.aload_n 0, 1) := by decide +kernel
theorem dX4_layFound_58 : decode cX4_layFound 58 = .ok (.invokevirtual 134, 3) := by decide +kernel
theorem dX4_layFound_61 : decode cX4_layFound 61 = .ok (.iload_n 3, 1) := by decide +kernel
theorem dX4_layFound_62 : decode cX4_layFound 62 = .ok (.iconst 3, 1) := by decide +kernel
theorem dX4_layFound_63 : decode cX4_layFound 63 = .ok (.if_icmp .ne 43, 3) := by decide +kernel
theorem dX4_layFound_66 : decode cX4_layFound 66 = .ok (.bipush 29, 2) := by decide +kernel
theorem dX4_layFound_68 : decode cX4_layFound 68 = .ok (.istore 4, 2) := by decide +kernel
theorem dX4_layFound_70 : decode cX4_layFound 70 = .ok (.iload 4, 2) := by decide +kernel
theorem dX4_layFound_72 : decode cX4_layFound 72 = .ok (.ifCond .lt 31, 3) := by decide +kernel
theorem dX4_layFound_75 : decode cX4_layFound 75 = .ok (.aload_n 0, 1) := by decide +kernel
theorem dX4_layFound_76 : decode cX4_layFound 76 = .ok (.iconst 3, 1) := by decide +kernel
theorem dX4_layFound_77 : decode cX4_layFound 77 = .ok (.iload 4, 2) := by decide +kernel
theorem dX4_layFound_79 : decode cX4_layFound 79 = .ok (.aload_n 0, 1) := by decide +kernel
theorem dX4_layFound_80 : decode cX4_layFound 80 = .ok (.getfield 35, 3) := by decide +kernel
theorem dX4_layFound_83 : decode cX4_layFound 83 = .ok (.iload 4, 2) := by decide +kernel
theorem dX4_layFound_85 : decode cX4_layFound 85 = .ok (.laload, 1) := by decide +kernel
theorem dX4_layFound_86 : decode cX4_layFound 86 = .ok (.aload_n 0, 1) := by decide +kernel
theorem dX4_layFound_87 : decode cX4_layFound 87 = .ok (.iload 4, 2) := by decide +kernel
theorem dX4_layFound_89 : decode cX4_layFound 89 = .ok (.invokevirtual 123, 3) := by decide +kernel
theorem dX4_layFound_92 : decode cX4_layFound 92 = .ok (.i2l, 1) := by decide +kernel
theorem dX4_layFound_93 : decode cX4_layFound 93 = .ok (.ldiv, 1) := by decide +kernel
theorem dX4_layFound_94 : decode cX4_layFound 94 = .ok (.invokevirtual 137, 3) := by decide +kernel
theorem dX4_layFound_97 : decode cX4_layFound 97 = .ok (.iinc 4 (-1), 3) := by decide +kernel
theorem dX4_layFound_100 : decode cX4_layFound 100 = .ok (.goto (-30), 3) := by decide +kernel
theorem dX4_layFound_103 : decode cX4_layFound 103 = .ok (.goto 83, 3) := by decide +kernel
theorem dX4_layFound_106 : decode cX4_layFound 106 = .ok (.iload_n 3, 1) := by decide +kernel
theorem dX4_layFound_107 : decode cX4_layFound 107 = .ok (.iconst 1, 1) := by decide +kernel
theorem dX4_layFound_108 : decode cX4_layFound 108 = .ok (.if_icmp .ne 40, 3) := by decide +kernel
theorem dX4_layFound_111 : decode cX4_layFound 111 = .ok (.iconst 0, 1) := by decide +kernel
theorem dX4_layFound_112 : decode cX4_layFound 112 = .ok (.istore 4, 2) := by decide +kernel
theorem dX4_layFound_114 : decode cX4_layFound 114 = .ok (.iload 4, 2) := by decide +kernel
theorem dX4_layFound_116 : decode cX4_layFound 116 = .ok (.bipush 30, 2) := by decide +kernel
theorem dX4_layFound_118 : decode cX4_layFound 118 = .ok (.if_icmp .ge 27, 3) := by decide +kernel
theorem dX4_layFound_121 : decode cX4_layFound 121 = .ok (.aload_n 0, 1) := by decide +kernel
theorem dX4_layFound_122 : decode cX4_layFound 122 = .ok (.iconst 1, 1) := by decide +kernel
theorem dX4_layFound_123 : decode cX4_layFound 123 = .ok (.aload_n 0, 1) := by decide +kernel
theorem dX4_layFound_124 : decode cX4_layFound 124 = .ok (.iload 4, 2) := by decide +kernel
theorem dX4_layFound_126 : decode cX4_layFound 126 = .ok (.invokevirtual 126, 3) := by decide +kernel
theorem dX4_layFound_129 : decode cX4_layFound 129 = .ok (.aload_n 0, 1) := by decide +kernel
theorem dX4_layFound_130 : decode cX4_layFound 130 = .ok (.getfield 35, 3) := by decide +kernel
theorem dX4_layFound_133 : decode cX4_layFound 133 = .ok (.iload 4, 2) := by decide +kernel
theorem dX4_layFound_135 : decode cX4_layFound 135 = .ok (.laload, 1) := by decide +kernel
theorem dX4_layFound_136 : decode cX4_layFound 136 = .ok (.invokevirtual 137, 3) := by decide +kernel
theorem dX4_layFound_139 : decode cX4_layFound 139 = .ok (.iinc 4 1, 3) := by decide +kernel
theorem dX4_layFound_142 : decode cX4_layFound 142 = .ok (.goto (-28), 3) := by decide +kernel
theorem dX4_layFound_145 : decode cX4_layFound 145 = .ok (.goto 41, 3) := by decide +kernel
theorem dX4_layFound_148 : decode cX4_layFound 148 = .ok (.iconst 0, 1) := by decide +kernel
theorem dX4_layFound_149 : decode cX4_layFound 149 = .ok (.istore 4, 2) := by decide +kernel
theorem dX4_layFound_151 : decode cX4_layFound 151 = .ok (.iload 4, 2) := by decide +kernel
theorem dX4_layFound_153 : decode cX4_layFound 153 = .ok (.bipush 30, 2) := by decide +kernel
theorem dX4_layFound_155 : decode cX4_layFound 155 = .ok (.if_icmp .ge 31, 3) := by decide +kernel
theorem dX4_layFound_158 : decode cX4_layFound 158 = .ok (.aload_n 0, 1) := by decide +kernel
theorem dX4_layFound_159 : decode cX4_layFound 159 = .ok (.iload_n 3, 1) := by decide +kernel
theorem dX4_layFound_160 : decode cX4_layFound 160 = .ok (.ifCond .ne 7, 3) := by decide +kernel
theorem dX4_layFound_163 : decode cX4_layFound 163 = .ok (.iconst 0, 1) := by decide +kernel
theorem dX4_layFound_164 : decode cX4_layFound 164 = .ok (.goto 4, 3) := by decide +kernel
theorem dX4_layFound_167 : decode cX4_layFound 167 = .ok (.iconst 4, 1) := by decide +kernel
theorem dX4_layFound_168 : decode cX4_layFound 168 = .ok (.iload 4, 2) := by decide +kernel
theorem dX4_layFound_170 : decode cX4_layFound 170 = .ok (.aload_n 0, 1) := by decide +kernel
theorem dX4_layFound_171 : decode cX4_layFound 171 = .ok (.getfield 35, 3) := by decide +kernel
theorem dX4_layFound_174 : decode cX4_layFound 174 = .ok (.iload 4, 2) := by decide +kernel
theorem dX4_layFound_176 : decode cX4_layFound 176 = .ok (.laload, 1) := by decide +kernel
theorem dX4_layFound_177 : decode cX4_layFound 177 = .ok (.invokevirtual 137, 3) := by decide +kernel
theorem dX4_layFound_180 : decode cX4_layFound 180 = .ok (.iinc 4 1, 3) := by decide +kernel
theorem dX4_layFound_183 : decode cX4_layFound 183 = .ok (.goto (-32), 3) := by decide +kernel
theorem dX4_layFound_186 : decode cX4_layFound 186 = .ok (.iload_n 3, 1) := by decide +kernel
theorem dX4_layFound_187 : decode cX4_layFound 187 = .ok (.iconst 2, 1) := by decide +kernel
theorem dX4_layFound_188 : decode cX4_layFound 188 = .ok (.if_icmp .ne 7, 3) := by decide +kernel
theorem dX4_layFound_191 : decode cX4_layFound 191 = .ok (.aload_n 0, 1) := by decide +kernel
theorem dX4_layFound_192 : decode cX4_layFound 192 = .ok (.invokevirtual 141, 3) := by decide +kernel
theorem dX4_layFound_195 : decode cX4_layFound 195 = .ok (.return_, 1) := by decide +kernel
theorem dX4_layComplete_0 : decode cX4_layComplete 0 = .ok (.bipush 29, 2) := by decide +kernel
theorem dX4_layComplete_2 : decode cX4_layComplete 2 = .ok (.istore_n 1, 1) := by decide +kernel
theorem dX4_layComplete_3 : decode cX4_layComplete 3 = .ok (.iload_n 1, 1) := by decide +kernel
theorem dX4_layComplete_4 : decode cX4_layComplete 4 = .ok (.ifCond .lt 61, 3) := by decide +kernel
theorem dX4_layComplete_7 : decode cX4_layComplete 7 = .ok (.aload_n 0, 1) := by decide +kernel
theorem dX4_layComplete_8 : decode cX4_layComplete 8 = .ok (.getfield 41, 3) := by decide +kernel
theorem dX4_layComplete_11 : decode cX4_layComplete 11 = .ok (.iload_n 1, 1) := by decide +kernel
theorem dX4_layComplete_12 : decode cX4_layComplete 12 = .ok (.aload_n 0, 1) := by decide +kernel
theorem dX4_layComplete_13 : decode cX4_layComplete 13 = .ok (.getfield 38, 3) := by decide +kernel
theorem dX4_layComplete_16 : decode cX4_layComplete 16 = .ok (.iload_n 1, 1) := by decide +kernel
theorem dX4_layComplete_17 : decode cX4_layComplete 17 = .ok (.laload, 1) := by decide +kernel
theorem dX4_layComplete_18 : decode cX4_layComplete 18 = .ok (.lastore, 1) := by decide +kernel
theorem dX4_layComplete_19 : decode cX4_layComplete 19 = .ok (.iconst 0, 1) := by decide +kernel
theorem dX4_layComplete_20 : decode cX4_layComplete 20 = .ok (.istore_n 2, 1) := by decide +kernel
theorem dX4_layComplete_21 : decode cX4_layComplete 21 = .ok (.iload_n 2, 1) := by decide +kernel
theorem dX4_layComplete_22 : decode cX4_layComplete 22 = .ok (.iload_n 1, 1) := by decide +kernel
theorem dX4_layComplete_23 : decode cX4_layComplete 23 = .ok (.if_icmp .ge 36, 3) := by decide +kernel
theorem dX4_layComplete_26 : decode cX4_layComplete 26 = .ok (.aload_n 0, 1) := by decide +kernel
theorem dX4_layComplete_27 : decode cX4_layComplete 27 = .ok (.getfield 38, 3) := by decide +kernel
theorem dX4_layComplete_30 : decode cX4_layComplete 30 = .ok (.iload_n 2, 1) := by decide +kernel
theorem dX4_layComplete_31 : decode cX4_layComplete 31 = .ok (.dup2, 1) := by decide +kernel
theorem dX4_layComplete_32 : decode cX4_layComplete 32 = .ok (.laload, 1) := by decide +kernel
theorem dX4_layComplete_33 : decode cX4_layComplete 33 = .ok (.aload_n 0, 1) := by decide +kernel
theorem dX4_layComplete_34 : decode cX4_layComplete 34 = .ok (.getfield 41, 3) := by decide +kernel
theorem dX4_layComplete_37 : decode cX4_layComplete 37 = .ok (.iload_n 1, 1) := by decide +kernel
theorem dX4_layComplete_38 : decode cX4_layComplete 38 = .ok (.laload, 1) := by decide +kernel
theorem dX4_layComplete_39 : decode cX4_layComplete 39 = .ok (.aload_n 0, 1) := by decide +kernel
theorem dX4_layComplete_40 : decode cX4_layComplete 40 = .ok (.getfield 19, 3) := by decide +kernel
theorem dX4_layComplete_43 : decode cX4_layComplete 43 = .ok (.iconst 4, 1) := by decide +kernel
theorem dX4_layComplete_44 : decode cX4_layComplete 44 = .ok (.iload_n 2, 1) := by decide +kernel
theorem dX4_layComplete_45 : decode cX4_layComplete 45 = .ok (.iload_n 1, 1) := by decide +kernel
theorem dX4_layComplete_46 : decode cX4_layComplete 46 = .ok (.invokestatic 75, 3) := by decide +kernel
theorem dX4_layComplete_49 : decode cX4_layComplete 49 = .ok (.laload, 1) := by decide +kernel
theorem dX4_layComplete_50 : decode cX4_layComplete 50 = .ok (.lmul, 1) := by decide +kernel
theorem dX4_layComplete_51 : decode cX4_layComplete 51 = .ok (.lsub, 1) := by decide +kernel
theorem dX4_layComplete_52 : decode cX4_layComplete 52 = .ok (.lastore, 1) := by decide +kernel
theorem dX4_layComplete_53 : decode cX4_layComplete 53 = .ok (.iinc 2 1, 3) := by decide +kernel
theorem dX4_layComplete_56 : decode cX4_layComplete 56 = .ok (.goto (-35), 3) := by decide +kernel
theorem dX4_layComplete_59 : decode cX4_layComplete 59 = .ok (.iinc 1 (-1), 3) := by decide +kernel
theorem dX4_layComplete_62 : decode cX4_layComplete 62 = .ok (.goto (-59), 3) := by decide +kernel
theorem dX4_layComplete_65 : decode cX4_layComplete 65 = .ok (.iconst 0, 1) := by decide +kernel
theorem dX4_layComplete_66 : decode cX4_layComplete 66 = .ok (.istore_n 1, 1) := by decide +kernel
theorem dX4_layComplete_67 : decode cX4_layComplete 67 = .ok (.iload_n 1, 1) := by decide +kernel
theorem dX4_layComplete_68 : decode cX4_layComplete 68 = .ok (.bipush 30, 2) := by decide +kernel
theorem dX4_layComplete_70 : decode cX4_layComplete 70 = .ok (.if_icmp .ge 21, 3) := by decide +kernel
theorem dX4_layComplete_73 : decode cX4_layComplete 73 = .ok (.aload_n 0, 1) := by decide +kernel
theorem dX4_layComplete_74 : decode cX4_layComplete 74 = .ok (.getfield 38, 3) := by decide +kernel
theorem dX4_layComplete_77 : decode cX4_layComplete 77 = .ok (.iload_n 1, 1) := by decide +kernel
theorem dX4_layComplete_78 : decode cX4_layComplete 78 = .ok (.aload_n 0, 1) := by decide +kernel
theorem dX4_layComplete_79 : decode cX4_layComplete 79 = .ok (.getfield 41, 3) := by decide +kernel
theorem dX4_layComplete_82 : decode cX4_layComplete 82 = .ok (.iload_n 1, 1) := by decide +kernel
theorem dX4_layComplete_83 : decode cX4_layComplete 83 = .ok (.laload, 1) := by decide +kernel
theorem dX4_layComplete_84 : decode cX4_layComplete 84 = .ok (.lastore, 1) := by decide +kernel
theorem dX4_layComplete_85 : decode cX4_layComplete 85 = .ok (.iinc 1 1, 3) := by decide +kernel
theorem dX4_layComplete_88 : decode cX4_layComplete 88 = .ok (.goto (-21), 3) := by decide +kernel
theorem dX4_layComplete_91 : decode cX4_layComplete 91 = .ok (.return_, 1) := by decide +kernel
theorem dX4_scalarOf_0 : decode cX4_scalarOf 0 = .ok (.aload_n 0, 1) := by decide +kernel
theorem dX4_scalarOf_1 : decode cX4_scalarOf 1 = .ok (.aload_n 1, 1) := by decide +kernel
theorem dX4_scalarOf_2 : decode cX4_scalarOf 2 = .ok (.iload_n 2, 1) := by decide +kernel
theorem dX4_scalarOf_3 : decode cX4_scalarOf 3 = .ok (.iconst 2, 1) := by decide +kernel
theorem dX4_scalarOf_4 : decode cX4_scalarOf 4 = .ok (.invokevirtual 144, 3) := by decide +kernel
theorem dX4_scalarOf_7 : decode cX4_scalarOf 7 = .ok (.lconst 0, 1) := by decide +kernel
theorem dX4_scalarOf_8 : decode cX4_scalarOf 8 = .ok (.lstore 5, 2) := by decide +kernel
theorem dX4_scalarOf_10 : decode cX4_scalarOf 10 = .ok (.iconst 0, 1) := by decide +kernel
theorem dX4_scalarOf_11 : decode cX4_scalarOf 11 = .ok (.istore 7, 2) := by decide +kernel
theorem dX4_scalarOf_13 : decode cX4_scalarOf 13 = .ok (.iload 7, 2) := by decide +kernel
theorem dX4_scalarOf_15 : decode cX4_scalarOf 15 = .ok (.bipush 30, 2) := by decide +kernel
theorem dX4_scalarOf_17 : decode cX4_scalarOf 17 = .ok (.if_icmp .ge 29, 3) := by decide +kernel
theorem dX4_scalarOf_20 : decode cX4_scalarOf 20 = .ok (.lload 5, 2) := by decide +kernel
theorem dX4_scalarOf_22 : decode cX4_scalarOf 22 = .ok (.aload_n 0, 1) := by decide +kernel
theorem dX4_scalarOf_23 : decode cX4_scalarOf 23 = .ok (.getfield 38, 3) := by decide +kernel
theorem dX4_scalarOf_26 : decode cX4_scalarOf 26 = .ok (.iload 7, 2) := by decide +kernel
theorem dX4_scalarOf_28 : decode cX4_scalarOf 28 = .ok (.laload, 1) := by decide +kernel
theorem dX4_scalarOf_29 : decode cX4_scalarOf 29 = .ok (.aload_n 3, 1) := by decide +kernel
theorem dX4_scalarOf_30 : decode cX4_scalarOf 30 = .ok (.iload 4, 2) := by decide +kernel
theorem dX4_scalarOf_32 : decode cX4_scalarOf 32 = .ok (.iload 7, 2) := by decide +kernel
theorem dX4_scalarOf_34 : decode cX4_scalarOf 34 = .ok (.iadd, 1) := by decide +kernel
theorem dX4_scalarOf_35 : decode cX4_scalarOf 35 = .ok (.laload, 1) := by decide +kernel
theorem dX4_scalarOf_36 : decode cX4_scalarOf 36 = .ok (.lmul, 1) := by decide +kernel
theorem dX4_scalarOf_37 : decode cX4_scalarOf 37 = .ok (.ladd, 1) := by decide +kernel
theorem dX4_scalarOf_38 : decode cX4_scalarOf 38 = .ok (.lstore 5, 2) := by decide +kernel
theorem dX4_scalarOf_40 : decode cX4_scalarOf 40 = .ok (.iinc 7 1, 3) := by decide +kernel
theorem dX4_scalarOf_43 : decode cX4_scalarOf 43 = .ok (.goto (-30), 3) := by decide +kernel
theorem dX4_scalarOf_46 : decode cX4_scalarOf 46 = .ok (.lload 5, 2) := by decide +kernel
theorem dX4_scalarOf_48 : decode cX4_scalarOf 48 = .ok (.lreturn, 1) := by decide +kernel
theorem dX4_character_0 : decode cX4_character 0 = .ok (.iload_n 1, 1) := by decide +kernel
theorem dX4_character_1 : decode cX4_character 1 = .ok (.invokestatic 116, 3) := by decide +kernel
theorem dX4_character_4 : decode cX4_character 4 = .ok (.ifCond .eq 10, 3) := by decide +kernel
theorem dX4_character_7 : decode cX4_character 7 = .ok (.iload_n 2, 1) := by decide +kernel
theorem dX4_character_8 : decode cX4_character 8 = .ok (.invokestatic 116, 3) := by decide +kernel
theorem dX4_character_11 : decode cX4_character 11 = .ok (.ifCond .ne 5, 3) := by decide +kernel
theorem dX4_character_14 : decode cX4_character 14 = .ok (.iconst (-1), 1) := by decide +kernel
theorem dX4_character_15 : decode cX4_character 15 = .ok (.ireturn, 1) := by decide +kernel
theorem dX4_character_16 : decode cX4_character 16 = .ok (.aload_n 0, 1) := by decide +kernel
theorem dX4_character_17 : decode cX4_character 17 = .ok (.invokevirtual 134, 3) := by decide +kernel
theorem dX4_character_20 : decode cX4_character 20 = .ok (.aload_n 0, 1) := by decide +kernel
theorem dX4_character_21 : decode cX4_character 21 = .ok (.aload_n 0, 1) := by decide +kernel
theorem dX4_character_22 : decode cX4_character 22 = .ok (.getfield 19, 3) := by decide +kernel
theorem dX4_character_25 : decode cX4_character 25 = .ok (.iconst 4, 1) := by decide +kernel
theorem dX4_character_26 : decode cX4_character 26 = .ok (.iload_n 1, 1) := by decide +kernel
theorem dX4_character_27 : decode cX4_character 27 = .ok (.iconst 0, 1) := by decide +kernel
theorem dX4_character_28 : decode cX4_character 28 = .ok (.invokestatic 75, 3) := by decide +kernel
theorem dX4_character_31 : decode cX4_character 31 = .ok (.aload_n 0, 1) := by decide +kernel
theorem dX4_character_32 : decode cX4_character 32 = .ok (.getfield 19, 3) := by decide +kernel
theorem dX4_character_35 : decode cX4_character 35 = .ok (.iconst 3, 1) := by decide +kernel
theorem dX4_character_36 : decode cX4_character 36 = .ok (.iload_n 2, 1) := by decide +kernel
theorem dX4_character_37 : decode cX4_character 37 = .ok (.iconst 0, 1) := by decide +kernel
theorem dX4_character_38 : decode cX4_character 38 = .ok (.invokestatic 75, 3) := by decide +kernel
theorem dX4_character_41 : decode cX4_character 41 = .ok (.invokevirtual 148, 3) := by decide +kernel
theorem dX4_character_44 : decode cX4_character 44 = .ok (.l2i, 1) := by decide +kernel
theorem dX4_character_45 : decode cX4_character 45 = .ok (.sipush 1000, 3) := by decide +kernel
theorem dX4_character_48 : decode cX4_character 48 = .ok (.iadd, 1) := by decide +kernel
theorem dX4_character_49 : decode cX4_character 49 = .ok (.ireturn, 1) := by decide +kernel
theorem dX4_clearWork_0 : decode cX4_clearWork 0 = .ok (.iconst 0, 1) := by decide +kernel
theorem dX4_clearWork_1 : decode cX4_clearWork 1 = .ok (.istore_n 1, 1) := by decide +kernel
theorem dX4_clearWork_2 : decode cX4_clearWork 2 = .ok (.iload_n 1, 1) := by decide +kernel
theorem dX4_clearWork_3 : decode cX4_clearWork 3 = .ok (.bipush 30, 2) := by decide +kernel
theorem dX4_clearWork_5 : decode cX4_clearWork 5 = .ok (.if_icmp .ge 16, 3) := by decide +kernel
theorem dX4_clearWork_8 : decode cX4_clearWork 8 = .ok (.aload_n 0, 1) := by decide +kernel
theorem dX4_clearWork_9 : decode cX4_clearWork 9 = .ok (.getfield 44, 3) := by decide +kernel
theorem dX4_clearWork_12 : decode cX4_clearWork 12 = .ok (.iload_n 1, 1) := by decide +kernel
theorem dX4_clearWork_13 : decode cX4_clearWork 13 = .ok (.lconst 0, 1) := by decide +kernel
theorem dX4_clearWork_14 : decode cX4_clearWork 14 = .ok (.lastore, 1) := by decide +kernel
theorem dX4_clearWork_15 : decode cX4_clearWork 15 = .ok (.iinc 1 1, 3) := by decide +kernel
theorem dX4_clearWork_18 : decode cX4_clearWork 18 = .ok (.goto (-16), 3) := by decide +kernel
theorem dX4_clearWork_21 : decode cX4_clearWork 21 = .ok (.return_, 1) := by decide +kernel
theorem dX4_addMember_0 : decode cX4_addMember 0 = .ok (.iconst 0, 1) := by decide +kernel
theorem dX4_addMember_1 : decode cX4_addMember 1 = .ok (.istore 5, 2) := by decide +kernel
theorem dX4_addMember_3 : decode cX4_addMember 3 = .ok (.iload 5, 2) := by decide +kernel
theorem dX4_addMember_5 : decode cX4_addMember 5 = .ok (.bipush 30, 2) := by decide +kernel
theorem dX4_addMember_7 : decode cX4_addMember 7 = .ok (.if_icmp .ge 33, 3) := by decide +kernel
theorem dX4_addMember_10 : decode cX4_addMember 10 = .ok (.aload_n 0, 1) := by decide +kernel
theorem dX4_addMember_11 : decode cX4_addMember 11 = .ok (.getfield 44, 3) := by decide +kernel
theorem dX4_addMember_14 : decode cX4_addMember 14 = .ok (.iload 5, 2) := by decide +kernel
theorem dX4_addMember_16 : decode cX4_addMember 16 = .ok (.dup2, 1) := by decide +kernel
theorem dX4_addMember_17 : decode cX4_addMember 17 = .ok (.laload, 1) := by decide +kernel
theorem dX4_addMember_18 : decode cX4_addMember 18 = .ok (.lload_n 3, 1) := by decide +kernel
theorem dX4_addMember_19 : decode cX4_addMember 19 = .ok (.aload_n 0, 1) := by decide +kernel
theorem dX4_addMember_20 : decode cX4_addMember 20 = .ok (.getfield 19, 3) := by decide +kernel
theorem dX4_addMember_23 : decode cX4_addMember 23 = .ok (.iload_n 1, 1) := by decide +kernel
theorem dX4_addMember_24 : decode cX4_addMember 24 = .ok (.iload_n 2, 1) := by decide +kernel
theorem dX4_addMember_25 : decode cX4_addMember 25 = .ok (.iload 5, 2) := by decide +kernel
theorem dX4_addMember_27 : decode cX4_addMember 27 = .ok (.invokestatic 75, 3) := by decide +kernel
theorem dX4_addMember_30 : decode cX4_addMember 30 = .ok (.laload, 1) := by decide +kernel
theorem dX4_addMember_31 : decode cX4_addMember 31 = .ok (.lmul, 1) := by decide +kernel
theorem dX4_addMember_32 : decode cX4_addMember 32 = .ok (.ladd, 1) := by decide +kernel
theorem dX4_addMember_33 : decode cX4_addMember 33 = .ok (.lastore, 1) := by decide +kernel
theorem dX4_addMember_34 : decode cX4_addMember 34 = .ok (.iinc 5 1, 3) := by decide +kernel
theorem dX4_addMember_37 : decode cX4_addMember 37 = .ok (.goto (-34), 3) := by decide +kernel
theorem dX4_addMember_40 : decode cX4_addMember 40 = .ok (.return_, 1) := by decide +kernel
theorem dX4_keep_0 : decode cX4_keep 0 = .ok (.iconst 0, 1) := by decide +kernel
theorem dX4_keep_1 : decode cX4_keep 1 = .ok (.istore_n 2, 1) := by decide +kernel
theorem dX4_keep_2 : decode cX4_keep 2 = .ok (.iload_n 2, 1) := by decide +kernel
theorem dX4_keep_3 : decode cX4_keep 3 = .ok (.bipush 30, 2) := by decide +kernel
theorem dX4_keep_5 : decode cX4_keep 5 = .ok (.if_icmp .ge 38, 3) := by decide +kernel
theorem dX4_keep_8 : decode cX4_keep 8 = .ok (.aload_n 0, 1) := by decide +kernel
theorem dX4_keep_9 : decode cX4_keep 9 = .ok (.getfield 44, 3) := by decide +kernel
theorem dX4_keep_12 : decode cX4_keep 12 = .ok (.iload_n 2, 1) := by decide +kernel
theorem dX4_keep_13 : decode cX4_keep 13 = .ok (.laload, 1) := by decide +kernel
theorem dX4_keep_14 : decode cX4_keep 14 = .ok (.ldc2_w 152, 3) := by decide +kernel
theorem dX4_keep_17 : decode cX4_keep 17 = .ok (.lcmp, 1) := by decide +kernel
theorem dX4_keep_18 : decode cX4_keep 18 = .ok (.ifCond .gt 16, 3) := by decide +kernel
theorem dX4_keep_21 : decode cX4_keep 21 = .ok (.aload_n 0, 1) := by decide +kernel
theorem dX4_keep_22 : decode cX4_keep 22 = .ok (.getfield 44, 3) := by decide +kernel
theorem dX4_keep_25 : decode cX4_keep 25 = .ok (.iload_n 2, 1) := by decide +kernel
theorem dX4_keep_26 : decode cX4_keep 26 = .ok (.laload, 1) := by decide +kernel
theorem dX4_keep_27 : decode cX4_keep 27 = .ok (.ldc2_w 154, 3) := by decide +kernel
theorem dX4_keep_30 : decode cX4_keep 30 = .ok (.lcmp, 1) := by decide +kernel
theorem dX4_keep_31 : decode cX4_keep 31 = .ok (.ifCond .ge 6, 3) := by decide +kernel
theorem dX4_keep_34 : decode cX4_keep 34 = .ok (.bipush (-4), 2) := by decide +kernel
theorem dX4_keep_36 : decode cX4_keep 36 = .ok (.ireturn, 1) := by decide +kernel
theorem dX4_keep_37 : decode cX4_keep 37 = .ok (.iinc 2 1, 3) := by decide +kernel
theorem dX4_keep_40 : decode cX4_keep 40 = .ok (.goto (-38), 3) := by decide +kernel
theorem dX4_keep_43 : decode cX4_keep 43 = .ok (.iconst 0, 1) := by decide +kernel
theorem dX4_keep_44 : decode cX4_keep 44 = .ok (.istore_n 2, 1) := by decide +kernel
theorem dX4_keep_45 : decode cX4_keep 45 = .ok (.iload_n 2, 1) := by decide +kernel
theorem dX4_keep_46 : decode cX4_keep 46 = .ok (.bipush 30, 2) := by decide +kernel
theorem dX4_keep_48 : decode cX4_keep 48 = .ok (.if_icmp .ge 26, 3) := by decide +kernel
theorem dX4_keep_51 : decode cX4_keep 51 = .ok (.aload_n 0, 1) := by decide +kernel
theorem dX4_keep_52 : decode cX4_keep 52 = .ok (.getfield 23, 3) := by decide +kernel
theorem dX4_keep_55 : decode cX4_keep 55 = .ok (.bipush 30, 2) := by decide +kernel
theorem dX4_keep_57 : decode cX4_keep 57 = .ok (.iload_n 1, 1) := by decide +kernel
theorem dX4_keep_58 : decode cX4_keep 58 = .ok (.imul, 1) := by decide +kernel
theorem dX4_keep_59 : decode cX4_keep 59 = .ok (.iload_n 2, 1) := by decide +kernel
theorem dX4_keep_60 : decode cX4_keep 60 = .ok (.iadd, 1) := by decide +kernel
theorem dX4_keep_61 : decode cX4_keep 61 = .ok (.aload_n 0, 1) := by decide +kernel
theorem dX4_keep_62 : decode cX4_keep 62 = .ok (.getfield 44, 3) := by decide +kernel
theorem dX4_keep_65 : decode cX4_keep 65 = .ok (.iload_n 2, 1) := by decide +kernel
theorem dX4_keep_66 : decode cX4_keep 66 = .ok (.laload, 1) := by decide +kernel
theorem dX4_keep_67 : decode cX4_keep 67 = .ok (.lastore, 1) := by decide +kernel
theorem dX4_keep_68 : decode cX4_keep 68 = .ok (.iinc 2 1, 3) := by decide +kernel
theorem dX4_keep_71 : decode cX4_keep 71 = .ok (.goto (-26), 3) := by decide +kernel
theorem dX4_keep_74 : decode cX4_keep 74 = .ok (.iconst 1, 1) := by decide +kernel
theorem dX4_keep_75 : decode cX4_keep 75 = .ok (.ireturn, 1) := by decide +kernel
theorem dX4_put_0 : decode cX4_put 0 = .ok (.iload_n 1, 1) := by decide +kernel
theorem dX4_put_1 : decode cX4_put 1 = .ok (.invokestatic 156, 3) := by decide +kernel
theorem dX4_put_4 : decode cX4_put 4 = .ok (.ifCond .eq 19, 3) := by decide +kernel
theorem dX4_put_7 : decode cX4_put 7 = .ok (.iload_n 2, 1) := by decide +kernel
theorem dX4_put_8 : decode cX4_put 8 = .ok (.iconst 0, 1) := by decide +kernel
theorem dX4_put_9 : decode cX4_put 9 = .ok (.iconst 4, 1) := by decide +kernel
theorem dX4_put_10 : decode cX4_put 10 = .ok (.invokestatic 101, 3) := by decide +kernel
theorem dX4_put_13 : decode cX4_put 13 = .ok (.ifCond .eq 10, 3) := by decide +kernel
theorem dX4_put_16 : decode cX4_put 16 = .ok (.iload_n 3, 1) := by decide +kernel
theorem dX4_put_17 : decode cX4_put 17 = .ok (.invokestatic 116, 3) := by decide +kernel
theorem dX4_put_20 : decode cX4_put 20 = .ok (.ifCond .ne 5, 3) := by decide +kernel
theorem dX4_put_23 : decode cX4_put 23 = .ok (.iconst (-1), 1) := by decide +kernel
theorem dX4_put_24 : decode cX4_put 24 = .ok (.ireturn, 1) := by decide +kernel
theorem dX4_put_25 : decode cX4_put 25 = .ok (.iload 4, 2) := by decide +kernel
theorem dX4_put_27 : decode cX4_put 27 = .ok (.sipush (-1000), 3) := by decide +kernel
theorem dX4_put_30 : decode cX4_put 30 = .ok (.sipush 1000, 3) := by decide +kernel
theorem dX4_put_33 : decode cX4_put 33 = .ok (.invokestatic 101, 3) := by decide +kernel
theorem dX4_put_36 : decode cX4_put 36 = .ok (.ifCond .ne 6, 3) := by decide +kernel
theorem dX4_put_39 : decode cX4_put 39 = .ok (.bipush (-2), 2) := by decide +kernel
theorem dX4_put_41 : decode cX4_put 41 = .ok (.ireturn, 1) := by decide +kernel
theorem dX4_put_42 : decode cX4_put 42 = .ok (.iload_n 2, 1) := by decide +kernel
theorem dX4_put_43 : decode cX4_put 43 = .ok (.iconst 4, 1) := by decide +kernel
theorem dX4_put_44 : decode cX4_put 44 = .ok (.if_icmp .ne 7, 3) := by decide +kernel
theorem dX4_put_47 : decode cX4_put 47 = .ok (.aload_n 0, 1) := by decide +kernel
theorem dX4_put_48 : decode cX4_put 48 = .ok (.invokevirtual 134, 3) := by decide +kernel
theorem dX4_put_51 : decode cX4_put 51 = .ok (.aload_n 0, 1) := by decide +kernel
theorem dX4_put_52 : decode cX4_put 52 = .ok (.invokevirtual 159, 3) := by decide +kernel
theorem dX4_put_55 : decode cX4_put 55 = .ok (.aload_n 0, 1) := by decide +kernel
theorem dX4_put_56 : decode cX4_put 56 = .ok (.iload_n 2, 1) := by decide +kernel
theorem dX4_put_57 : decode cX4_put 57 = .ok (.iload_n 3, 1) := by decide +kernel
theorem dX4_put_58 : decode cX4_put 58 = .ok (.iload 4, 2) := by decide +kernel
theorem dX4_put_60 : decode cX4_put 60 = .ok (.i2l, 1) := by decide +kernel
theorem dX4_put_61 : decode cX4_put 61 = .ok (.invokevirtual 162, 3) := by decide +kernel
theorem dX4_put_64 : decode cX4_put 64 = .ok (.aload_n 0, 1) := by decide +kernel
theorem dX4_put_65 : decode cX4_put 65 = .ok (.iload_n 1, 1) := by decide +kernel
theorem dX4_put_66 : decode cX4_put 66 = .ok (.invokevirtual 165, 3) := by decide +kernel
theorem dX4_put_69 : decode cX4_put 69 = .ok (.ireturn, 1) := by decide +kernel
theorem dX4_add_0 : decode cX4_add 0 = .ok (.iload_n 1, 1) := by decide +kernel
theorem dX4_add_1 : decode cX4_add 1 = .ok (.invokestatic 156, 3) := by decide +kernel
theorem dX4_add_4 : decode cX4_add 4 = .ok (.ifCond .eq 10, 3) := by decide +kernel
theorem dX4_add_7 : decode cX4_add 7 = .ok (.iload_n 2, 1) := by decide +kernel
theorem dX4_add_8 : decode cX4_add 8 = .ok (.invokestatic 156, 3) := by decide +kernel
theorem dX4_add_11 : decode cX4_add 11 = .ok (.ifCond .ne 5, 3) := by decide +kernel
theorem dX4_add_14 : decode cX4_add 14 = .ok (.iconst (-1), 1) := by decide +kernel
theorem dX4_add_15 : decode cX4_add 15 = .ok (.ireturn, 1) := by decide +kernel
theorem dX4_add_16 : decode cX4_add 16 = .ok (.iload_n 3, 1) := by decide +kernel
theorem dX4_add_17 : decode cX4_add 17 = .ok (.sipush (-1000), 3) := by decide +kernel
theorem dX4_add_20 : decode cX4_add 20 = .ok (.sipush 1000, 3) := by decide +kernel
theorem dX4_add_23 : decode cX4_add 23 = .ok (.invokestatic 101, 3) := by decide +kernel
theorem dX4_add_26 : decode cX4_add 26 = .ok (.ifCond .ne 6, 3) := by decide +kernel
theorem dX4_add_29 : decode cX4_add 29 = .ok (.bipush (-2), 2) := by decide +kernel
theorem dX4_add_31 : decode cX4_add 31 = .ok (.ireturn, 1) := by decide +kernel
theorem dX4_add_32 : decode cX4_add 32 = .ok (.iconst 0, 1) := by decide +kernel
theorem dX4_add_33 : decode cX4_add 33 = .ok (.istore 4, 2) := by decide +kernel
theorem dX4_add_35 : decode cX4_add 35 = .ok (.iload 4, 2) := by decide +kernel
theorem dX4_add_37 : decode cX4_add 37 = .ok (.bipush 30, 2) := by decide +kernel
theorem dX4_add_39 : decode cX4_add 39 = .ok (.if_icmp .ge 44, 3) := by decide +kernel
theorem dX4_add_42 : decode cX4_add 42 = .ok (.aload_n 0, 1) := by decide +kernel
theorem dX4_add_43 : decode cX4_add 43 = .ok (.getfield 44, 3) := by decide +kernel
theorem dX4_add_46 : decode cX4_add 46 = .ok (.iload 4, 2) := by decide +kernel
theorem dX4_add_48 : decode cX4_add 48 = .ok (.aload_n 0, 1) := by decide +kernel
theorem dX4_add_49 : decode cX4_add 49 = .ok (.getfield 23, 3) := by decide +kernel
theorem dX4_add_52 : decode cX4_add 52 = .ok (.bipush 30, 2) := by decide +kernel
theorem dX4_add_54 : decode cX4_add 54 = .ok (.iload_n 1, 1) := by decide +kernel
theorem dX4_add_55 : decode cX4_add 55 = .ok (.imul, 1) := by decide +kernel
theorem dX4_add_56 : decode cX4_add 56 = .ok (.iload 4, 2) := by decide +kernel
theorem dX4_add_58 : decode cX4_add 58 = .ok (.iadd, 1) := by decide +kernel
theorem dX4_add_59 : decode cX4_add 59 = .ok (.laload, 1) := by decide +kernel
theorem dX4_add_60 : decode cX4_add 60 = .ok (.iload_n 3, 1) := by decide +kernel
theorem dX4_add_61 : decode cX4_add 61 = .ok (.i2l, 1) := by decide +kernel
theorem dX4_add_62 : decode cX4_add 62 = .ok (.aload_n 0, 1) := by decide +kernel
theorem dX4_add_63 : decode cX4_add 63 = .ok (.getfield 23, 3) := by decide +kernel
theorem dX4_add_66 : decode cX4_add 66 = .ok (.bipush 30, 2) := by decide +kernel
theorem dX4_add_68 : decode cX4_add 68 = .ok (.iload_n 2, 1) := by decide +kernel
theorem dX4_add_69 : decode cX4_add 69 = .ok (.imul, 1) := by decide +kernel
theorem dX4_add_70 : decode cX4_add 70 = .ok (.iload 4, 2) := by decide +kernel
theorem dX4_add_72 : decode cX4_add 72 = .ok (.iadd, 1) := by decide +kernel
theorem dX4_add_73 : decode cX4_add 73 = .ok (.laload, 1) := by decide +kernel
theorem dX4_add_74 : decode cX4_add 74 = .ok (.lmul, 1) := by decide +kernel
theorem dX4_add_75 : decode cX4_add 75 = .ok (.ladd, 1) := by decide +kernel
theorem dX4_add_76 : decode cX4_add 76 = .ok (.lastore, 1) := by decide +kernel
theorem dX4_add_77 : decode cX4_add 77 = .ok (.iinc 4 1, 3) := by decide +kernel
theorem dX4_add_80 : decode cX4_add 80 = .ok (.goto (-45), 3) := by decide +kernel
theorem dX4_add_83 : decode cX4_add 83 = .ok (.aload_n 0, 1) := by decide +kernel
theorem dX4_add_84 : decode cX4_add 84 = .ok (.iload_n 1, 1) := by decide +kernel
theorem dX4_add_85 : decode cX4_add 85 = .ok (.invokevirtual 165, 3) := by decide +kernel
theorem dX4_add_88 : decode cX4_add 88 = .ok (.ireturn, 1) := by decide +kernel
theorem dX4_degreeOf_0 : decode cX4_degreeOf 0 = .ok (.bipush (-6), 2) := by decide +kernel
theorem dX4_degreeOf_2 : decode cX4_degreeOf 2 = .ok (.istore_n 2, 1) := by decide +kernel
theorem dX4_degreeOf_3 : decode cX4_degreeOf 3 = .ok (.iconst 0, 1) := by decide +kernel
theorem dX4_degreeOf_4 : decode cX4_degreeOf 4 = .ok (.istore_n 3, 1) := by decide +kernel
theorem dX4_degreeOf_5 : decode cX4_degreeOf 5 = .ok (.iload_n 3, 1) := by decide +kernel
theorem dX4_degreeOf_6 : decode cX4_degreeOf 6 = .ok (.bipush 30, 2) := by decide +kernel
theorem dX4_degreeOf_8 : decode cX4_degreeOf 8 = .ok (.if_icmp .ge 36, 3) := by decide +kernel
theorem dX4_degreeOf_11 : decode cX4_degreeOf 11 = .ok (.aload_n 0, 1) := by decide +kernel
theorem dX4_degreeOf_12 : decode cX4_degreeOf 12 = .ok (.getfield 23, 3) := by decide +kernel
theorem dX4_degreeOf_15 : decode cX4_degreeOf 15 = .ok (.bipush 30, 2) := by decide +kernel
theorem dX4_degreeOf_17 : decode cX4_degreeOf 17 = .ok (.iload_n 1, 1) := by decide +kernel
theorem dX4_degreeOf_18 : decode cX4_degreeOf 18 = .ok (.imul, 1) := by decide +kernel
theorem dX4_degreeOf_19 : decode cX4_degreeOf 19 = .ok (.iload_n 3, 1) := by decide +kernel
theorem dX4_degreeOf_20 : decode cX4_degreeOf 20 = .ok (.iadd, 1) := by decide +kernel
theorem dX4_degreeOf_21 : decode cX4_degreeOf 21 = .ok (.laload, 1) := by decide +kernel
theorem dX4_degreeOf_22 : decode cX4_degreeOf 22 = .ok (.lconst 0, 1) := by decide +kernel
theorem dX4_degreeOf_23 : decode cX4_degreeOf 23 = .ok (.lcmp, 1) := by decide +kernel
theorem dX4_degreeOf_24 : decode cX4_degreeOf 24 = .ok (.ifCond .eq 12, 3) := by decide +kernel
theorem dX4_degreeOf_27 : decode cX4_degreeOf 27 = .ok (.aload_n 0, 1) := by decide +kernel
theorem dX4_degreeOf_28 : decode cX4_degreeOf 28 = .ok (.getfield 13, 3) := by decide +kernel
theorem dX4_degreeOf_31 : decode cX4_degreeOf 31 = .ok (.iload_n 3, 1) := by decide +kernel
theorem dX4_degreeOf_32 : decode cX4_degreeOf 32 = .ok (.iaload, 1) := by decide +kernel
theorem dX4_degreeOf_33 : decode cX4_degreeOf 33 = .ok (.goto 4, 3) := by decide +kernel
theorem dX4_degreeOf_36 : decode cX4_degreeOf 36 = .ok (.iload_n 2, 1) := by decide +kernel
theorem dX4_degreeOf_37 : decode cX4_degreeOf 37 = .ok (.istore_n 2, 1) := by decide +kernel
theorem dX4_degreeOf_38 : decode cX4_degreeOf 38 = .ok (.iinc 3 1, 3) := by decide +kernel
theorem dX4_degreeOf_41 : decode cX4_degreeOf 41 = .ok (.goto (-36), 3) := by decide +kernel
theorem dX4_degreeOf_44 : decode cX4_degreeOf 44 = .ok (.iload_n 2, 1) := by decide +kernel
theorem dX4_degreeOf_45 : decode cX4_degreeOf 45 = .ok (.ireturn, 1) := by decide +kernel
theorem dX4_degree_0 : decode cX4_degree 0 = .ok (.iload_n 1, 1) := by decide +kernel
theorem dX4_degree_1 : decode cX4_degree 1 = .ok (.invokestatic 156, 3) := by decide +kernel
theorem dX4_degree_4 : decode cX4_degree 4 = .ok (.ifCond .eq 11, 3) := by decide +kernel
theorem dX4_degree_7 : decode cX4_degree 7 = .ok (.aload_n 0, 1) := by decide +kernel
theorem dX4_degree_8 : decode cX4_degree 8 = .ok (.iload_n 1, 1) := by decide +kernel
theorem dX4_degree_9 : decode cX4_degree 9 = .ok (.invokevirtual 168, 3) := by decide +kernel
theorem dX4_degree_12 : decode cX4_degree 12 = .ok (.goto 4, 3) := by decide +kernel
theorem dX4_degree_15 : decode cX4_degree 15 = .ok (.iconst (-1), 1) := by decide +kernel
theorem dX4_degree_16 : decode cX4_degree 16 = .ok (.ireturn, 1) := by decide +kernel
theorem dX4_common_0 : decode cX4_common 0 = .ok (.lload_n 0, 1) := by decide +kernel
theorem dX4_common_1 : decode cX4_common 1 = .ok (.lconst 0, 1) := by decide +kernel
theorem dX4_common_2 : decode cX4_common 2 = .ok (.lcmp, 1) := by decide +kernel
theorem dX4_common_3 : decode cX4_common 3 = .ok (.ifCond .ge 8, 3) := by decide +kernel
theorem dX4_common_6 : decode cX4_common 6 = .ok (.lload_n 0, 1) := by decide +kernel
theorem dX4_common_7 : decode cX4_common 7 = .ok (.lneg, 1) := by decide +kernel
theorem dX4_common_8 : decode cX4_common 8 = .ok (.goto 4, 3) := by decide +kernel
theorem dX4_common_11 : decode cX4_common 11 = .ok (.lload_n 0, 1) := by decide +kernel
theorem dX4_common_12 : decode cX4_common 12 = .ok (.lstore 4, 2) := by decide +kernel
theorem dX4_common_14 : decode cX4_common 14 = .ok (.lload_n 2, 1) := by decide +kernel
theorem dX4_common_15 : decode cX4_common 15 = .ok (.lstore 6, 2) := by decide +kernel
theorem dX4_common_17 : decode cX4_common 17 = .ok (.iconst 0, 1) := by decide +kernel
theorem dX4_common_18 : decode cX4_common 18 = .ok (.istore 8, 2) := by decide +kernel
theorem dX4_common_20 : decode cX4_common 20 = .ok (.iload 8, 2) := by decide +kernel
theorem dX4_common_22 : decode cX4_common 22 = .ok (.sipush 200, 3) := by decide +kernel
theorem dX4_common_25 : decode cX4_common 25 = .ok (.if_icmp .ge 31, 3) := by decide +kernel
theorem dX4_common_28 : decode cX4_common 28 = .ok (.lload 6, 2) := by decide +kernel
theorem dX4_common_30 : decode cX4_common 30 = .ok (.lconst 0, 1) := by decide +kernel
theorem dX4_common_31 : decode cX4_common 31 = .ok (.lcmp, 1) := by decide +kernel
theorem dX4_common_32 : decode cX4_common 32 = .ok (.ifCond .eq 24, 3) := by decide +kernel
theorem dX4_common_35 : decode cX4_common 35 = .ok (.lload 4, 2) := by decide +kernel
theorem dX4_common_37 : decode cX4_common 37 = .ok (.lload 6, 2) := by decide +kernel
theorem dX4_common_39 : decode cX4_common 39 = .ok (.lrem, 1) := by decide +kernel
theorem dX4_common_40 : decode cX4_common 40 = .ok (.lstore 9, 2) := by decide +kernel
theorem dX4_common_42 : decode cX4_common 42 = .ok (.lload 6, 2) := by decide +kernel
theorem dX4_common_44 : decode cX4_common 44 = .ok (.lstore 4, 2) := by decide +kernel
theorem dX4_common_46 : decode cX4_common 46 = .ok (.lload 9, 2) := by decide +kernel
theorem dX4_common_48 : decode cX4_common 48 = .ok (.lstore 6, 2) := by decide +kernel
theorem dX4_common_50 : decode cX4_common 50 = .ok (.iinc 8 1, 3) := by decide +kernel
theorem dX4_common_53 : decode cX4_common 53 = .ok (.goto (-33), 3) := by decide +kernel
theorem dX4_common_56 : decode cX4_common 56 = .ok (.lload 4, 2) := by decide +kernel
theorem dX4_common_58 : decode cX4_common 58 = .ok (.lreturn, 1) := by decide +kernel
theorem dX4_coefficient_0 : decode cX4_coefficient 0 = .ok (.iload_n 1, 1) := by decide +kernel
theorem dX4_coefficient_1 : decode cX4_coefficient 1 = .ok (.invokestatic 156, 3) := by decide +kernel
theorem dX4_coefficient_4 : decode cX4_coefficient 4 = .ok (.ifCond .eq 19, 3) := by decide +kernel
theorem dX4_coefficient_7 : decode cX4_coefficient 7 = .ok (.iload_n 2, 1) := by decide +kernel
theorem dX4_coefficient_8 : decode cX4_coefficient 8 = .ok (.iconst 0, 1) := by decide +kernel
theorem dX4_coefficient_9 : decode cX4_coefficient 9 = .ok (.iconst 4, 1) := by decide +kernel
theorem dX4_coefficient_10 : decode cX4_coefficient 10 = .ok (.invokestatic 101, 3) := by decide +kernel
theorem dX4_coefficient_13 : decode cX4_coefficient 13 = .ok (.ifCond .eq 10, 3) := by decide +kernel
theorem dX4_coefficient_16 : decode cX4_coefficient 16 = .ok (.iload_n 3, 1) := by decide +kernel
theorem dX4_coefficient_17 : decode cX4_coefficient 17 = .ok (.invokestatic 116, 3) := by decide +kernel
theorem dX4_coefficient_20 : decode cX4_coefficient 20 = .ok (.ifCond .ne 7, 3) := by decide +kernel
theorem dX4_coefficient_23 : decode cX4_coefficient 23 = .ok (.ldc2_w 171, 3) := by decide +kernel
theorem dX4_coefficient_26 : decode cX4_coefficient 26 = .ok (.lreturn, 1) := by decide +kernel
theorem dX4_coefficient_27 : decode cX4_coefficient 27 = .ok (.iload 4, 2) := by decide +kernel
theorem dX4_coefficient_29 : decode cX4_coefficient 29 = .ok (.iconst 0, 1) := by decide +kernel
theorem dX4_coefficient_30 : decode cX4_coefficient 30 = .ok (.iconst 1, 1) := by decide +kernel
theorem dX4_coefficient_31 : decode cX4_coefficient 31 = .ok (.invokestatic 101, 3) := by decide +kernel
theorem dX4_coefficient_34 : decode cX4_coefficient 34 = .ok (.ifCond .ne 7, 3) := by decide +kernel
theorem dX4_coefficient_37 : decode cX4_coefficient 37 = .ok (.ldc2_w 173, 3) := by decide +kernel
theorem dX4_coefficient_40 : decode cX4_coefficient 40 = .ok (.lreturn, 1) := by decide +kernel
theorem dX4_coefficient_41 : decode cX4_coefficient 41 = .ok (.aload_n 0, 1) := by decide +kernel
theorem dX4_coefficient_42 : decode cX4_coefficient 42 = .ok (.aload_n 0, 1) := by decide +kernel
theorem dX4_coefficient_43 : decode cX4_coefficient 43 = .ok (.getfield 23, 3) := by decide +kernel
theorem dX4_coefficient_46 : decode cX4_coefficient 46 = .ok (.bipush 30, 2) := by decide +kernel
theorem dX4_coefficient_48 : decode cX4_coefficient 48 = .ok (.iload_n 1, 1) := by decide +kernel
theorem dX4_coefficient_49 : decode cX4_coefficient 49 = .ok (.imul, 1) := by decide +kernel
theorem dX4_coefficient_50 : decode cX4_coefficient 50 = .ok (.iload_n 2, 1) := by decide +kernel
theorem dX4_coefficient_51 : decode cX4_coefficient 51 = .ok (.invokevirtual 144, 3) := by decide +kernel
theorem dX4_coefficient_54 : decode cX4_coefficient 54 = .ok (.iload_n 2, 1) := by decide +kernel
theorem dX4_coefficient_55 : decode cX4_coefficient 55 = .ok (.iconst 3, 1) := by decide +kernel
theorem dX4_coefficient_56 : decode cX4_coefficient 56 = .ok (.if_icmp .ne 9, 3) := by decide +kernel
theorem dX4_coefficient_59 : decode cX4_coefficient 59 = .ok (.ldc2_w 132, 3) := by decide +kernel
theorem dX4_coefficient_62 : decode cX4_coefficient 62 = .ok (.goto 4, 3) := by decide +kernel
theorem dX4_coefficient_65 : decode cX4_coefficient 65 = .ok (.lconst 1, 1) := by decide +kernel
theorem dX4_coefficient_66 : decode cX4_coefficient 66 = .ok (.lstore 5, 2) := by decide +kernel
theorem dX4_coefficient_68 : decode cX4_coefficient 68 = .ok (.aload_n 0, 1) := by decide +kernel
theorem dX4_coefficient_69 : decode cX4_coefficient 69 = .ok (.getfield 38, 3) := by decide +kernel
theorem dX4_coefficient_72 : decode cX4_coefficient 72 = .ok (.iload_n 3, 1) := by decide +kernel
theorem dX4_coefficient_73 : decode cX4_coefficient 73 = .ok (.laload, 1) := by decide +kernel
theorem dX4_coefficient_74 : decode cX4_coefficient 74 = .ok (.lload 5, 2) := by decide +kernel
theorem dX4_coefficient_76 : decode cX4_coefficient 76 = .ok (.invokestatic 175, 3) := by decide +kernel
theorem dX4_coefficient_79 : decode cX4_coefficient 79 = .ok (.lstore 7, 2) := by decide +kernel
theorem dX4_coefficient_81 : decode cX4_coefficient 81 = .ok (.iload 4, 2) := by decide +kernel
theorem dX4_coefficient_83 : decode cX4_coefficient 83 = .ok (.ifCond .ne 15, 3) := by decide +kernel
theorem dX4_coefficient_86 : decode cX4_coefficient 86 = .ok (.aload_n 0, 1) := by decide +kernel
theorem dX4_coefficient_87 : decode cX4_coefficient 87 = .ok (.getfield 38, 3) := by decide +kernel
theorem dX4_coefficient_90 : decode cX4_coefficient 90 = .ok (.iload_n 3, 1) := by decide +kernel
theorem dX4_coefficient_91 : decode cX4_coefficient 91 = .ok (.laload, 1) := by decide +kernel
theorem dX4_coefficient_92 : decode cX4_coefficient 92 = .ok (.lload 7, 2) := by decide +kernel
theorem dX4_coefficient_94 : decode cX4_coefficient 94 = .ok (.ldiv, 1) := by decide +kernel
theorem dX4_coefficient_95 : decode cX4_coefficient 95 = .ok (.goto 8, 3) := by decide +kernel
theorem dX4_coefficient_98 : decode cX4_coefficient 98 = .ok (.lload 5, 2) := by decide +kernel
theorem dX4_coefficient_100 : decode cX4_coefficient 100 = .ok (.lload 7, 2) := by decide +kernel
theorem dX4_coefficient_102 : decode cX4_coefficient 102 = .ok (.ldiv, 1) := by decide +kernel
theorem dX4_coefficient_103 : decode cX4_coefficient 103 = .ok (.lreturn, 1) := by decide +kernel
theorem dX4_next_0 : decode cX4_next 0 = .ok (.iload_n 1, 1) := by decide +kernel
theorem dX4_next_1 : decode cX4_next 1 = .ok (.invokestatic 156, 3) := by decide +kernel
theorem dX4_next_4 : decode cX4_next 4 = .ok (.ifCond .eq 12, 3) := by decide +kernel
theorem dX4_next_7 : decode cX4_next 7 = .ok (.iload_n 2, 1) := by decide +kernel
theorem dX4_next_8 : decode cX4_next 8 = .ok (.iconst 0, 1) := by decide +kernel
theorem dX4_next_9 : decode cX4_next 9 = .ok (.iconst 4, 1) := by decide +kernel
theorem dX4_next_10 : decode cX4_next 10 = .ok (.invokestatic 101, 3) := by decide +kernel
theorem dX4_next_13 : decode cX4_next 13 = .ok (.ifCond .ne 5, 3) := by decide +kernel
theorem dX4_next_16 : decode cX4_next 16 = .ok (.iconst (-1), 1) := by decide +kernel
theorem dX4_next_17 : decode cX4_next 17 = .ok (.ireturn, 1) := by decide +kernel
theorem dX4_next_18 : decode cX4_next 18 = .ok (.iload_n 3, 1) := by decide +kernel
theorem dX4_next_19 : decode cX4_next 19 = .ok (.iconst 0, 1) := by decide +kernel
theorem dX4_next_20 : decode cX4_next 20 = .ok (.bipush 30, 2) := by decide +kernel
theorem dX4_next_22 : decode cX4_next 22 = .ok (.invokestatic 101, 3) := by decide +kernel
theorem dX4_next_25 : decode cX4_next 25 = .ok (.ifCond .ne 6, 3) := by decide +kernel
theorem dX4_next_28 : decode cX4_next 28 = .ok (.bipush (-2), 2) := by decide +kernel
theorem dX4_next_30 : decode cX4_next 30 = .ok (.ireturn, 1) := by decide +kernel
theorem dX4_next_31 : decode cX4_next 31 = .ok (.aload_n 0, 1) := by decide +kernel
theorem dX4_next_32 : decode cX4_next 32 = .ok (.aload_n 0, 1) := by decide +kernel
theorem dX4_next_33 : decode cX4_next 33 = .ok (.getfield 23, 3) := by decide +kernel
theorem dX4_next_36 : decode cX4_next 36 = .ok (.bipush 30, 2) := by decide +kernel
theorem dX4_next_38 : decode cX4_next 38 = .ok (.iload_n 1, 1) := by decide +kernel
theorem dX4_next_39 : decode cX4_next 39 = .ok (.imul, 1) := by decide +kernel
theorem dX4_next_40 : decode cX4_next 40 = .ok (.iload_n 2, 1) := by decide +kernel
theorem dX4_next_41 : decode cX4_next 41 = .ok (.invokevirtual 144, 3) := by decide +kernel
theorem dX4_next_44 : decode cX4_next 44 = .ok (.bipush (-6), 2) := by decide +kernel
theorem dX4_next_46 : decode cX4_next 46 = .ok (.istore 4, 2) := by decide +kernel
theorem dX4_next_48 : decode cX4_next 48 = .ok (.bipush 29, 2) := by decide +kernel
theorem dX4_next_50 : decode cX4_next 50 = .ok (.istore 5, 2) := by decide +kernel
theorem dX4_next_52 : decode cX4_next 52 = .ok (.iload 5, 2) := by decide +kernel
theorem dX4_next_54 : decode cX4_next 54 = .ok (.iload_n 3, 1) := by decide +kernel
theorem dX4_next_55 : decode cX4_next 55 = .ok (.if_icmp .lt 30, 3) := by decide +kernel
theorem dX4_next_58 : decode cX4_next 58 = .ok (.aload_n 0, 1) := by decide +kernel
theorem dX4_next_59 : decode cX4_next 59 = .ok (.getfield 38, 3) := by decide +kernel
theorem dX4_next_62 : decode cX4_next 62 = .ok (.iload 5, 2) := by decide +kernel
theorem dX4_next_64 : decode cX4_next 64 = .ok (.laload, 1) := by decide +kernel
theorem dX4_next_65 : decode cX4_next 65 = .ok (.lconst 0, 1) := by decide +kernel
theorem dX4_next_66 : decode cX4_next 66 = .ok (.lcmp, 1) := by decide +kernel
theorem dX4_next_67 : decode cX4_next 67 = .ok (.ifCond .eq 8, 3) := by decide +kernel
theorem dX4_next_70 : decode cX4_next 70 = .ok (.iload 5, 2) := by decide +kernel
theorem dX4_next_72 : decode cX4_next 72 = .ok (.goto 5, 3) := by decide +kernel
theorem dX4_next_75 : decode cX4_next 75 = .ok (.iload 4, 2) := by decide +kernel
theorem dX4_next_77 : decode cX4_next 77 = .ok (.istore 4, 2) := by decide +kernel
theorem dX4_next_79 : decode cX4_next 79 = .ok (.iinc 5 (-1), 3) := by decide +kernel
theorem dX4_next_82 : decode cX4_next 82 = .ok (.goto (-30), 3) := by decide +kernel
theorem dX4_next_85 : decode cX4_next 85 = .ok (.iload 4, 2) := by decide +kernel
theorem dX4_next_87 : decode cX4_next 87 = .ok (.ireturn, 1) := by decide +kernel
theorem dX4_power_0 : decode cX4_power 0 = .ok (.lconst 1, 1) := by decide +kernel
theorem dX4_power_1 : decode cX4_power 1 = .ok (.lstore_n 2, 1) := by decide +kernel
theorem dX4_power_2 : decode cX4_power 2 = .ok (.iconst 0, 1) := by decide +kernel
theorem dX4_power_3 : decode cX4_power 3 = .ok (.istore 4, 2) := by decide +kernel
theorem dX4_power_5 : decode cX4_power 5 = .ok (.iload 4, 2) := by decide +kernel
theorem dX4_power_7 : decode cX4_power 7 = .ok (.iload_n 1, 1) := by decide +kernel
theorem dX4_power_8 : decode cX4_power 8 = .ok (.if_icmp .ge 14, 3) := by decide +kernel
theorem dX4_power_11 : decode cX4_power 11 = .ok (.lload_n 2, 1) := by decide +kernel
theorem dX4_power_12 : decode cX4_power 12 = .ok (.iload_n 0, 1) := by decide +kernel
theorem dX4_power_13 : decode cX4_power 13 = .ok (.i2l, 1) := by decide +kernel
theorem dX4_power_14 : decode cX4_power 14 = .ok (.lmul, 1) := by decide +kernel
theorem dX4_power_15 : decode cX4_power 15 = .ok (.lstore_n 2, 1) := by decide +kernel
theorem dX4_power_16 : decode cX4_power 16 = .ok (.iinc 4 1, 3) := by decide +kernel
theorem dX4_power_19 : decode cX4_power 19 = .ok (.goto (-14), 3) := by decide +kernel
theorem dX4_power_22 : decode cX4_power 22 = .ok (.lload_n 2, 1) := by decide +kernel
theorem dX4_power_23 : decode cX4_power 23 = .ok (.lreturn, 1) := by decide +kernel
theorem dX4_value_0 : decode cX4_value 0 = .ok (.iload_n 1, 1) := by decide +kernel
theorem dX4_value_1 : decode cX4_value 1 = .ok (.invokestatic 156, 3) := by decide +kernel
theorem dX4_value_4 : decode cX4_value 4 = .ok (.ifCond .ne 7, 3) := by decide +kernel
theorem dX4_value_7 : decode cX4_value 7 = .ok (.ldc2_w 171, 3) := by decide +kernel
theorem dX4_value_10 : decode cX4_value 10 = .ok (.lreturn, 1) := by decide +kernel
theorem dX4_value_11 : decode cX4_value 11 = .ok (.iload_n 2, 1) := by decide +kernel
theorem dX4_value_12 : decode cX4_value 12 = .ok (.bipush (-9), 2) := by decide +kernel
theorem dX4_value_14 : decode cX4_value 14 = .ok (.bipush 9, 2) := by decide +kernel
theorem dX4_value_16 : decode cX4_value 16 = .ok (.invokestatic 101, 3) := by decide +kernel
theorem dX4_value_19 : decode cX4_value 19 = .ok (.ifCond .eq 26, 3) := by decide +kernel
theorem dX4_value_22 : decode cX4_value 22 = .ok (.iload_n 3, 1) := by decide +kernel
theorem dX4_value_23 : decode cX4_value 23 = .ok (.bipush (-9), 2) := by decide +kernel
theorem dX4_value_25 : decode cX4_value 25 = .ok (.bipush 9, 2) := by decide +kernel
theorem dX4_value_27 : decode cX4_value 27 = .ok (.invokestatic 101, 3) := by decide +kernel
theorem dX4_value_30 : decode cX4_value 30 = .ok (.ifCond .eq 15, 3) := by decide +kernel
theorem dX4_value_33 : decode cX4_value 33 = .ok (.iload 4, 2) := by decide +kernel
theorem dX4_value_35 : decode cX4_value 35 = .ok (.bipush (-9), 2) := by decide +kernel
theorem dX4_value_37 : decode cX4_value 37 = .ok (.bipush 9, 2) := by decide +kernel
theorem dX4_value_39 : decode cX4_value 39 = .ok (.invokestatic 101, 3) := by decide +kernel
theorem dX4_value_42 : decode cX4_value 42 = .ok (.ifCond .ne 7, 3) := by decide +kernel
theorem dX4_value_45 : decode cX4_value 45 = .ok (.ldc2_w 173, 3) := by decide +kernel
theorem dX4_value_48 : decode cX4_value 48 = .ok (.lreturn, 1) := by decide +kernel
theorem dX4_value_49 : decode cX4_value 49 = .ok (.lconst 0, 1) := by decide +kernel
theorem dX4_value_50 : decode cX4_value 50 = .ok (.lstore 5, 2) := by decide +kernel
theorem dX4_value_52 : decode cX4_value 52 = .ok (.iconst 0, 1) := by decide +kernel
theorem dX4_value_53 : decode cX4_value 53 = .ok (.istore 7, 2) := by decide +kernel
theorem dX4_value_55 : decode cX4_value 55 = .ok (.iload 7, 2) := by decide +kernel
theorem dX4_value_57 : decode cX4_value 57 = .ok (.bipush 6, 2) := by decide +kernel
theorem dX4_value_59 : decode cX4_value 59 = .ok (.if_icmp .gt 113, 3) := by decide +kernel
theorem dX4_value_62 : decode cX4_value 62 = .ok (.iconst 0, 1) := by decide +kernel
theorem dX4_value_63 : decode cX4_value 63 = .ok (.istore 8, 2) := by decide +kernel
theorem dX4_value_65 : decode cX4_value 65 = .ok (.iload 7, 2) := by decide +kernel
theorem dX4_value_67 : decode cX4_value 67 = .ok (.iload 8, 2) := by decide +kernel
theorem dX4_value_69 : decode cX4_value 69 = .ok (.iadd, 1) := by decide +kernel
theorem dX4_value_70 : decode cX4_value 70 = .ok (.bipush 6, 2) := by decide +kernel
theorem dX4_value_72 : decode cX4_value 72 = .ok (.if_icmp .gt 94, 3) := by decide +kernel
theorem dX4_value_75 : decode cX4_value 75 = .ok (.iconst 0, 1) := by decide +kernel
theorem dX4_value_76 : decode cX4_value 76 = .ok (.istore 9, 2) := by decide +kernel
theorem dX4_value_78 : decode cX4_value 78 = .ok (.iload 7, 2) := by decide +kernel
theorem dX4_value_80 : decode cX4_value 80 = .ok (.iload 8, 2) := by decide +kernel
theorem dX4_value_82 : decode cX4_value 82 = .ok (.iadd, 1) := by decide +kernel
theorem dX4_value_83 : decode cX4_value 83 = .ok (.iload 9, 2) := by decide +kernel
theorem dX4_value_85 : decode cX4_value 85 = .ok (.iadd, 1) := by decide +kernel
theorem dX4_value_86 : decode cX4_value 86 = .ok (.bipush 6, 2) := by decide +kernel
theorem dX4_value_88 : decode cX4_value 88 = .ok (.if_icmp .gt 72, 3) := by decide +kernel
theorem dX4_value_91 : decode cX4_value 91 = .ok (.aload_n 0, 1) := by decide +kernel
theorem dX4_value_92 : decode cX4_value 92 = .ok (.getfield 23, 3) := by decide +kernel
theorem dX4_value_95 : decode cX4_value 95 = .ok (.bipush 30, 2) := by decide +kernel
theorem dX4_value_97 : decode cX4_value 97 = .ok (.iload_n 1, 1) := by decide +kernel
theorem dX4_value_98 : decode cX4_value 98 = .ok (.imul, 1) := by decide +kernel
theorem dX4_value_99 : decode cX4_value 99 = .ok (.aload_n 0, 1) := by decide +kernel
theorem dX4_value_100 : decode cX4_value 100 = .ok (.getfield 16, 3) := by decide +kernel
theorem dX4_value_103 : decode cX4_value 103 = .ok (.iload 7, 2) := by decide +kernel
theorem dX4_value_105 : decode cX4_value 105 = .ok (.invokestatic 87, 3) := by decide +kernel
theorem dX4_value_108 : decode cX4_value 108 = .ok (.iload 8, 2) := by decide +kernel
theorem dX4_value_110 : decode cX4_value 110 = .ok (.invokestatic 87, 3) := by decide +kernel
theorem dX4_value_113 : decode cX4_value 113 = .ok (.iadd, 1) := by decide +kernel
theorem dX4_value_114 : decode cX4_value 114 = .ok (.iload 9, 2) := by decide +kernel
theorem dX4_value_116 : decode cX4_value 116 = .ok (.invokestatic 87, 3) := by decide +kernel
theorem dX4_value_119 : decode cX4_value 119 = .ok (.iadd, 1) := by decide +kernel
theorem dX4_value_120 : decode cX4_value 120 = .ok (.iaload, 1) := by decide +kernel
theorem dX4_value_121 : decode cX4_value 121 = .ok (.iadd, 1) := by decide +kernel
theorem dX4_value_122 : decode cX4_value 122 = .ok (.laload, 1) := by decide +kernel
theorem dX4_value_123 : decode cX4_value 123 = .ok (.lstore 10, 2) := by decide +kernel
theorem dX4_value_125 : decode cX4_value 125 = .ok (.lload 5, 2) := by decide +kernel
theorem dX4_value_127 : decode cX4_value 127 = .ok (.lload 10, 2) := by decide +kernel
theorem dX4_value_129 : decode cX4_value 129 = .ok (.iload_n 2, 1) := by decide +kernel
theorem dX4_value_130 : decode cX4_value 130 = .ok (.iload 7, 2) := by decide +kernel
theorem dX4_value_132 : decode cX4_value 132 = .ok (.invokestatic 179, 3) := by decide +kernel
theorem dX4_value_135 : decode cX4_value 135 = .ok (.lmul, 1) := by decide +kernel
theorem dX4_value_136 : decode cX4_value 136 = .ok (.iload_n 3, 1) := by decide +kernel
theorem dX4_value_137 : decode cX4_value 137 = .ok (.iload 8, 2) := by decide +kernel
theorem dX4_value_139 : decode cX4_value 139 = .ok (.invokestatic 179, 3) := by decide +kernel
theorem dX4_value_142 : decode cX4_value 142 = .ok (.lmul, 1) := by decide +kernel
theorem dX4_value_143 : decode cX4_value 143 = .ok (.iload 4, 2) := by decide +kernel
theorem dX4_value_145 : decode cX4_value 145 = .ok (.iload 9, 2) := by decide +kernel
theorem dX4_value_147 : decode cX4_value 147 = .ok (.invokestatic 179, 3) := by decide +kernel
theorem dX4_value_150 : decode cX4_value 150 = .ok (.lmul, 1) := by decide +kernel
theorem dX4_value_151 : decode cX4_value 151 = .ok (.ladd, 1) := by decide +kernel
theorem dX4_value_152 : decode cX4_value 152 = .ok (.lstore 5, 2) := by decide +kernel
theorem dX4_value_154 : decode cX4_value 154 = .ok (.iinc 9 1, 3) := by decide +kernel
theorem dX4_value_157 : decode cX4_value 157 = .ok (.goto (-79), 3) := by decide +kernel
theorem dX4_value_160 : decode cX4_value 160 = .ok (.iinc 8 1, 3) := by decide +kernel
theorem dX4_value_163 : decode cX4_value 163 = .ok (.goto (-98), 3) := by decide +kernel
theorem dX4_value_166 : decode cX4_value 166 = .ok (.iinc 7 1, 3) := by decide +kernel
theorem dX4_value_169 : decode cX4_value 169 = .ok (.goto (-114), 3) := by decide +kernel
theorem dX4_value_172 : decode cX4_value 172 = .ok (.lload 5, 2) := by decide +kernel
theorem dX4_value_174 : decode cX4_value 174 = .ok (.lreturn, 1) := by decide +kernel
theorem dX4_scalar_0 : decode cX4_scalar 0 = .ok (.iload_n 1, 1) := by decide +kernel
theorem dX4_scalar_1 : decode cX4_scalar 1 = .ok (.invokestatic 156, 3) := by decide +kernel
theorem dX4_scalar_4 : decode cX4_scalar 4 = .ok (.ifCond .eq 33, 3) := by decide +kernel
theorem dX4_scalar_7 : decode cX4_scalar 7 = .ok (.iload_n 2, 1) := by decide +kernel
theorem dX4_scalar_8 : decode cX4_scalar 8 = .ok (.invokestatic 156, 3) := by decide +kernel
theorem dX4_scalar_11 : decode cX4_scalar 11 = .ok (.ifCond .eq 26, 3) := by decide +kernel
theorem dX4_scalar_14 : decode cX4_scalar 14 = .ok (.aload_n 0, 1) := by decide +kernel
theorem dX4_scalar_15 : decode cX4_scalar 15 = .ok (.aload_n 0, 1) := by decide +kernel
theorem dX4_scalar_16 : decode cX4_scalar 16 = .ok (.getfield 23, 3) := by decide +kernel
theorem dX4_scalar_19 : decode cX4_scalar 19 = .ok (.bipush 30, 2) := by decide +kernel
theorem dX4_scalar_21 : decode cX4_scalar 21 = .ok (.iload_n 1, 1) := by decide +kernel
theorem dX4_scalar_22 : decode cX4_scalar 22 = .ok (.imul, 1) := by decide +kernel
theorem dX4_scalar_23 : decode cX4_scalar 23 = .ok (.aload_n 0, 1) := by decide +kernel
theorem dX4_scalar_24 : decode cX4_scalar 24 = .ok (.getfield 23, 3) := by decide +kernel
theorem dX4_scalar_27 : decode cX4_scalar 27 = .ok (.bipush 30, 2) := by decide +kernel
theorem dX4_scalar_29 : decode cX4_scalar 29 = .ok (.iload_n 2, 1) := by decide +kernel
theorem dX4_scalar_30 : decode cX4_scalar 30 = .ok (.imul, 1) := by decide +kernel
theorem dX4_scalar_31 : decode cX4_scalar 31 = .ok (.invokevirtual 148, 3) := by decide +kernel
theorem dX4_scalar_34 : decode cX4_scalar 34 = .ok (.goto 6, 3) := by decide +kernel
theorem dX4_scalar_37 : decode cX4_scalar 37 = .ok (.ldc2_w 171, 3) := by decide +kernel
theorem dX4_scalar_40 : decode cX4_scalar 40 = .ok (.lreturn, 1) := by decide +kernel
theorem dX4_times_0 : decode cX4_times 0 = .ok (.iload_n 1, 1) := by decide +kernel
theorem dX4_times_1 : decode cX4_times 1 = .ok (.invokestatic 156, 3) := by decide +kernel
theorem dX4_times_4 : decode cX4_times 4 = .ok (.ifCond .eq 17, 3) := by decide +kernel
theorem dX4_times_7 : decode cX4_times 7 = .ok (.iload_n 2, 1) := by decide +kernel
theorem dX4_times_8 : decode cX4_times 8 = .ok (.invokestatic 156, 3) := by decide +kernel
theorem dX4_times_11 : decode cX4_times 11 = .ok (.ifCond .eq 10, 3) := by decide +kernel
theorem dX4_times_14 : decode cX4_times 14 = .ok (.iload_n 3, 1) := by decide +kernel
theorem dX4_times_15 : decode cX4_times 15 = .ok (.invokestatic 156, 3) := by decide +kernel
theorem dX4_times_18 : decode cX4_times 18 = .ok (.ifCond .ne 5, 3) := by decide +kernel
theorem dX4_times_21 : decode cX4_times 21 = .ok (.iconst (-1), 1) := by decide +kernel
theorem dX4_times_22 : decode cX4_times 22 = .ok (.ireturn, 1) := by decide +kernel
theorem dX4_times_23 : decode cX4_times 23 = .ok (.aload_n 0, 1) := by decide +kernel
theorem dX4_times_24 : decode cX4_times 24 = .ok (.iload_n 2, 1) := by decide +kernel
theorem dX4_times_25 : decode cX4_times 25 = .ok (.invokevirtual 168, 3) := by decide +kernel
theorem dX4_times_28 : decode cX4_times 28 = .ok (.ifCond .lt 30, 3) := by decide +kernel
theorem dX4_times_31 : decode cX4_times 31 = .ok (.aload_n 0, 1) := by decide +kernel
theorem dX4_times_32 : decode cX4_times 32 = .ok (.iload_n 3, 1) := by decide +kernel
theorem dX4_times_33 : decode cX4_times 33 = .ok (.invokevirtual 168, 3) := by decide +kernel
theorem dX4_times_36 : decode cX4_times 36 = .ok (.ifCond .lt 22, 3) := by decide +kernel
theorem dX4_times_39 : decode cX4_times 39 = .ok (.aload_n 0, 1) := by decide +kernel
theorem dX4_times_40 : decode cX4_times 40 = .ok (.iload_n 2, 1) := by decide +kernel
theorem dX4_times_41 : decode cX4_times 41 = .ok (.invokevirtual 168, 3) := by decide +kernel
theorem dX4_times_44 : decode cX4_times 44 = .ok (.aload_n 0, 1) := by decide +kernel
theorem dX4_times_45 : decode cX4_times 45 = .ok (.iload_n 3, 1) := by decide +kernel
theorem dX4_times_46 : decode cX4_times 46 = .ok (.invokevirtual 168, 3) := by decide +kernel
theorem dX4_times_49 : decode cX4_times 49 = .ok (.iadd, 1) := by decide +kernel
theorem dX4_times_50 : decode cX4_times 50 = .ok (.bipush 6, 2) := by decide +kernel
theorem dX4_times_52 : decode cX4_times 52 = .ok (.if_icmp .le 6, 3) := by decide +kernel
theorem dX4_times_55 : decode cX4_times 55 = .ok (.bipush (-4), 2) := by decide +kernel
theorem dX4_times_57 : decode cX4_times 57 = .ok (.ireturn, 1) := by decide +kernel
theorem dX4_times_58 : decode cX4_times 58 = .ok (.aload_n 0, 1) := by decide +kernel
theorem dX4_times_59 : decode cX4_times 59 = .ok (.aload_n 0, 1) := by decide +kernel
theorem dX4_times_60 : decode cX4_times 60 = .ok (.getfield 23, 3) := by decide +kernel
theorem dX4_times_63 : decode cX4_times 63 = .ok (.bipush 30, 2) := by decide +kernel
theorem dX4_times_65 : decode cX4_times 65 = .ok (.iload_n 2, 1) := by decide +kernel
theorem dX4_times_66 : decode cX4_times 66 = .ok (.imul, 1) := by decide +kernel
theorem dX4_times_67 : decode cX4_times 67 = .ok (.aload_n 0, 1) := by decide +kernel
theorem dX4_times_68 : decode cX4_times 68 = .ok (.getfield 23, 3) := by decide +kernel
theorem dX4_times_71 : decode cX4_times 71 = .ok (.bipush 30, 2) := by decide +kernel
theorem dX4_times_73 : decode cX4_times 73 = .ok (.iload_n 3, 1) := by decide +kernel
theorem dX4_times_74 : decode cX4_times 74 = .ok (.imul, 1) := by decide +kernel
theorem dX4_times_75 : decode cX4_times 75 = .ok (.aload_n 0, 1) := by decide +kernel
theorem dX4_times_76 : decode cX4_times 76 = .ok (.getfield 44, 3) := by decide +kernel
theorem dX4_times_79 : decode cX4_times 79 = .ok (.iconst 0, 1) := by decide +kernel
theorem dX4_times_80 : decode cX4_times 80 = .ok (.invokevirtual 97, 3) := by decide +kernel
theorem dX4_times_83 : decode cX4_times 83 = .ok (.aload_n 0, 1) := by decide +kernel
theorem dX4_times_84 : decode cX4_times 84 = .ok (.iload_n 1, 1) := by decide +kernel
theorem dX4_times_85 : decode cX4_times 85 = .ok (.invokevirtual 165, 3) := by decide +kernel
theorem dX4_times_88 : decode cX4_times 88 = .ok (.ireturn, 1) := by decide +kernel
theorem dX4_turn_0 : decode cX4_turn 0 = .ok (.iload_n 1, 1) := by decide +kernel
theorem dX4_turn_1 : decode cX4_turn 1 = .ok (.invokestatic 156, 3) := by decide +kernel
theorem dX4_turn_4 : decode cX4_turn 4 = .ok (.ifCond .eq 10, 3) := by decide +kernel
theorem dX4_turn_7 : decode cX4_turn 7 = .ok (.iload_n 2, 1) := by decide +kernel
theorem dX4_turn_8 : decode cX4_turn 8 = .ok (.invokestatic 156, 3) := by decide +kernel
theorem dX4_turn_11 : decode cX4_turn 11 = .ok (.ifCond .ne 5, 3) := by decide +kernel
theorem dX4_turn_14 : decode cX4_turn 14 = .ok (.iconst (-1), 1) := by decide +kernel
theorem dX4_turn_15 : decode cX4_turn 15 = .ok (.ireturn, 1) := by decide +kernel
theorem dX4_turn_16 : decode cX4_turn 16 = .ok (.aload_n 0, 1) := by decide +kernel
theorem dX4_turn_17 : decode cX4_turn 17 = .ok (.aload_n 0, 1) := by decide +kernel
theorem dX4_turn_18 : decode cX4_turn 18 = .ok (.getfield 23, 3) := by decide +kernel
theorem dX4_turn_21 : decode cX4_turn 21 = .ok (.bipush 30, 2) := by decide +kernel
theorem dX4_turn_23 : decode cX4_turn 23 = .ok (.iload_n 2, 1) := by decide +kernel
theorem dX4_turn_24 : decode cX4_turn 24 = .ok (.imul, 1) := by decide +kernel
theorem dX4_turn_25 : decode cX4_turn 25 = .ok (.iconst 1, 1) := by decide +kernel
theorem dX4_turn_26 : decode cX4_turn 26 = .ok (.invokevirtual 144, 3) := by decide +kernel
theorem dX4_turn_29 : decode cX4_turn 29 = .ok (.aload_n 0, 1) := by decide +kernel
theorem dX4_turn_30 : decode cX4_turn 30 = .ok (.invokevirtual 159, 3) := by decide +kernel
theorem dX4_turn_33 : decode cX4_turn 33 = .ok (.iconst 0, 1) := by decide +kernel
theorem dX4_turn_34 : decode cX4_turn 34 = .ok (.istore_n 3, 1) := by decide +kernel
theorem dX4_turn_35 : decode cX4_turn 35 = .ok (.iload_n 3, 1) := by decide +kernel
theorem dX4_turn_36 : decode cX4_turn 36 = .ok (.bipush 30, 2) := by decide +kernel
theorem dX4_turn_38 : decode cX4_turn 38 = .ok (.if_icmp .ge 21, 3) := by decide +kernel
theorem dX4_turn_41 : decode cX4_turn 41 = .ok (.aload_n 0, 1) := by decide +kernel
theorem dX4_turn_42 : decode cX4_turn 42 = .ok (.iconst 2, 1) := by decide +kernel
theorem dX4_turn_43 : decode cX4_turn 43 = .ok (.iload_n 3, 1) := by decide +kernel
theorem dX4_turn_44 : decode cX4_turn 44 = .ok (.aload_n 0, 1) := by decide +kernel
theorem dX4_turn_45 : decode cX4_turn 45 = .ok (.getfield 38, 3) := by decide +kernel
theorem dX4_turn_48 : decode cX4_turn 48 = .ok (.iload_n 3, 1) := by decide +kernel
theorem dX4_turn_49 : decode cX4_turn 49 = .ok (.laload, 1) := by decide +kernel
theorem dX4_turn_50 : decode cX4_turn 50 = .ok (.invokevirtual 162, 3) := by decide +kernel
theorem dX4_turn_53 : decode cX4_turn 53 = .ok (.iinc 3 1, 3) := by decide +kernel
theorem dX4_turn_56 : decode cX4_turn 56 = .ok (.goto (-21), 3) := by decide +kernel
theorem dX4_turn_59 : decode cX4_turn 59 = .ok (.aload_n 0, 1) := by decide +kernel
theorem dX4_turn_60 : decode cX4_turn 60 = .ok (.iload_n 1, 1) := by decide +kernel
theorem dX4_turn_61 : decode cX4_turn 61 = .ok (.invokevirtual 165, 3) := by decide +kernel
theorem dX4_turn_64 : decode cX4_turn 64 = .ok (.ireturn, 1) := by decide +kernel
theorem dX4_strip_0 : decode cX4_strip 0 = .ok (.iload_n 1, 1) := by decide +kernel
theorem dX4_strip_1 : decode cX4_strip 1 = .ok (.invokestatic 156, 3) := by decide +kernel
theorem dX4_strip_4 : decode cX4_strip 4 = .ok (.ifCond .eq 17, 3) := by decide +kernel
theorem dX4_strip_7 : decode cX4_strip 7 = .ok (.iload_n 2, 1) := by decide +kernel
theorem dX4_strip_8 : decode cX4_strip 8 = .ok (.invokestatic 156, 3) := by decide +kernel
theorem dX4_strip_11 : decode cX4_strip 11 = .ok (.ifCond .eq 10, 3) := by decide +kernel
theorem dX4_strip_14 : decode cX4_strip 14 = .ok (.iload_n 3, 1) := by decide +kernel
theorem dX4_strip_15 : decode cX4_strip 15 = .ok (.invokestatic 156, 3) := by decide +kernel
theorem dX4_strip_18 : decode cX4_strip 18 = .ok (.ifCond .ne 5, 3) := by decide +kernel
theorem dX4_strip_21 : decode cX4_strip 21 = .ok (.iconst (-1), 1) := by decide +kernel
theorem dX4_strip_22 : decode cX4_strip 22 = .ok (.ireturn, 1) := by decide +kernel
theorem dX4_strip_23 : decode cX4_strip 23 = .ok (.aload_n 0, 1) := by decide +kernel
theorem dX4_strip_24 : decode cX4_strip 24 = .ok (.aload_n 0, 1) := by decide +kernel
theorem dX4_strip_25 : decode cX4_strip 25 = .ok (.getfield 23, 3) := by decide +kernel
theorem dX4_strip_28 : decode cX4_strip 28 = .ok (.bipush 30, 2) := by decide +kernel
theorem dX4_strip_30 : decode cX4_strip 30 = .ok (.iload_n 3, 1) := by decide +kernel
theorem dX4_strip_31 : decode cX4_strip 31 = .ok (.imul, 1) := by decide +kernel
theorem dX4_strip_32 : decode cX4_strip 32 = .ok (.iconst 2, 1) := by decide +kernel
theorem dX4_strip_33 : decode cX4_strip 33 = .ok (.invokevirtual 144, 3) := by decide +kernel
theorem dX4_strip_36 : decode cX4_strip 36 = .ok (.aload_n 0, 1) := by decide +kernel
theorem dX4_strip_37 : decode cX4_strip 37 = .ok (.invokevirtual 159, 3) := by decide +kernel
theorem dX4_strip_40 : decode cX4_strip 40 = .ok (.iconst 0, 1) := by decide +kernel
theorem dX4_strip_41 : decode cX4_strip 41 = .ok (.istore 4, 2) := by decide +kernel
theorem dX4_strip_43 : decode cX4_strip 43 = .ok (.iload 4, 2) := by decide +kernel
theorem dX4_strip_45 : decode cX4_strip 45 = .ok (.bipush 30, 2) := by decide +kernel
theorem dX4_strip_47 : decode cX4_strip 47 = .ok (.if_icmp .ge 85, 3) := by decide +kernel
theorem dX4_strip_50 : decode cX4_strip 50 = .ok (.aload_n 0, 1) := by decide +kernel
theorem dX4_strip_51 : decode cX4_strip 51 = .ok (.aload_n 0, 1) := by decide +kernel
theorem dX4_strip_52 : decode cX4_strip 52 = .ok (.getfield 23, 3) := by decide +kernel
theorem dX4_strip_55 : decode cX4_strip 55 = .ok (.bipush 30, 2) := by decide +kernel
theorem dX4_strip_57 : decode cX4_strip 57 = .ok (.iload_n 2, 1) := by decide +kernel
theorem dX4_strip_58 : decode cX4_strip 58 = .ok (.imul, 1) := by decide +kernel
theorem dX4_strip_59 : decode cX4_strip 59 = .ok (.aload_n 0, 1) := by decide +kernel
theorem dX4_strip_60 : decode cX4_strip 60 = .ok (.getfield 19, 3) := by decide +kernel
theorem dX4_strip_63 : decode cX4_strip 63 = .ok (.iconst 4, 1) := by decide +kernel
theorem dX4_strip_64 : decode cX4_strip 64 = .ok (.iload 4, 2) := by decide +kernel
theorem dX4_strip_66 : decode cX4_strip 66 = .ok (.iconst 0, 1) := by decide +kernel
theorem dX4_strip_67 : decode cX4_strip 67 = .ok (.invokestatic 75, 3) := by decide +kernel
theorem dX4_strip_70 : decode cX4_strip 70 = .ok (.aload_n 0, 1) := by decide +kernel
theorem dX4_strip_71 : decode cX4_strip 71 = .ok (.getfield 47, 3) := by decide +kernel
theorem dX4_strip_74 : decode cX4_strip 74 = .ok (.iconst 0, 1) := by decide +kernel
theorem dX4_strip_75 : decode cX4_strip 75 = .ok (.invokevirtual 97, 3) := by decide +kernel
theorem dX4_strip_78 : decode cX4_strip 78 = .ok (.lconst 0, 1) := by decide +kernel
theorem dX4_strip_79 : decode cX4_strip 79 = .ok (.lstore 5, 2) := by decide +kernel
theorem dX4_strip_81 : decode cX4_strip 81 = .ok (.iconst 0, 1) := by decide +kernel
theorem dX4_strip_82 : decode cX4_strip 82 = .ok (.istore 7, 2) := by decide +kernel
theorem dX4_strip_84 : decode cX4_strip 84 = .ok (.iload 7, 2) := by decide +kernel
theorem dX4_strip_86 : decode cX4_strip 86 = .ok (.bipush 30, 2) := by decide +kernel
theorem dX4_strip_88 : decode cX4_strip 88 = .ok (.if_icmp .ge 29, 3) := by decide +kernel
theorem dX4_strip_91 : decode cX4_strip 91 = .ok (.lload 5, 2) := by decide +kernel
theorem dX4_strip_93 : decode cX4_strip 93 = .ok (.aload_n 0, 1) := by decide +kernel
theorem dX4_strip_94 : decode cX4_strip 94 = .ok (.getfield 38, 3) := by decide +kernel
theorem dX4_strip_97 : decode cX4_strip 97 = .ok (.iload 7, 2) := by decide +kernel
theorem dX4_strip_99 : decode cX4_strip 99 = .ok (.laload, 1) := by decide +kernel
theorem dX4_strip_100 : decode cX4_strip 100 = .ok (.aload_n 0, 1) := by decide +kernel
theorem dX4_strip_101 : decode cX4_strip 101 = .ok (.getfield 47, 3) := by decide +kernel
theorem dX4_strip_104 : decode cX4_strip 104 = .ok (.iload 7, 2) := by decide +kernel
theorem dX4_strip_106 : decode cX4_strip 106 = .ok (.laload, 1) := by decide +kernel
theorem dX4_strip_107 : decode cX4_strip 107 = .ok (.lmul, 1) := by decide +kernel
theorem dX4_strip_108 : decode cX4_strip 108 = .ok (.ladd, 1) := by decide +kernel
theorem dX4_strip_109 : decode cX4_strip 109 = .ok (.lstore 5, 2) := by decide +kernel
theorem dX4_strip_111 : decode cX4_strip 111 = .ok (.iinc 7 1, 3) := by decide +kernel
theorem dX4_strip_114 : decode cX4_strip 114 = .ok (.goto (-30), 3) := by decide +kernel
theorem dX4_strip_117 : decode cX4_strip 117 = .ok (.aload_n 0, 1) := by decide +kernel
theorem dX4_strip_118 : decode cX4_strip 118 = .ok (.iconst 4, 1) := by decide +kernel
theorem dX4_strip_119 : decode cX4_strip 119 = .ok (.iload 4, 2) := by decide +kernel
theorem dX4_strip_121 : decode cX4_strip 121 = .ok (.lload 5, 2) := by decide +kernel
theorem dX4_strip_123 : decode cX4_strip 123 = .ok (.invokevirtual 162, 3) := by decide +kernel
theorem dX4_strip_126 : decode cX4_strip 126 = .ok (.iinc 4 1, 3) := by decide +kernel
theorem dX4_strip_129 : decode cX4_strip 129 = .ok (.goto (-86), 3) := by decide +kernel
theorem dX4_strip_132 : decode cX4_strip 132 = .ok (.aload_n 0, 1) := by decide +kernel
theorem dX4_strip_133 : decode cX4_strip 133 = .ok (.iload_n 1, 1) := by decide +kernel
theorem dX4_strip_134 : decode cX4_strip 134 = .ok (.invokevirtual 165, 3) := by decide +kernel
theorem dX4_strip_137 : decode cX4_strip 137 = .ok (.ireturn, 1) := by decide +kernel
theorem dX4_layMet_0 : decode cX4_layMet 0 = .ok (.aload_n 0, 1) := by decide +kernel
theorem dX4_layMet_1 : decode cX4_layMet 1 = .ok (.aload_n 0, 1) := by decide +kernel
theorem dX4_layMet_2 : decode cX4_layMet 2 = .ok (.getfield 23, 3) := by decide +kernel
theorem dX4_layMet_5 : decode cX4_layMet 5 = .ok (.bipush 30, 2) := by decide +kernel
theorem dX4_layMet_7 : decode cX4_layMet 7 = .ok (.iload_n 1, 1) := by decide +kernel
theorem dX4_layMet_8 : decode cX4_layMet 8 = .ok (.imul, 1) := by decide +kernel
theorem dX4_layMet_9 : decode cX4_layMet 9 = .ok (.iconst 3, 1) := by decide +kernel
theorem dX4_layMet_10 : decode cX4_layMet 10 = .ok (.invokevirtual 144, 3) := by decide +kernel
theorem dX4_layMet_13 : decode cX4_layMet 13 = .ok (.iconst 0, 1) := by decide +kernel
theorem dX4_layMet_14 : decode cX4_layMet 14 = .ok (.istore_n 2, 1) := by decide +kernel
theorem dX4_layMet_15 : decode cX4_layMet 15 = .ok (.iload_n 2, 1) := by decide +kernel
theorem dX4_layMet_16 : decode cX4_layMet 16 = .ok (.bipush 30, 2) := by decide +kernel
theorem dX4_layMet_18 : decode cX4_layMet 18 = .ok (.if_icmp .ge 32, 3) := by decide +kernel
theorem dX4_layMet_21 : decode cX4_layMet 21 = .ok (.aload_n 0, 1) := by decide +kernel
theorem dX4_layMet_22 : decode cX4_layMet 22 = .ok (.getfield 50, 3) := by decide +kernel
theorem dX4_layMet_25 : decode cX4_layMet 25 = .ok (.iload_n 2, 1) := by decide +kernel
theorem dX4_layMet_26 : decode cX4_layMet 26 = .ok (.aload_n 0, 1) := by decide +kernel
theorem dX4_layMet_27 : decode cX4_layMet 27 = .ok (.getfield 38, 3) := by decide +kernel
theorem dX4_layMet_30 : decode cX4_layMet 30 = .ok (.iload_n 2, 1) := by decide +kernel
theorem dX4_layMet_31 : decode cX4_layMet 31 = .ok (.laload, 1) := by decide +kernel
theorem dX4_layMet_32 : decode cX4_layMet 32 = .ok (.aload_n 0, 1) := by decide +kernel
theorem dX4_layMet_33 : decode cX4_layMet 33 = .ok (.iload_n 2, 1) := by decide +kernel
theorem dX4_layMet_34 : decode cX4_layMet 34 = .ok (.invokevirtual 129, 3) := by decide +kernel
theorem dX4_layMet_37 : decode cX4_layMet 37 = .ok (.i2l, 1) := by decide +kernel
theorem dX4_layMet_38 : decode cX4_layMet 38 = .ok (.lmul, 1) := by decide +kernel
theorem dX4_layMet_39 : decode cX4_layMet 39 = .ok (.ldc2_w 132, 3) := by decide +kernel
theorem dX4_layMet_42 : decode cX4_layMet 42 = .ok (.ldiv, 1) := by decide +kernel
theorem dX4_layMet_43 : decode cX4_layMet 43 = .ok (.lastore, 1) := by decide +kernel
theorem dX4_layMet_44 : decode cX4_layMet 44 = .ok (.iinc 2 1, 3) := by decide +kernel
theorem dX4_layMet_47 : decode cX4_layMet 47 = .ok (.goto (-32), 3) := by decide +kernel
theorem dX4_layMet_50 : decode cX4_layMet 50 = .ok (.return_, 1) := by decide +kernel
theorem dX4_meet_0 : decode cX4_meet 0 = .ok (.iload_n 1, 1) := by decide +kernel
theorem dX4_meet_1 : decode cX4_meet 1 = .ok (.invokestatic 156, 3) := by decide +kernel
theorem dX4_meet_4 : decode cX4_meet 4 = .ok (.ifCond .eq 17, 3) := by decide +kernel
theorem dX4_meet_7 : decode cX4_meet 7 = .ok (.iload_n 2, 1) := by decide +kernel
theorem dX4_meet_8 : decode cX4_meet 8 = .ok (.invokestatic 156, 3) := by decide +kernel
theorem dX4_meet_11 : decode cX4_meet 11 = .ok (.ifCond .eq 10, 3) := by decide +kernel
theorem dX4_meet_14 : decode cX4_meet 14 = .ok (.iload_n 3, 1) := by decide +kernel
theorem dX4_meet_15 : decode cX4_meet 15 = .ok (.invokestatic 156, 3) := by decide +kernel
theorem dX4_meet_18 : decode cX4_meet 18 = .ok (.ifCond .ne 5, 3) := by decide +kernel
theorem dX4_meet_21 : decode cX4_meet 21 = .ok (.iconst (-1), 1) := by decide +kernel
theorem dX4_meet_22 : decode cX4_meet 22 = .ok (.ireturn, 1) := by decide +kernel
theorem dX4_meet_23 : decode cX4_meet 23 = .ok (.aload_n 0, 1) := by decide +kernel
theorem dX4_meet_24 : decode cX4_meet 24 = .ok (.iload_n 2, 1) := by decide +kernel
theorem dX4_meet_25 : decode cX4_meet 25 = .ok (.invokevirtual 183, 3) := by decide +kernel
theorem dX4_meet_28 : decode cX4_meet 28 = .ok (.iconst 0, 1) := by decide +kernel
theorem dX4_meet_29 : decode cX4_meet 29 = .ok (.istore 4, 2) := by decide +kernel
theorem dX4_meet_31 : decode cX4_meet 31 = .ok (.iload 4, 2) := by decide +kernel
theorem dX4_meet_33 : decode cX4_meet 33 = .ok (.bipush 30, 2) := by decide +kernel
theorem dX4_meet_35 : decode cX4_meet 35 = .ok (.if_icmp .ge 23, 3) := by decide +kernel
theorem dX4_meet_38 : decode cX4_meet 38 = .ok (.aload_n 0, 1) := by decide +kernel
theorem dX4_meet_39 : decode cX4_meet 39 = .ok (.getfield 47, 3) := by decide +kernel
theorem dX4_meet_42 : decode cX4_meet 42 = .ok (.iload 4, 2) := by decide +kernel
theorem dX4_meet_44 : decode cX4_meet 44 = .ok (.aload_n 0, 1) := by decide +kernel
theorem dX4_meet_45 : decode cX4_meet 45 = .ok (.getfield 50, 3) := by decide +kernel
theorem dX4_meet_48 : decode cX4_meet 48 = .ok (.iload 4, 2) := by decide +kernel
theorem dX4_meet_50 : decode cX4_meet 50 = .ok (.laload, 1) := by decide +kernel
theorem dX4_meet_51 : decode cX4_meet 51 = .ok (.lastore, 1) := by decide +kernel
theorem dX4_meet_52 : decode cX4_meet 52 = .ok (.iinc 4 1, 3) := by decide +kernel
theorem dX4_meet_55 : decode cX4_meet 55 = .ok (.goto (-24), 3) := by decide +kernel
theorem dX4_meet_58 : decode cX4_meet 58 = .ok (.aload_n 0, 1) := by decide +kernel
theorem dX4_meet_59 : decode cX4_meet 59 = .ok (.iload_n 3, 1) := by decide +kernel
theorem dX4_meet_60 : decode cX4_meet 60 = .ok (.invokevirtual 183, 3) := by decide +kernel
theorem dX4_meet_63 : decode cX4_meet 63 = .ok (.aload_n 0, 1) := by decide +kernel
theorem dX4_meet_64 : decode cX4_meet 64 = .ok (.invokevirtual 159, 3) := by decide +kernel
theorem dX4_meet_67 : decode cX4_meet 67 = .ok (.iconst 0, 1) := by decide +kernel
theorem dX4_meet_68 : decode cX4_meet 68 = .ok (.istore 4, 2) := by decide +kernel
theorem dX4_meet_70 : decode cX4_meet 70 = .ok (.iload 4, 2) := by decide +kernel
theorem dX4_meet_72 : decode cX4_meet 72 = .ok (.bipush 30, 2) := by decide +kernel
theorem dX4_meet_74 : decode cX4_meet 74 = .ok (.if_icmp .ge 43, 3) := by decide +kernel
theorem dX4_meet_77 : decode cX4_meet 77 = .ok (.aload_n 0, 1) := by decide +kernel
theorem dX4_meet_78 : decode cX4_meet 78 = .ok (.iconst 3, 1) := by decide +kernel
theorem dX4_meet_79 : decode cX4_meet 79 = .ok (.iload 4, 2) := by decide +kernel
theorem dX4_meet_81 : decode cX4_meet 81 = .ok (.aload_n 0, 1) := by decide +kernel
theorem dX4_meet_82 : decode cX4_meet 82 = .ok (.getfield 47, 3) := by decide +kernel
theorem dX4_meet_85 : decode cX4_meet 85 = .ok (.iload 4, 2) := by decide +kernel
theorem dX4_meet_87 : decode cX4_meet 87 = .ok (.laload, 1) := by decide +kernel
theorem dX4_meet_88 : decode cX4_meet 88 = .ok (.aload_n 0, 1) := by decide +kernel
theorem dX4_meet_89 : decode cX4_meet 89 = .ok (.getfield 50, 3) := by decide +kernel
theorem dX4_meet_92 : decode cX4_meet 92 = .ok (.iload 4, 2) := by decide +kernel
theorem dX4_meet_94 : decode cX4_meet 94 = .ok (.laload, 1) := by decide +kernel
theorem dX4_meet_95 : decode cX4_meet 95 = .ok (.lmul, 1) := by decide +kernel
theorem dX4_meet_96 : decode cX4_meet 96 = .ok (.sipush 720, 3) := by decide +kernel
theorem dX4_meet_99 : decode cX4_meet 99 = .ok (.aload_n 0, 1) := by decide +kernel
theorem dX4_meet_100 : decode cX4_meet 100 = .ok (.iload 4, 2) := by decide +kernel
theorem dX4_meet_102 : decode cX4_meet 102 = .ok (.invokevirtual 129, 3) := by decide +kernel
theorem dX4_meet_105 : decode cX4_meet 105 = .ok (.idiv, 1) := by decide +kernel
theorem dX4_meet_106 : decode cX4_meet 106 = .ok (.i2l, 1) := by decide +kernel
theorem dX4_meet_107 : decode cX4_meet 107 = .ok (.lmul, 1) := by decide +kernel
theorem dX4_meet_108 : decode cX4_meet 108 = .ok (.invokevirtual 162, 3) := by decide +kernel
theorem dX4_meet_111 : decode cX4_meet 111 = .ok (.iinc 4 1, 3) := by decide +kernel
theorem dX4_meet_114 : decode cX4_meet 114 = .ok (.goto (-44), 3) := by decide +kernel
theorem dX4_meet_117 : decode cX4_meet 117 = .ok (.iconst 0, 1) := by decide +kernel
theorem dX4_meet_118 : decode cX4_meet 118 = .ok (.istore 4, 2) := by decide +kernel
theorem dX4_meet_120 : decode cX4_meet 120 = .ok (.iload 4, 2) := by decide +kernel
theorem dX4_meet_122 : decode cX4_meet 122 = .ok (.bipush 30, 2) := by decide +kernel
theorem dX4_meet_124 : decode cX4_meet 124 = .ok (.if_icmp .ge 22, 3) := by decide +kernel
theorem dX4_meet_127 : decode cX4_meet 127 = .ok (.aload_n 0, 1) := by decide +kernel
theorem dX4_meet_128 : decode cX4_meet 128 = .ok (.getfield 44, 3) := by decide +kernel
theorem dX4_meet_131 : decode cX4_meet 131 = .ok (.iload 4, 2) := by decide +kernel
theorem dX4_meet_133 : decode cX4_meet 133 = .ok (.dup2, 1) := by decide +kernel
theorem dX4_meet_134 : decode cX4_meet 134 = .ok (.laload, 1) := by decide +kernel
theorem dX4_meet_135 : decode cX4_meet 135 = .ok (.ldc2_w 132, 3) := by decide +kernel
theorem dX4_meet_138 : decode cX4_meet 138 = .ok (.ldiv, 1) := by decide +kernel
theorem dX4_meet_139 : decode cX4_meet 139 = .ok (.lastore, 1) := by decide +kernel
theorem dX4_meet_140 : decode cX4_meet 140 = .ok (.iinc 4 1, 3) := by decide +kernel
theorem dX4_meet_143 : decode cX4_meet 143 = .ok (.goto (-23), 3) := by decide +kernel
theorem dX4_meet_146 : decode cX4_meet 146 = .ok (.aload_n 0, 1) := by decide +kernel
theorem dX4_meet_147 : decode cX4_meet 147 = .ok (.iload_n 1, 1) := by decide +kernel
theorem dX4_meet_148 : decode cX4_meet 148 = .ok (.invokevirtual 165, 3) := by decide +kernel
theorem dX4_meet_151 : decode cX4_meet 151 = .ok (.ireturn, 1) := by decide +kernel
theorem dX4_layPower_0 : decode cX4_layPower 0 = .ok (.iconst 0, 1) := by decide +kernel
theorem dX4_layPower_1 : decode cX4_layPower 1 = .ok (.istore_n 3, 1) := by decide +kernel
theorem dX4_layPower_2 : decode cX4_layPower 2 = .ok (.iload_n 3, 1) := by decide +kernel
theorem dX4_layPower_3 : decode cX4_layPower 3 = .ok (.bipush 30, 2) := by decide +kernel
theorem dX4_layPower_5 : decode cX4_layPower 5 = .ok (.if_icmp .ge 16, 3) := by decide +kernel
theorem dX4_layPower_8 : decode cX4_layPower 8 = .ok (.aload_n 0, 1) := by decide +kernel
theorem dX4_layPower_9 : decode cX4_layPower 9 = .ok (.getfield 53, 3) := by decide +kernel
theorem dX4_layPower_12 : decode cX4_layPower 12 = .ok (.iload_n 3, 1) := by decide +kernel
theorem dX4_layPower_13 : decode cX4_layPower 13 = .ok (.lconst 0, 1) := by decide +kernel
theorem dX4_layPower_14 : decode cX4_layPower 14 = .ok (.lastore, 1) := by decide +kernel
theorem dX4_layPower_15 : decode cX4_layPower 15 = .ok (.iinc 3 1, 3) := by decide +kernel
theorem dX4_layPower_18 : decode cX4_layPower 18 = .ok (.goto (-16), 3) := by decide +kernel
theorem dX4_layPower_21 : decode cX4_layPower 21 = .ok (.iconst 0, 1) := by decide +kernel
theorem dX4_layPower_22 : decode cX4_layPower 22 = .ok (.istore_n 3, 1) := by decide +kernel
theorem dX4_layPower_23 : decode cX4_layPower 23 = .ok (.iload_n 3, 1) := by decide +kernel
theorem dX4_layPower_24 : decode cX4_layPower 24 = .ok (.bipush 30, 2) := by decide +kernel
theorem dX4_layPower_26 : decode cX4_layPower 26 = .ok (.if_icmp .ge 81, 3) := by decide +kernel
theorem dX4_layPower_29 : decode cX4_layPower 29 = .ok (.aload_n 0, 1) := by decide +kernel
theorem dX4_layPower_30 : decode cX4_layPower 30 = .ok (.getfield 13, 3) := by decide +kernel
theorem dX4_layPower_33 : decode cX4_layPower 33 = .ok (.iload_n 3, 1) := by decide +kernel
theorem dX4_layPower_34 : decode cX4_layPower 34 = .ok (.iaload, 1) := by decide +kernel
theorem dX4_layPower_35 : decode cX4_layPower 35 = .ok (.iload_n 2, 1) := by decide +kernel
theorem dX4_layPower_36 : decode cX4_layPower 36 = .ok (.imul, 1) := by decide +kernel
theorem dX4_layPower_37 : decode cX4_layPower 37 = .ok (.bipush 6, 2) := by decide +kernel
theorem dX4_layPower_39 : decode cX4_layPower 39 = .ok (.if_icmp .gt 62, 3) := by decide +kernel
theorem dX4_layPower_42 : decode cX4_layPower 42 = .ok (.iconst 0, 1) := by decide +kernel
theorem dX4_layPower_43 : decode cX4_layPower 43 = .ok (.istore 4, 2) := by decide +kernel
theorem dX4_layPower_45 : decode cX4_layPower 45 = .ok (.iconst 0, 1) := by decide +kernel
theorem dX4_layPower_46 : decode cX4_layPower 46 = .ok (.istore 5, 2) := by decide +kernel
theorem dX4_layPower_48 : decode cX4_layPower 48 = .ok (.iload 5, 2) := by decide +kernel
theorem dX4_layPower_50 : decode cX4_layPower 50 = .ok (.bipush 6, 2) := by decide +kernel
theorem dX4_layPower_52 : decode cX4_layPower 52 = .ok (.if_icmp .ge 26, 3) := by decide +kernel
theorem dX4_layPower_55 : decode cX4_layPower 55 = .ok (.iload 4, 2) := by decide +kernel
theorem dX4_layPower_57 : decode cX4_layPower 57 = .ok (.iload_n 2, 1) := by decide +kernel
theorem dX4_layPower_58 : decode cX4_layPower 58 = .ok (.aload_n 0, 1) := by decide +kernel
theorem dX4_layPower_59 : decode cX4_layPower 59 = .ok (.iload_n 3, 1) := by decide +kernel
theorem dX4_layPower_60 : decode cX4_layPower 60 = .ok (.iload 5, 2) := by decide +kernel
theorem dX4_layPower_62 : decode cX4_layPower 62 = .ok (.invokevirtual 91, 3) := by decide +kernel
theorem dX4_layPower_65 : decode cX4_layPower 65 = .ok (.imul, 1) := by decide +kernel
theorem dX4_layPower_66 : decode cX4_layPower 66 = .ok (.invokestatic 87, 3) := by decide +kernel
theorem dX4_layPower_69 : decode cX4_layPower 69 = .ok (.iadd, 1) := by decide +kernel
theorem dX4_layPower_70 : decode cX4_layPower 70 = .ok (.istore 4, 2) := by decide +kernel
theorem dX4_layPower_72 : decode cX4_layPower 72 = .ok (.iinc 5 1, 3) := by decide +kernel
theorem dX4_layPower_75 : decode cX4_layPower 75 = .ok (.goto (-27), 3) := by decide +kernel
theorem dX4_layPower_78 : decode cX4_layPower 78 = .ok (.aload_n 0, 1) := by decide +kernel
theorem dX4_layPower_79 : decode cX4_layPower 79 = .ok (.getfield 53, 3) := by decide +kernel
theorem dX4_layPower_82 : decode cX4_layPower 82 = .ok (.aload_n 0, 1) := by decide +kernel
theorem dX4_layPower_83 : decode cX4_layPower 83 = .ok (.getfield 16, 3) := by decide +kernel
theorem dX4_layPower_86 : decode cX4_layPower 86 = .ok (.iload 4, 2) := by decide +kernel
theorem dX4_layPower_88 : decode cX4_layPower 88 = .ok (.iaload, 1) := by decide +kernel
theorem dX4_layPower_89 : decode cX4_layPower 89 = .ok (.aload_n 0, 1) := by decide +kernel
theorem dX4_layPower_90 : decode cX4_layPower 90 = .ok (.getfield 23, 3) := by decide +kernel
theorem dX4_layPower_93 : decode cX4_layPower 93 = .ok (.bipush 30, 2) := by decide +kernel
theorem dX4_layPower_95 : decode cX4_layPower 95 = .ok (.iload_n 1, 1) := by decide +kernel
theorem dX4_layPower_96 : decode cX4_layPower 96 = .ok (.imul, 1) := by decide +kernel
theorem dX4_layPower_97 : decode cX4_layPower 97 = .ok (.iload_n 3, 1) := by decide +kernel
theorem dX4_layPower_98 : decode cX4_layPower 98 = .ok (.iadd, 1) := by decide +kernel
theorem dX4_layPower_99 : decode cX4_layPower 99 = .ok (.laload, 1) := by decide +kernel
theorem dX4_layPower_100 : decode cX4_layPower 100 = .ok (.lastore, 1) := by decide +kernel
theorem dX4_layPower_101 : decode cX4_layPower 101 = .ok (.iinc 3 1, 3) := by decide +kernel
theorem dX4_layPower_104 : decode cX4_layPower 104 = .ok (.goto (-81), 3) := by decide +kernel
theorem dX4_layPower_107 : decode cX4_layPower 107 = .ok (.return_, 1) := by decide +kernel
theorem dX4_layPlugged_0 : decode cX4_layPlugged 0 = .ok (.iconst 0, 1) := by decide +kernel
theorem dX4_layPlugged_1 : decode cX4_layPlugged 1 = .ok (.istore_n 3, 1) := by decide +kernel
theorem dX4_layPlugged_2 : decode cX4_layPlugged 2 = .ok (.iload_n 3, 1) := by decide +kernel
theorem dX4_layPlugged_3 : decode cX4_layPlugged 3 = .ok (.bipush 30, 2) := by decide +kernel
theorem dX4_layPlugged_5 : decode cX4_layPlugged 5 = .ok (.if_icmp .ge 24, 3) := by decide +kernel
theorem dX4_layPlugged_8 : decode cX4_layPlugged 8 = .ok (.aload_n 0, 1) := by decide +kernel
theorem dX4_layPlugged_9 : decode cX4_layPlugged 9 = .ok (.getfield 56, 3) := by decide +kernel
theorem dX4_layPlugged_12 : decode cX4_layPlugged 12 = .ok (.iload_n 3, 1) := by decide +kernel
theorem dX4_layPlugged_13 : decode cX4_layPlugged 13 = .ok (.iload_n 3, 1) := by decide +kernel
theorem dX4_layPlugged_14 : decode cX4_layPlugged 14 = .ok (.ifCond .ne 7, 3) := by decide +kernel
theorem dX4_layPlugged_17 : decode cX4_layPlugged 17 = .ok (.lconst 1, 1) := by decide +kernel
theorem dX4_layPlugged_18 : decode cX4_layPlugged 18 = .ok (.goto 4, 3) := by decide +kernel
theorem dX4_layPlugged_21 : decode cX4_layPlugged 21 = .ok (.lconst 0, 1) := by decide +kernel
theorem dX4_layPlugged_22 : decode cX4_layPlugged 22 = .ok (.lastore, 1) := by decide +kernel
theorem dX4_layPlugged_23 : decode cX4_layPlugged 23 = .ok (.iinc 3 1, 3) := by decide +kernel
theorem dX4_layPlugged_26 : decode cX4_layPlugged 26 = .ok (.goto (-24), 3) := by decide +kernel
theorem dX4_layPlugged_29 : decode cX4_layPlugged 29 = .ok (.iconst 0, 1) := by decide +kernel
theorem dX4_layPlugged_30 : decode cX4_layPlugged 30 = .ok (.istore_n 3, 1) := by decide +kernel
theorem dX4_layPlugged_31 : decode cX4_layPlugged 31 = .ok (.iload_n 3, 1) := by decide +kernel
theorem dX4_layPlugged_32 : decode cX4_layPlugged 32 = .ok (.aload_n 0, 1) := by decide +kernel
theorem dX4_layPlugged_33 : decode cX4_layPlugged 33 = .ok (.iload_n 1, 1) := by decide +kernel
theorem dX4_layPlugged_34 : decode cX4_layPlugged 34 = .ok (.invokevirtual 94, 3) := by decide +kernel
theorem dX4_layPlugged_37 : decode cX4_layPlugged 37 = .ok (.if_icmp .ge 69, 3) := by decide +kernel
theorem dX4_layPlugged_40 : decode cX4_layPlugged 40 = .ok (.aload_n 0, 1) := by decide +kernel
theorem dX4_layPlugged_41 : decode cX4_layPlugged 41 = .ok (.iload_n 2, 1) := by decide +kernel
theorem dX4_layPlugged_42 : decode cX4_layPlugged 42 = .ok (.aload_n 0, 1) := by decide +kernel
theorem dX4_layPlugged_43 : decode cX4_layPlugged 43 = .ok (.iload_n 1, 1) := by decide +kernel
theorem dX4_layPlugged_44 : decode cX4_layPlugged 44 = .ok (.iload_n 3, 1) := by decide +kernel
theorem dX4_layPlugged_45 : decode cX4_layPlugged 45 = .ok (.invokevirtual 91, 3) := by decide +kernel
theorem dX4_layPlugged_48 : decode cX4_layPlugged 48 = .ok (.invokevirtual 187, 3) := by decide +kernel
theorem dX4_layPlugged_51 : decode cX4_layPlugged 51 = .ok (.aload_n 0, 1) := by decide +kernel
theorem dX4_layPlugged_52 : decode cX4_layPlugged 52 = .ok (.aload_n 0, 1) := by decide +kernel
theorem dX4_layPlugged_53 : decode cX4_layPlugged 53 = .ok (.getfield 56, 3) := by decide +kernel
theorem dX4_layPlugged_56 : decode cX4_layPlugged 56 = .ok (.iconst 0, 1) := by decide +kernel
theorem dX4_layPlugged_57 : decode cX4_layPlugged 57 = .ok (.aload_n 0, 1) := by decide +kernel
theorem dX4_layPlugged_58 : decode cX4_layPlugged 58 = .ok (.getfield 53, 3) := by decide +kernel
theorem dX4_layPlugged_61 : decode cX4_layPlugged 61 = .ok (.iconst 0, 1) := by decide +kernel
theorem dX4_layPlugged_62 : decode cX4_layPlugged 62 = .ok (.aload_n 0, 1) := by decide +kernel
theorem dX4_layPlugged_63 : decode cX4_layPlugged 63 = .ok (.getfield 47, 3) := by decide +kernel
theorem dX4_layPlugged_66 : decode cX4_layPlugged 66 = .ok (.iconst 0, 1) := by decide +kernel
theorem dX4_layPlugged_67 : decode cX4_layPlugged 67 = .ok (.invokevirtual 97, 3) := by decide +kernel
theorem dX4_layPlugged_70 : decode cX4_layPlugged 70 = .ok (.iconst 0, 1) := by decide +kernel
theorem dX4_layPlugged_71 : decode cX4_layPlugged 71 = .ok (.istore 4, 2) := by decide +kernel
theorem dX4_layPlugged_73 : decode cX4_layPlugged 73 = .ok (.iload 4, 2) := by decide +kernel
theorem dX4_layPlugged_75 : decode cX4_layPlugged 75 = .ok (.bipush 30, 2) := by decide +kernel
theorem dX4_layPlugged_77 : decode cX4_layPlugged 77 = .ok (.if_icmp .ge 23, 3) := by decide +kernel
theorem dX4_layPlugged_80 : decode cX4_layPlugged 80 = .ok (.aload_n 0, 1) := by decide +kernel
theorem dX4_layPlugged_81 : decode cX4_layPlugged 81 = .ok (.getfield 56, 3) := by decide +kernel
theorem dX4_layPlugged_84 : decode cX4_layPlugged 84 = .ok (.iload 4, 2) := by decide +kernel
theorem dX4_layPlugged_86 : decode cX4_layPlugged 86 = .ok (.aload_n 0, 1) := by decide +kernel
theorem dX4_layPlugged_87 : decode cX4_layPlugged 87 = .ok (.getfield 47, 3) := by decide +kernel
theorem dX4_layPlugged_90 : decode cX4_layPlugged 90 = .ok (.iload 4, 2) := by decide +kernel
theorem dX4_layPlugged_92 : decode cX4_layPlugged 92 = .ok (.laload, 1) := by decide +kernel
theorem dX4_layPlugged_93 : decode cX4_layPlugged 93 = .ok (.lastore, 1) := by decide +kernel
theorem dX4_layPlugged_94 : decode cX4_layPlugged 94 = .ok (.iinc 4 1, 3) := by decide +kernel
theorem dX4_layPlugged_97 : decode cX4_layPlugged 97 = .ok (.goto (-24), 3) := by decide +kernel
theorem dX4_layPlugged_100 : decode cX4_layPlugged 100 = .ok (.iinc 3 1, 3) := by decide +kernel
theorem dX4_layPlugged_103 : decode cX4_layPlugged 103 = .ok (.goto (-72), 3) := by decide +kernel
theorem dX4_layPlugged_106 : decode cX4_layPlugged 106 = .ok (.return_, 1) := by decide +kernel
theorem dX4_isWithin_0 : decode cX4_isWithin 0 = .ok (.iconst 1, 1) := by decide +kernel
theorem dX4_isWithin_1 : decode cX4_isWithin 1 = .ok (.istore_n 3, 1) := by decide +kernel
theorem dX4_isWithin_2 : decode cX4_isWithin 2 = .ok (.iconst 0, 1) := by decide +kernel
theorem dX4_isWithin_3 : decode cX4_isWithin 3 = .ok (.istore 4, 2) := by decide +kernel
theorem dX4_isWithin_5 : decode cX4_isWithin 5 = .ok (.iload 4, 2) := by decide +kernel
theorem dX4_isWithin_7 : decode cX4_isWithin 7 = .ok (.bipush 30, 2) := by decide +kernel
theorem dX4_isWithin_9 : decode cX4_isWithin 9 = .ok (.if_icmp .ge 50, 3) := by decide +kernel
theorem dX4_isWithin_12 : decode cX4_isWithin 12 = .ok (.aload_n 0, 1) := by decide +kernel
theorem dX4_isWithin_13 : decode cX4_isWithin 13 = .ok (.getfield 23, 3) := by decide +kernel
theorem dX4_isWithin_16 : decode cX4_isWithin 16 = .ok (.bipush 30, 2) := by decide +kernel
theorem dX4_isWithin_18 : decode cX4_isWithin 18 = .ok (.iload_n 1, 1) := by decide +kernel
theorem dX4_isWithin_19 : decode cX4_isWithin 19 = .ok (.imul, 1) := by decide +kernel
theorem dX4_isWithin_20 : decode cX4_isWithin 20 = .ok (.iload 4, 2) := by decide +kernel
theorem dX4_isWithin_22 : decode cX4_isWithin 22 = .ok (.iadd, 1) := by decide +kernel
theorem dX4_isWithin_23 : decode cX4_isWithin 23 = .ok (.laload, 1) := by decide +kernel
theorem dX4_isWithin_24 : decode cX4_isWithin 24 = .ok (.lstore 5, 2) := by decide +kernel
theorem dX4_isWithin_26 : decode cX4_isWithin 26 = .ok (.iload_n 3, 1) := by decide +kernel
theorem dX4_isWithin_27 : decode cX4_isWithin 27 = .ok (.ifCond .eq 24, 3) := by decide +kernel
theorem dX4_isWithin_30 : decode cX4_isWithin 30 = .ok (.lload 5, 2) := by decide +kernel
theorem dX4_isWithin_32 : decode cX4_isWithin 32 = .ok (.iload_n 2, 1) := by decide +kernel
theorem dX4_isWithin_33 : decode cX4_isWithin 33 = .ok (.i2l, 1) := by decide +kernel
theorem dX4_isWithin_34 : decode cX4_isWithin 34 = .ok (.lcmp, 1) := by decide +kernel
theorem dX4_isWithin_35 : decode cX4_isWithin 35 = .ok (.ifCond .gt 16, 3) := by decide +kernel
theorem dX4_isWithin_38 : decode cX4_isWithin 38 = .ok (.lload 5, 2) := by decide +kernel
theorem dX4_isWithin_40 : decode cX4_isWithin 40 = .ok (.iload_n 2, 1) := by decide +kernel
theorem dX4_isWithin_41 : decode cX4_isWithin 41 = .ok (.ineg, 1) := by decide +kernel
theorem dX4_isWithin_42 : decode cX4_isWithin 42 = .ok (.i2l, 1) := by decide +kernel
theorem dX4_isWithin_43 : decode cX4_isWithin 43 = .ok (.lcmp, 1) := by decide +kernel
theorem dX4_isWithin_44 : decode cX4_isWithin 44 = .ok (.ifCond .lt 7, 3) := by decide +kernel
theorem dX4_isWithin_47 : decode cX4_isWithin 47 = .ok (.iconst 1, 1) := by decide +kernel
theorem dX4_isWithin_48 : decode cX4_isWithin 48 = .ok (.goto 4, 3) := by decide +kernel
theorem dX4_isWithin_51 : decode cX4_isWithin 51 = .ok (.iconst 0, 1) := by decide +kernel
theorem dX4_isWithin_52 : decode cX4_isWithin 52 = .ok (.istore_n 3, 1) := by decide +kernel
theorem dX4_isWithin_53 : decode cX4_isWithin 53 = .ok (.iinc 4 1, 3) := by decide +kernel
theorem dX4_isWithin_56 : decode cX4_isWithin 56 = .ok (.goto (-51), 3) := by decide +kernel
theorem dX4_isWithin_59 : decode cX4_isWithin 59 = .ok (.iload_n 3, 1) := by decide +kernel
theorem dX4_isWithin_60 : decode cX4_isWithin 60 = .ok (.ireturn, 1) := by decide +kernel
theorem dX4_plug_0 : decode cX4_plug 0 = .ok (.iload_n 1, 1) := by decide +kernel
theorem dX4_plug_1 : decode cX4_plug 1 = .ok (.invokestatic 156, 3) := by decide +kernel
theorem dX4_plug_4 : decode cX4_plug 4 = .ok (.ifCond .eq 17, 3) := by decide +kernel
theorem dX4_plug_7 : decode cX4_plug 7 = .ok (.iload_n 2, 1) := by decide +kernel
theorem dX4_plug_8 : decode cX4_plug 8 = .ok (.invokestatic 156, 3) := by decide +kernel
theorem dX4_plug_11 : decode cX4_plug 11 = .ok (.ifCond .eq 10, 3) := by decide +kernel
theorem dX4_plug_14 : decode cX4_plug 14 = .ok (.iload_n 3, 1) := by decide +kernel
theorem dX4_plug_15 : decode cX4_plug 15 = .ok (.invokestatic 156, 3) := by decide +kernel
theorem dX4_plug_18 : decode cX4_plug 18 = .ok (.ifCond .ne 5, 3) := by decide +kernel
theorem dX4_plug_21 : decode cX4_plug 21 = .ok (.iconst (-1), 1) := by decide +kernel
theorem dX4_plug_22 : decode cX4_plug 22 = .ok (.ireturn, 1) := by decide +kernel
theorem dX4_plug_23 : decode cX4_plug 23 = .ok (.aload_n 0, 1) := by decide +kernel
theorem dX4_plug_24 : decode cX4_plug 24 = .ok (.iload_n 2, 1) := by decide +kernel
theorem dX4_plug_25 : decode cX4_plug 25 = .ok (.sipush 1000, 3) := by decide +kernel
theorem dX4_plug_28 : decode cX4_plug 28 = .ok (.invokevirtual 190, 3) := by decide +kernel
theorem dX4_plug_31 : decode cX4_plug 31 = .ok (.ifCond .eq 13, 3) := by decide +kernel
theorem dX4_plug_34 : decode cX4_plug 34 = .ok (.aload_n 0, 1) := by decide +kernel
theorem dX4_plug_35 : decode cX4_plug 35 = .ok (.iload_n 3, 1) := by decide +kernel
theorem dX4_plug_36 : decode cX4_plug 36 = .ok (.bipush 9, 2) := by decide +kernel
theorem dX4_plug_38 : decode cX4_plug 38 = .ok (.invokevirtual 190, 3) := by decide +kernel
theorem dX4_plug_41 : decode cX4_plug 41 = .ok (.ifCond .ne 6, 3) := by decide +kernel
theorem dX4_plug_44 : decode cX4_plug 44 = .ok (.bipush (-3), 2) := by decide +kernel
theorem dX4_plug_46 : decode cX4_plug 46 = .ok (.ireturn, 1) := by decide +kernel
theorem dX4_plug_47 : decode cX4_plug 47 = .ok (.aload_n 0, 1) := by decide +kernel
theorem dX4_plug_48 : decode cX4_plug 48 = .ok (.iload_n 2, 1) := by decide +kernel
theorem dX4_plug_49 : decode cX4_plug 49 = .ok (.invokevirtual 168, 3) := by decide +kernel
theorem dX4_plug_52 : decode cX4_plug 52 = .ok (.ifCond .le 30, 3) := by decide +kernel
theorem dX4_plug_55 : decode cX4_plug 55 = .ok (.aload_n 0, 1) := by decide +kernel
theorem dX4_plug_56 : decode cX4_plug 56 = .ok (.iload_n 3, 1) := by decide +kernel
theorem dX4_plug_57 : decode cX4_plug 57 = .ok (.invokevirtual 168, 3) := by decide +kernel
theorem dX4_plug_60 : decode cX4_plug 60 = .ok (.ifCond .le 22, 3) := by decide +kernel
theorem dX4_plug_63 : decode cX4_plug 63 = .ok (.aload_n 0, 1) := by decide +kernel
theorem dX4_plug_64 : decode cX4_plug 64 = .ok (.iload_n 2, 1) := by decide +kernel
theorem dX4_plug_65 : decode cX4_plug 65 = .ok (.invokevirtual 168, 3) := by decide +kernel
theorem dX4_plug_68 : decode cX4_plug 68 = .ok (.aload_n 0, 1) := by decide +kernel
theorem dX4_plug_69 : decode cX4_plug 69 = .ok (.iload_n 3, 1) := by decide +kernel
theorem dX4_plug_70 : decode cX4_plug 70 = .ok (.invokevirtual 168, 3) := by decide +kernel
theorem dX4_plug_73 : decode cX4_plug 73 = .ok (.imul, 1) := by decide +kernel
theorem dX4_plug_74 : decode cX4_plug 74 = .ok (.bipush 6, 2) := by decide +kernel
theorem dX4_plug_76 : decode cX4_plug 76 = .ok (.if_icmp .le 6, 3) := by decide +kernel
theorem dX4_plug_79 : decode cX4_plug 79 = .ok (.bipush (-4), 2) := by decide +kernel
theorem dX4_plug_81 : decode cX4_plug 81 = .ok (.ireturn, 1) := by decide +kernel
theorem dX4_plug_82 : decode cX4_plug 82 = .ok (.aload_n 0, 1) := by decide +kernel
theorem dX4_plug_83 : decode cX4_plug 83 = .ok (.aload_n 0, 1) := by decide +kernel
theorem dX4_plug_84 : decode cX4_plug 84 = .ok (.getfield 23, 3) := by decide +kernel
theorem dX4_plug_87 : decode cX4_plug 87 = .ok (.bipush 30, 2) := by decide +kernel
theorem dX4_plug_89 : decode cX4_plug 89 = .ok (.iload_n 2, 1) := by decide +kernel
theorem dX4_plug_90 : decode cX4_plug 90 = .ok (.imul, 1) := by decide +kernel
theorem dX4_plug_91 : decode cX4_plug 91 = .ok (.iconst 3, 1) := by decide +kernel
theorem dX4_plug_92 : decode cX4_plug 92 = .ok (.invokevirtual 144, 3) := by decide +kernel
theorem dX4_plug_95 : decode cX4_plug 95 = .ok (.aload_n 0, 1) := by decide +kernel
theorem dX4_plug_96 : decode cX4_plug 96 = .ok (.invokevirtual 159, 3) := by decide +kernel
theorem dX4_plug_99 : decode cX4_plug 99 = .ok (.iconst 0, 1) := by decide +kernel
theorem dX4_plug_100 : decode cX4_plug 100 = .ok (.istore 4, 2) := by decide +kernel
theorem dX4_plug_102 : decode cX4_plug 102 = .ok (.iload 4, 2) := by decide +kernel
theorem dX4_plug_104 : decode cX4_plug 104 = .ok (.bipush 30, 2) := by decide +kernel
theorem dX4_plug_106 : decode cX4_plug 106 = .ok (.if_icmp .ge 69, 3) := by decide +kernel
theorem dX4_plug_109 : decode cX4_plug 109 = .ok (.aload_n 0, 1) := by decide +kernel
theorem dX4_plug_110 : decode cX4_plug 110 = .ok (.getfield 38, 3) := by decide +kernel
theorem dX4_plug_113 : decode cX4_plug 113 = .ok (.iload 4, 2) := by decide +kernel
theorem dX4_plug_115 : decode cX4_plug 115 = .ok (.laload, 1) := by decide +kernel
theorem dX4_plug_116 : decode cX4_plug 116 = .ok (.lconst 0, 1) := by decide +kernel
theorem dX4_plug_117 : decode cX4_plug 117 = .ok (.lcmp, 1) := by decide +kernel
theorem dX4_plug_118 : decode cX4_plug 118 = .ok (.ifCond .eq 51, 3) := by decide +kernel
theorem dX4_plug_121 : decode cX4_plug 121 = .ok (.aload_n 0, 1) := by decide +kernel
theorem dX4_plug_122 : decode cX4_plug 122 = .ok (.iload 4, 2) := by decide +kernel
theorem dX4_plug_124 : decode cX4_plug 124 = .ok (.iload_n 3, 1) := by decide +kernel
theorem dX4_plug_125 : decode cX4_plug 125 = .ok (.invokevirtual 193, 3) := by decide +kernel
theorem dX4_plug_128 : decode cX4_plug 128 = .ok (.iconst 0, 1) := by decide +kernel
theorem dX4_plug_129 : decode cX4_plug 129 = .ok (.istore 5, 2) := by decide +kernel
theorem dX4_plug_131 : decode cX4_plug 131 = .ok (.iload 5, 2) := by decide +kernel
theorem dX4_plug_133 : decode cX4_plug 133 = .ok (.bipush 30, 2) := by decide +kernel
theorem dX4_plug_135 : decode cX4_plug 135 = .ok (.if_icmp .ge 34, 3) := by decide +kernel
theorem dX4_plug_138 : decode cX4_plug 138 = .ok (.aload_n 0, 1) := by decide +kernel
theorem dX4_plug_139 : decode cX4_plug 139 = .ok (.getfield 44, 3) := by decide +kernel
theorem dX4_plug_142 : decode cX4_plug 142 = .ok (.iload 5, 2) := by decide +kernel
theorem dX4_plug_144 : decode cX4_plug 144 = .ok (.dup2, 1) := by decide +kernel
theorem dX4_plug_145 : decode cX4_plug 145 = .ok (.laload, 1) := by decide +kernel
theorem dX4_plug_146 : decode cX4_plug 146 = .ok (.aload_n 0, 1) := by decide +kernel
theorem dX4_plug_147 : decode cX4_plug 147 = .ok (.getfield 38, 3) := by decide +kernel
theorem dX4_plug_150 : decode cX4_plug 150 = .ok (.iload 4, 2) := by decide +kernel
theorem dX4_plug_152 : decode cX4_plug 152 = .ok (.laload, 1) := by decide +kernel
theorem dX4_plug_153 : decode cX4_plug 153 = .ok (.aload_n 0, 1) := by decide +kernel
theorem dX4_plug_154 : decode cX4_plug 154 = .ok (.getfield 56, 3) := by decide +kernel
theorem dX4_plug_157 : decode cX4_plug 157 = .ok (.iload 5, 2) := by decide +kernel
theorem dX4_plug_159 : decode cX4_plug 159 = .ok (.laload, 1) := by decide +kernel
theorem dX4_plug_160 : decode cX4_plug 160 = .ok (.lmul, 1) := by decide +kernel
theorem dX4_plug_161 : decode cX4_plug 161 = .ok (.ladd, 1) := by decide +kernel
theorem dX4_plug_162 : decode cX4_plug 162 = .ok (.lastore, 1) := by decide +kernel
theorem dX4_plug_163 : decode cX4_plug 163 = .ok (.iinc 5 1, 3) := by decide +kernel
theorem dX4_plug_166 : decode cX4_plug 166 = .ok (.goto (-35), 3) := by decide +kernel
theorem dX4_plug_169 : decode cX4_plug 169 = .ok (.iinc 4 1, 3) := by decide +kernel
theorem dX4_plug_172 : decode cX4_plug 172 = .ok (.goto (-70), 3) := by decide +kernel
theorem dX4_plug_175 : decode cX4_plug 175 = .ok (.iconst 0, 1) := by decide +kernel
theorem dX4_plug_176 : decode cX4_plug 176 = .ok (.istore 4, 2) := by decide +kernel
theorem dX4_plug_178 : decode cX4_plug 178 = .ok (.iload 4, 2) := by decide +kernel
theorem dX4_plug_180 : decode cX4_plug 180 = .ok (.bipush 30, 2) := by decide +kernel
theorem dX4_plug_182 : decode cX4_plug 182 = .ok (.if_icmp .ge 22, 3) := by decide +kernel
theorem dX4_plug_185 : decode cX4_plug 185 = .ok (.aload_n 0, 1) := by decide +kernel
theorem dX4_plug_186 : decode cX4_plug 186 = .ok (.getfield 44, 3) := by decide +kernel
theorem dX4_plug_189 : decode cX4_plug 189 = .ok (.iload 4, 2) := by decide +kernel
theorem dX4_plug_191 : decode cX4_plug 191 = .ok (.dup2, 1) := by decide +kernel
theorem dX4_plug_192 : decode cX4_plug 192 = .ok (.laload, 1) := by decide +kernel
theorem dX4_plug_193 : decode cX4_plug 193 = .ok (.ldc2_w 132, 3) := by decide +kernel
theorem dX4_plug_196 : decode cX4_plug 196 = .ok (.ldiv, 1) := by decide +kernel
theorem dX4_plug_197 : decode cX4_plug 197 = .ok (.lastore, 1) := by decide +kernel
theorem dX4_plug_198 : decode cX4_plug 198 = .ok (.iinc 4 1, 3) := by decide +kernel
theorem dX4_plug_201 : decode cX4_plug 201 = .ok (.goto (-23), 3) := by decide +kernel
theorem dX4_plug_204 : decode cX4_plug 204 = .ok (.aload_n 0, 1) := by decide +kernel
theorem dX4_plug_205 : decode cX4_plug 205 = .ok (.iload_n 1, 1) := by decide +kernel
theorem dX4_plug_206 : decode cX4_plug 206 = .ok (.invokevirtual 165, 3) := by decide +kernel
theorem dX4_plug_209 : decode cX4_plug 209 = .ok (.ireturn, 1) := by decide +kernel
theorem dX4_image_0 : decode cX4_image 0 = .ok (.iload_n 1, 1) := by decide +kernel
theorem dX4_image_1 : decode cX4_image 1 = .ok (.iconst 0, 1) := by decide +kernel
theorem dX4_image_2 : decode cX4_image 2 = .ok (.iconst 1, 1) := by decide +kernel
theorem dX4_image_3 : decode cX4_image 3 = .ok (.invokestatic 101, 3) := by decide +kernel
theorem dX4_image_6 : decode cX4_image 6 = .ok (.ifCond .ne 6, 3) := by decide +kernel
theorem dX4_image_9 : decode cX4_image 9 = .ok (.bipush (-2), 2) := by decide +kernel
theorem dX4_image_11 : decode cX4_image 11 = .ok (.ireturn, 1) := by decide +kernel
theorem dX4_image_12 : decode cX4_image 12 = .ok (.iconst 0, 1) := by decide +kernel
theorem dX4_image_13 : decode cX4_image 13 = .ok (.istore_n 2, 1) := by decide +kernel
theorem dX4_image_14 : decode cX4_image 14 = .ok (.iload_n 2, 1) := by decide +kernel
theorem dX4_image_15 : decode cX4_image 15 = .ok (.sipush 240, 3) := by decide +kernel
theorem dX4_image_18 : decode cX4_image 18 = .ok (.if_icmp .ge 27, 3) := by decide +kernel
theorem dX4_image_21 : decode cX4_image 21 = .ok (.aload_n 0, 1) := by decide +kernel
theorem dX4_image_22 : decode cX4_image 22 = .ok (.getfield 59, 3) := by decide +kernel
theorem dX4_image_25 : decode cX4_image 25 = .ok (.sipush 240, 3) := by decide +kernel
theorem dX4_image_28 : decode cX4_image 28 = .ok (.iload_n 1, 1) := by decide +kernel
theorem dX4_image_29 : decode cX4_image 29 = .ok (.imul, 1) := by decide +kernel
theorem dX4_image_30 : decode cX4_image 30 = .ok (.iload_n 2, 1) := by decide +kernel
theorem dX4_image_31 : decode cX4_image 31 = .ok (.iadd, 1) := by decide +kernel
theorem dX4_image_32 : decode cX4_image 32 = .ok (.aload_n 0, 1) := by decide +kernel
theorem dX4_image_33 : decode cX4_image 33 = .ok (.getfield 23, 3) := by decide +kernel
theorem dX4_image_36 : decode cX4_image 36 = .ok (.iload_n 2, 1) := by decide +kernel
theorem dX4_image_37 : decode cX4_image 37 = .ok (.laload, 1) := by decide +kernel
theorem dX4_image_38 : decode cX4_image 38 = .ok (.lastore, 1) := by decide +kernel
theorem dX4_image_39 : decode cX4_image 39 = .ok (.iinc 2 1, 3) := by decide +kernel
theorem dX4_image_42 : decode cX4_image 42 = .ok (.goto (-28), 3) := by decide +kernel
theorem dX4_image_45 : decode cX4_image 45 = .ok (.aload_n 0, 1) := by decide +kernel
theorem dX4_image_46 : decode cX4_image 46 = .ok (.getfield 62, 3) := by decide +kernel
theorem dX4_image_49 : decode cX4_image 49 = .ok (.iload_n 1, 1) := by decide +kernel
theorem dX4_image_50 : decode cX4_image 50 = .ok (.iconst 1, 1) := by decide +kernel
theorem dX4_image_51 : decode cX4_image 51 = .ok (.bastore, 1) := by decide +kernel
theorem dX4_image_52 : decode cX4_image 52 = .ok (.iconst 1, 1) := by decide +kernel
theorem dX4_image_53 : decode cX4_image 53 = .ok (.ireturn, 1) := by decide +kernel
theorem dX4_restore_0 : decode cX4_restore 0 = .ok (.iload_n 1, 1) := by decide +kernel
theorem dX4_restore_1 : decode cX4_restore 1 = .ok (.iconst 0, 1) := by decide +kernel
theorem dX4_restore_2 : decode cX4_restore 2 = .ok (.iconst 1, 1) := by decide +kernel
theorem dX4_restore_3 : decode cX4_restore 3 = .ok (.invokestatic 101, 3) := by decide +kernel
theorem dX4_restore_6 : decode cX4_restore 6 = .ok (.ifCond .ne 6, 3) := by decide +kernel
theorem dX4_restore_9 : decode cX4_restore 9 = .ok (.bipush (-2), 2) := by decide +kernel
theorem dX4_restore_11 : decode cX4_restore 11 = .ok (.ireturn, 1) := by decide +kernel
theorem dX4_restore_12 : decode cX4_restore 12 = .ok (.aload_n 0, 1) := by decide +kernel
theorem dX4_restore_13 : decode cX4_restore 13 = .ok (.getfield 62, 3) := by decide +kernel
theorem dX4_restore_16 : decode cX4_restore 16 = .ok (.iload_n 1, 1) := by decide +kernel
theorem dX4_restore_17 : decode cX4_restore 17 = .ok (.baload, 1) := by decide +kernel
theorem dX4_restore_18 : decode cX4_restore 18 = .ok (.ifCond .ne 6, 3) := by decide +kernel
theorem dX4_restore_21 : decode cX4_restore 21 = .ok (.bipush (-3), 2) := by decide +kernel
theorem dX4_restore_23 : decode cX4_restore 23 = .ok (.ireturn, 1) := by decide +kernel
theorem dX4_restore_24 : decode cX4_restore 24 = .ok (.iconst 0, 1) := by decide +kernel
theorem dX4_restore_25 : decode cX4_restore 25 = .ok (.istore_n 2, 1) := by decide +kernel
theorem dX4_restore_26 : decode cX4_restore 26 = .ok (.iload_n 2, 1) := by decide +kernel
theorem dX4_restore_27 : decode cX4_restore 27 = .ok (.sipush 240, 3) := by decide +kernel
theorem dX4_restore_30 : decode cX4_restore 30 = .ok (.if_icmp .ge 27, 3) := by decide +kernel
theorem dX4_restore_33 : decode cX4_restore 33 = .ok (.aload_n 0, 1) := by decide +kernel
theorem dX4_restore_34 : decode cX4_restore 34 = .ok (.getfield 23, 3) := by decide +kernel
theorem dX4_restore_37 : decode cX4_restore 37 = .ok (.iload_n 2, 1) := by decide +kernel
theorem dX4_restore_38 : decode cX4_restore 38 = .ok (.aload_n 0, 1) := by decide +kernel
theorem dX4_restore_39 : decode cX4_restore 39 = .ok (.getfield 59, 3) := by decide +kernel
theorem dX4_restore_42 : decode cX4_restore 42 = .ok (.sipush 240, 3) := by decide +kernel
theorem dX4_restore_45 : decode cX4_restore 45 = .ok (.iload_n 1, 1) := by decide +kernel
theorem dX4_restore_46 : decode cX4_restore 46 = .ok (.imul, 1) := by decide +kernel
theorem dX4_restore_47 : decode cX4_restore 47 = .ok (.iload_n 2, 1) := by decide +kernel
theorem dX4_restore_48 : decode cX4_restore 48 = .ok (.iadd, 1) := by decide +kernel
theorem dX4_restore_49 : decode cX4_restore 49 = .ok (.laload, 1) := by decide +kernel
theorem dX4_restore_50 : decode cX4_restore 50 = .ok (.lastore, 1) := by decide +kernel
theorem dX4_restore_51 : decode cX4_restore 51 = .ok (.iinc 2 1, 3) := by decide +kernel
theorem dX4_restore_54 : decode cX4_restore 54 = .ok (.goto (-28), 3) := by decide +kernel
theorem dX4_restore_57 : decode cX4_restore 57 = .ok (.iconst 1, 1) := by decide +kernel
theorem dX4_restore_58 : decode cX4_restore 58 = .ok (.ireturn, 1) := by decide +kernel
theorem dX4_ofDegree_0 : decode cX4_ofDegree 0 = .ok (.iconst 0, 1) := by decide +kernel
theorem dX4_ofDegree_1 : decode cX4_ofDegree 1 = .ok (.istore_n 3, 1) := by decide +kernel
theorem dX4_ofDegree_2 : decode cX4_ofDegree 2 = .ok (.bipush 30, 2) := by decide +kernel
theorem dX4_ofDegree_4 : decode cX4_ofDegree 4 = .ok (.istore 4, 2) := by decide +kernel
theorem dX4_ofDegree_6 : decode cX4_ofDegree 6 = .ok (.bipush 29, 2) := by decide +kernel
theorem dX4_ofDegree_8 : decode cX4_ofDegree 8 = .ok (.istore 5, 2) := by decide +kernel
theorem dX4_ofDegree_10 : decode cX4_ofDegree 10 = .ok (.iload 5, 2) := by decide +kernel
theorem dX4_ofDegree_12 : decode cX4_ofDegree 12 = .ok (.ifCond .lt 48, 3) := by decide +kernel
theorem dX4_ofDegree_15 : decode cX4_ofDegree 15 = .ok (.iload_n 3, 1) := by decide +kernel
theorem dX4_ofDegree_16 : decode cX4_ofDegree 16 = .ok (.aload_n 0, 1) := by decide +kernel
theorem dX4_ofDegree_17 : decode cX4_ofDegree 17 = .ok (.getfield 13, 3) := by decide +kernel
theorem dX4_ofDegree_20 : decode cX4_ofDegree 20 = .ok (.iload 5, 2) := by decide +kernel
theorem dX4_ofDegree_22 : decode cX4_ofDegree 22 = .ok (.iaload, 1) := by decide +kernel
theorem dX4_ofDegree_23 : decode cX4_ofDegree 23 = .ok (.iload_n 1, 1) := by decide +kernel
theorem dX4_ofDegree_24 : decode cX4_ofDegree 24 = .ok (.if_icmp .ne 7, 3) := by decide +kernel
theorem dX4_ofDegree_27 : decode cX4_ofDegree 27 = .ok (.iconst 1, 1) := by decide +kernel
theorem dX4_ofDegree_28 : decode cX4_ofDegree 28 = .ok (.goto 4, 3) := by decide +kernel
theorem dX4_ofDegree_31 : decode cX4_ofDegree 31 = .ok (.iconst 0, 1) := by decide +kernel
theorem dX4_ofDegree_32 : decode cX4_ofDegree 32 = .ok (.iadd, 1) := by decide +kernel
theorem dX4_ofDegree_33 : decode cX4_ofDegree 33 = .ok (.istore_n 3, 1) := by decide +kernel
theorem dX4_ofDegree_34 : decode cX4_ofDegree 34 = .ok (.aload_n 0, 1) := by decide +kernel
theorem dX4_ofDegree_35 : decode cX4_ofDegree 35 = .ok (.getfield 13, 3) := by decide +kernel
theorem dX4_ofDegree_38 : decode cX4_ofDegree 38 = .ok (.iload 5, 2) := by decide +kernel
theorem dX4_ofDegree_40 : decode cX4_ofDegree 40 = .ok (.iaload, 1) := by decide +kernel
theorem dX4_ofDegree_41 : decode cX4_ofDegree 41 = .ok (.iload_n 1, 1) := by decide +kernel
theorem dX4_ofDegree_42 : decode cX4_ofDegree 42 = .ok (.if_icmp .ne 8, 3) := by decide +kernel
theorem dX4_ofDegree_45 : decode cX4_ofDegree 45 = .ok (.iload 5, 2) := by decide +kernel
theorem dX4_ofDegree_47 : decode cX4_ofDegree 47 = .ok (.goto 5, 3) := by decide +kernel
theorem dX4_ofDegree_50 : decode cX4_ofDegree 50 = .ok (.iload 4, 2) := by decide +kernel
theorem dX4_ofDegree_52 : decode cX4_ofDegree 52 = .ok (.istore 4, 2) := by decide +kernel
theorem dX4_ofDegree_54 : decode cX4_ofDegree 54 = .ok (.iinc 5 (-1), 3) := by decide +kernel
theorem dX4_ofDegree_57 : decode cX4_ofDegree 57 = .ok (.goto (-47), 3) := by decide +kernel
theorem dX4_ofDegree_60 : decode cX4_ofDegree 60 = .ok (.iload_n 2, 1) := by decide +kernel
theorem dX4_ofDegree_61 : decode cX4_ofDegree 61 = .ok (.ifCond .eq 8, 3) := by decide +kernel
theorem dX4_ofDegree_64 : decode cX4_ofDegree 64 = .ok (.iload 4, 2) := by decide +kernel
theorem dX4_ofDegree_66 : decode cX4_ofDegree 66 = .ok (.goto 4, 3) := by decide +kernel
theorem dX4_ofDegree_69 : decode cX4_ofDegree 69 = .ok (.iload_n 3, 1) := by decide +kernel
theorem dX4_ofDegree_70 : decode cX4_ofDegree 70 = .ok (.ireturn, 1) := by decide +kernel
theorem dX4_count_0 : decode cX4_count 0 = .ok (.iload_n 1, 1) := by decide +kernel
theorem dX4_count_1 : decode cX4_count 1 = .ok (.ifCond .ne 37, 3) := by decide +kernel
theorem dX4_count_4 : decode cX4_count 4 = .ok (.iconst 0, 1) := by decide +kernel
theorem dX4_count_5 : decode cX4_count 5 = .ok (.istore_n 2, 1) := by decide +kernel
theorem dX4_count_6 : decode cX4_count 6 = .ok (.iconst 0, 1) := by decide +kernel
theorem dX4_count_7 : decode cX4_count 7 = .ok (.istore_n 3, 1) := by decide +kernel
theorem dX4_count_8 : decode cX4_count 8 = .ok (.iload_n 3, 1) := by decide +kernel
theorem dX4_count_9 : decode cX4_count 9 = .ok (.bipush 8, 2) := by decide +kernel
theorem dX4_count_11 : decode cX4_count 11 = .ok (.if_icmp .ge 25, 3) := by decide +kernel
theorem dX4_count_14 : decode cX4_count 14 = .ok (.iload_n 2, 1) := by decide +kernel
theorem dX4_count_15 : decode cX4_count 15 = .ok (.aload_n 0, 1) := by decide +kernel
theorem dX4_count_16 : decode cX4_count 16 = .ok (.iload_n 3, 1) := by decide +kernel
theorem dX4_count_17 : decode cX4_count 17 = .ok (.invokevirtual 168, 3) := by decide +kernel
theorem dX4_count_20 : decode cX4_count 20 = .ok (.ifCond .lt 7, 3) := by decide +kernel
theorem dX4_count_23 : decode cX4_count 23 = .ok (.iconst 1, 1) := by decide +kernel
theorem dX4_count_24 : decode cX4_count 24 = .ok (.goto 4, 3) := by decide +kernel
theorem dX4_count_27 : decode cX4_count 27 = .ok (.iconst 0, 1) := by decide +kernel
theorem dX4_count_28 : decode cX4_count 28 = .ok (.iadd, 1) := by decide +kernel
theorem dX4_count_29 : decode cX4_count 29 = .ok (.istore_n 2, 1) := by decide +kernel
theorem dX4_count_30 : decode cX4_count 30 = .ok (.iinc 3 1, 3) := by decide +kernel
theorem dX4_count_33 : decode cX4_count 33 = .ok (.goto (-25), 3) := by decide +kernel
theorem dX4_count_36 : decode cX4_count 36 = .ok (.iload_n 2, 1) := by decide +kernel
theorem dX4_count_37 : decode cX4_count 37 = .ok (.ireturn, 1) := by decide +kernel
theorem dX4_count_38 : decode cX4_count 38 = .ok (.iload_n 1, 1) := by decide +kernel
theorem dX4_count_39 : decode cX4_count 39 = .ok (.iconst 1, 1) := by decide +kernel
theorem dX4_count_40 : decode cX4_count 40 = .ok (.if_icmp .ne 33, 3) := by decide +kernel
theorem dX4_count_43 : decode cX4_count 43 = .ok (.aload_n 0, 1) := by decide +kernel
theorem dX4_count_44 : decode cX4_count 44 = .ok (.getfield 62, 3) := by decide +kernel
theorem dX4_count_47 : decode cX4_count 47 = .ok (.iconst 0, 1) := by decide +kernel
theorem dX4_count_48 : decode cX4_count 48 = .ok (.baload, 1) := by decide +kernel
theorem dX4_count_49 : decode cX4_count 49 = .ok (.ifCond .eq 7, 3) := by decide +kernel
theorem dX4_count_52 : decode cX4_count 52 = .ok (.iconst 1, 1) := by decide +kernel
theorem dX4_count_53 : decode cX4_count 53 = .ok (.goto 4, 3) := by decide +kernel
theorem dX4_count_56 : decode cX4_count 56 = .ok (.iconst 0, 1) := by decide +kernel
theorem dX4_count_57 : decode cX4_count 57 = .ok (.aload_n 0, 1) := by decide +kernel
theorem dX4_count_58 : decode cX4_count 58 = .ok (.getfield 62, 3) := by decide +kernel
theorem dX4_count_61 : decode cX4_count 61 = .ok (.iconst 1, 1) := by decide +kernel
theorem dX4_count_62 : decode cX4_count 62 = .ok (.baload, 1) := by decide +kernel
theorem dX4_count_63 : decode cX4_count 63 = .ok (.ifCond .eq 7, 3) := by decide +kernel
theorem dX4_count_66 : decode cX4_count 66 = .ok (.iconst 2, 1) := by decide +kernel
theorem dX4_count_67 : decode cX4_count 67 = .ok (.goto 4, 3) := by decide +kernel
theorem dX4_count_70 : decode cX4_count 70 = .ok (.iconst 0, 1) := by decide +kernel
theorem dX4_count_71 : decode cX4_count 71 = .ok (.iadd, 1) := by decide +kernel
theorem dX4_count_72 : decode cX4_count 72 = .ok (.ireturn, 1) := by decide +kernel
theorem dX4_count_73 : decode cX4_count 73 = .ok (.iload_n 1, 1) := by decide +kernel
theorem dX4_count_74 : decode cX4_count 74 = .ok (.bipush 10, 2) := by decide +kernel
theorem dX4_count_76 : decode cX4_count 76 = .ok (.bipush 16, 2) := by decide +kernel
theorem dX4_count_78 : decode cX4_count 78 = .ok (.invokestatic 101, 3) := by decide +kernel
theorem dX4_count_81 : decode cX4_count 81 = .ok (.ifCond .eq 15, 3) := by decide +kernel
theorem dX4_count_84 : decode cX4_count 84 = .ok (.aload_n 0, 1) := by decide +kernel
theorem dX4_count_85 : decode cX4_count 85 = .ok (.iload_n 1, 1) := by decide +kernel
theorem dX4_count_86 : decode cX4_count 86 = .ok (.bipush 10, 2) := by decide +kernel
theorem dX4_count_88 : decode cX4_count 88 = .ok (.isub, 1) := by decide +kernel
theorem dX4_count_89 : decode cX4_count 89 = .ok (.iconst 0, 1) := by decide +kernel
theorem dX4_count_90 : decode cX4_count 90 = .ok (.invokevirtual 196, 3) := by decide +kernel
theorem dX4_count_93 : decode cX4_count 93 = .ok (.goto 28, 3) := by decide +kernel
theorem dX4_count_96 : decode cX4_count 96 = .ok (.iload_n 1, 1) := by decide +kernel
theorem dX4_count_97 : decode cX4_count 97 = .ok (.bipush 20, 2) := by decide +kernel
theorem dX4_count_99 : decode cX4_count 99 = .ok (.bipush 26, 2) := by decide +kernel
theorem dX4_count_101 : decode cX4_count 101 = .ok (.invokestatic 101, 3) := by decide +kernel
theorem dX4_count_104 : decode cX4_count 104 = .ok (.ifCond .eq 15, 3) := by decide +kernel
theorem dX4_count_107 : decode cX4_count 107 = .ok (.aload_n 0, 1) := by decide +kernel
theorem dX4_count_108 : decode cX4_count 108 = .ok (.iload_n 1, 1) := by decide +kernel
theorem dX4_count_109 : decode cX4_count 109 = .ok (.bipush 20, 2) := by decide +kernel
theorem dX4_count_111 : decode cX4_count 111 = .ok (.isub, 1) := by decide +kernel
theorem dX4_count_112 : decode cX4_count 112 = .ok (.iconst 1, 1) := by decide +kernel
theorem dX4_count_113 : decode cX4_count 113 = .ok (.invokevirtual 196, 3) := by decide +kernel
theorem dX4_count_116 : decode cX4_count 116 = .ok (.goto 5, 3) := by decide +kernel
theorem dX4_count_119 : decode cX4_count 119 = .ok (.bipush (-2), 2) := by decide +kernel
theorem dX4_count_121 : decode cX4_count 121 = .ok (.ireturn, 1) := by decide +kernel
