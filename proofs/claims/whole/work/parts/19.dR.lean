section DC
theorem d_R_init_0 : decode c_R_init 0 = .ok (.aload_n 0, 1) := by decide +kernel
theorem d_R_init_1 : decode c_R_init 1 = .ok (.invokespecial 1, 3) := by decide +kernel
theorem d_R_init_4 : decode c_R_init 4 = .ok (.aload_n 0, 1) := by decide +kernel
theorem d_R_init_5 : decode c_R_init 5 = .ok (.bipush 25, 2) := by decide +kernel
theorem d_R_init_7 : decode c_R_init 7 = .ok (.newarray .int, 2) := by decide +kernel
theorem d_R_init_9 : decode c_R_init 9 = .ok (.putfield 7, 3) := by decide +kernel
theorem d_R_init_12 : decode c_R_init 12 = .ok (.aload_n 0, 1) := by decide +kernel
theorem d_R_init_13 : decode c_R_init 13 = .ok (.sipush 168, 3) := by decide +kernel
theorem d_R_init_16 : decode c_R_init 16 = .ok (.newarray .boolean, 2) := by decide +kernel
theorem d_R_init_18 : decode c_R_init 18 = .ok (.putfield 13, 3) := by decide +kernel
theorem d_R_init_21 : decode c_R_init 21 = .ok (.aload_n 0, 1) := by decide +kernel
theorem d_R_init_22 : decode c_R_init 22 = .ok (.bipush 25, 2) := by decide +kernel
theorem d_R_init_24 : decode c_R_init 24 = .ok (.newarray .long, 2) := by decide +kernel
theorem d_R_init_26 : decode c_R_init 26 = .ok (.putfield 17, 3) := by decide +kernel
theorem d_R_init_29 : decode c_R_init 29 = .ok (.aload_n 0, 1) := by decide +kernel
theorem d_R_init_30 : decode c_R_init 30 = .ok (.bipush 25, 2) := by decide +kernel
theorem d_R_init_32 : decode c_R_init 32 = .ok (.newarray .long, 2) := by decide +kernel
theorem d_R_init_34 : decode c_R_init 34 = .ok (.putfield 21, 3) := by decide +kernel
theorem d_R_init_37 : decode c_R_init 37 = .ok (.aload_n 0, 1) := by decide +kernel
theorem d_R_init_38 : decode c_R_init 38 = .ok (.iconst 5, 1) := by decide +kernel
theorem d_R_init_39 : decode c_R_init 39 = .ok (.newarray .long, 2) := by decide +kernel
theorem d_R_init_41 : decode c_R_init 41 = .ok (.putfield 24, 3) := by decide +kernel
theorem d_R_init_44 : decode c_R_init 44 = .ok (.aload_n 0, 1) := by decide +kernel
theorem d_R_init_45 : decode c_R_init 45 = .ok (.sipush 168, 3) := by decide +kernel
theorem d_R_init_48 : decode c_R_init 48 = .ok (.newarray .int, 2) := by decide +kernel
theorem d_R_init_50 : decode c_R_init 50 = .ok (.putfield 27, 3) := by decide +kernel
theorem d_R_init_53 : decode c_R_init 53 = .ok (.aload_n 0, 1) := by decide +kernel
theorem d_R_init_54 : decode c_R_init 54 = .ok (.sipush 168, 3) := by decide +kernel
theorem d_R_init_57 : decode c_R_init 57 = .ok (.newarray .int, 2) := by decide +kernel
theorem d_R_init_59 : decode c_R_init 59 = .ok (.putfield 30, 3) := by decide +kernel
theorem d_R_init_62 : decode c_R_init 62 = .ok (.aload_n 0, 1) := by decide +kernel
theorem d_R_init_63 : decode c_R_init 63 = .ok (.iconst 4, 1) := by decide +kernel
theorem d_R_init_64 : decode c_R_init 64 = .ok (.newarray .boolean, 2) := by decide +kernel
theorem d_R_init_66 : decode c_R_init 66 = .ok (.putfield 33, 3) := by decide +kernel
theorem d_R_init_69 : decode c_R_init 69 = .ok (.aload_n 0, 1) := by decide +kernel
theorem d_R_init_70 : decode c_R_init 70 = .ok (.iconst 4, 1) := by decide +kernel
theorem d_R_init_71 : decode c_R_init 71 = .ok (.newarray .long, 2) := by decide +kernel
theorem d_R_init_73 : decode c_R_init 73 = .ok (.putfield 36, 3) := by decide +kernel
theorem d_R_init_76 : decode c_R_init 76 = .ok (.aload_n 0, 1) := by decide +kernel
theorem d_R_init_77 : decode c_R_init 77 = .ok (.iconst 4, 1) := by decide +kernel
theorem d_R_init_78 : decode c_R_init 78 = .ok (.newarray .long, 2) := by decide +kernel
theorem d_R_init_80 : decode c_R_init 80 = .ok (.putfield 39, 3) := by decide +kernel
theorem d_R_init_83 : decode c_R_init 83 = .ok (.aload_n 0, 1) := by decide +kernel
theorem d_R_init_84 : decode c_R_init 84 = .ok (.iconst 4, 1) := by decide +kernel
theorem d_R_init_85 : decode c_R_init 85 = .ok (.newarray .long, 2) := by decide +kernel
theorem d_R_init_87 : decode c_R_init 87 = .ok (.putfield 42, 3) := by decide +kernel
theorem d_R_init_90 : decode c_R_init 90 = .ok (.aload_n 0, 1) := by decide +kernel
theorem d_R_init_91 : decode c_R_init 91 = .ok (.sipush 256, 3) := by decide +kernel
theorem d_R_init_94 : decode c_R_init 94 = .ok (.newarray .int, 2) := by decide +kernel
theorem d_R_init_96 : decode c_R_init 96 = .ok (.putfield 45, 3) := by decide +kernel
theorem d_R_init_99 : decode c_R_init 99 = .ok (.aload_n 0, 1) := by decide +kernel
theorem d_R_init_100 : decode c_R_init 100 = .ok (.sipush 128, 3) := by decide +kernel
theorem d_R_init_103 : decode c_R_init 103 = .ok (.newarray .int, 2) := by decide +kernel
theorem d_R_init_105 : decode c_R_init 105 = .ok (.putfield 48, 3) := by decide +kernel
theorem d_R_init_108 : decode c_R_init 108 = .ok (.aload_n 0, 1) := by decide +kernel
theorem d_R_init_109 : decode c_R_init 109 = .ok (.sipush 128, 3) := by decide +kernel
theorem d_R_init_112 : decode c_R_init 112 = .ok (.newarray .int, 2) := by decide +kernel
theorem d_R_init_114 : decode c_R_init 114 = .ok (.putfield 51, 3) := by decide +kernel
theorem d_R_init_117 : decode c_R_init 117 = .ok (.aload_n 0, 1) := by decide +kernel
theorem d_R_init_118 : decode c_R_init 118 = .ok (.sipush 128, 3) := by decide +kernel
theorem d_R_init_121 : decode c_R_init 121 = .ok (.newarray .int, 2) := by decide +kernel
theorem d_R_init_123 : decode c_R_init 123 = .ok (.putfield 54, 3) := by decide +kernel
theorem d_R_init_126 : decode c_R_init 126 = .ok (.aload_n 0, 1) := by decide +kernel
theorem d_R_init_127 : decode c_R_init 127 = .ok (.iconst 4, 1) := by decide +kernel
theorem d_R_init_128 : decode c_R_init 128 = .ok (.newarray .boolean, 2) := by decide +kernel
theorem d_R_init_130 : decode c_R_init 130 = .ok (.putfield 57, 3) := by decide +kernel
theorem d_R_init_133 : decode c_R_init 133 = .ok (.aload_n 0, 1) := by decide +kernel
theorem d_R_init_134 : decode c_R_init 134 = .ok (.sipush 450, 3) := by decide +kernel
theorem d_R_init_137 : decode c_R_init 137 = .ok (.newarray .int, 2) := by decide +kernel
theorem d_R_init_139 : decode c_R_init 139 = .ok (.putfield 60, 3) := by decide +kernel
theorem d_R_init_142 : decode c_R_init 142 = .ok (.aload_n 0, 1) := by decide +kernel
theorem d_R_init_143 : decode c_R_init 143 = .ok (.bipush 80, 2) := by decide +kernel
theorem d_R_init_145 : decode c_R_init 145 = .ok (.newarray .int, 2) := by decide +kernel
theorem d_R_init_147 : decode c_R_init 147 = .ok (.putfield 63, 3) := by decide +kernel
theorem d_R_init_150 : decode c_R_init 150 = .ok (.aload_n 0, 1) := by decide +kernel
theorem d_R_init_151 : decode c_R_init 151 = .ok (.bipush 32, 2) := by decide +kernel
theorem d_R_init_153 : decode c_R_init 153 = .ok (.newarray .int, 2) := by decide +kernel
theorem d_R_init_155 : decode c_R_init 155 = .ok (.putfield 66, 3) := by decide +kernel
theorem d_R_init_158 : decode c_R_init 158 = .ok (.aload_n 0, 1) := by decide +kernel
theorem d_R_init_159 : decode c_R_init 159 = .ok (.bipush 16, 2) := by decide +kernel
theorem d_R_init_161 : decode c_R_init 161 = .ok (.newarray .int, 2) := by decide +kernel
theorem d_R_init_163 : decode c_R_init 163 = .ok (.putfield 69, 3) := by decide +kernel
theorem d_R_init_166 : decode c_R_init 166 = .ok (.iconst 1, 1) := by decide +kernel
theorem d_R_init_167 : decode c_R_init 167 = .ok (.istore_n 1, 1) := by decide +kernel
theorem d_R_init_168 : decode c_R_init 168 = .ok (.iconst 0, 1) := by decide +kernel
theorem d_R_init_169 : decode c_R_init 169 = .ok (.istore_n 2, 1) := by decide +kernel
theorem d_R_init_170 : decode c_R_init 170 = .ok (.iconst 0, 1) := by decide +kernel
theorem d_R_init_171 : decode c_R_init 171 = .ok (.istore_n 3, 1) := by decide +kernel
theorem d_R_init_172 : decode c_R_init 172 = .ok (.iload_n 3, 1) := by decide +kernel
theorem d_R_init_173 : decode c_R_init 173 = .ok (.bipush 24, 2) := by decide +kernel
theorem d_R_init_175 : decode c_R_init 175 = .ok (.if_icmp .ge 47, 3) := by decide +kernel
theorem d_R_init_178 : decode c_R_init 178 = .ok (.aload_n 0, 1) := by decide +kernel
theorem d_R_init_179 : decode c_R_init 179 = .ok (.getfield 7, 3) := by decide +kernel
theorem d_R_init_182 : decode c_R_init 182 = .ok (.iload_n 1, 1) := by decide +kernel
theorem d_R_init_183 : decode c_R_init 183 = .ok (.iconst 5, 1) := by decide +kernel
theorem d_R_init_184 : decode c_R_init 184 = .ok (.iload_n 2, 1) := by decide +kernel
theorem d_R_init_185 : decode c_R_init 185 = .ok (.imul, 1) := by decide +kernel
theorem d_R_init_186 : decode c_R_init 186 = .ok (.iadd, 1) := by decide +kernel
theorem d_R_init_187 : decode c_R_init 187 = .ok (.iload_n 3, 1) := by decide +kernel
theorem d_R_init_188 : decode c_R_init 188 = .ok (.iconst 1, 1) := by decide +kernel
theorem d_R_init_189 : decode c_R_init 189 = .ok (.iadd, 1) := by decide +kernel
theorem d_R_init_190 : decode c_R_init 190 = .ok (.iload_n 3, 1) := by decide +kernel
theorem d_R_init_191 : decode c_R_init 191 = .ok (.iconst 2, 1) := by decide +kernel
theorem d_R_init_192 : decode c_R_init 192 = .ok (.iadd, 1) := by decide +kernel
theorem d_R_init_193 : decode c_R_init 193 = .ok (.imul, 1) := by decide +kernel
theorem d_R_init_194 : decode c_R_init 194 = .ok (.iconst 2, 1) := by decide +kernel
theorem d_R_init_195 : decode c_R_init 195 = .ok (.idiv, 1) := by decide +kernel
theorem d_R_init_196 : decode c_R_init 196 = .ok (.bipush 64, 2) := by decide +kernel
theorem d_R_init_198 : decode c_R_init 198 = .ok (.irem, 1) := by decide +kernel
theorem d_R_init_199 : decode c_R_init 199 = .ok (.iastore, 1) := by decide +kernel
theorem d_R_init_200 : decode c_R_init 200 = .ok (.iconst 2, 1) := by decide +kernel
theorem d_R_init_201 : decode c_R_init 201 = .ok (.iload_n 1, 1) := by decide +kernel
theorem d_R_init_202 : decode c_R_init 202 = .ok (.imul, 1) := by decide +kernel
theorem d_R_init_203 : decode c_R_init 203 = .ok (.iconst 3, 1) := by decide +kernel
theorem d_R_init_204 : decode c_R_init 204 = .ok (.iload_n 2, 1) := by decide +kernel
theorem d_R_init_205 : decode c_R_init 205 = .ok (.imul, 1) := by decide +kernel
theorem d_R_init_206 : decode c_R_init 206 = .ok (.iadd, 1) := by decide +kernel
theorem d_R_init_207 : decode c_R_init 207 = .ok (.iconst 5, 1) := by decide +kernel
theorem d_R_init_208 : decode c_R_init 208 = .ok (.irem, 1) := by decide +kernel
theorem d_R_init_209 : decode c_R_init 209 = .ok (.istore 4, 2) := by decide +kernel
theorem d_R_init_211 : decode c_R_init 211 = .ok (.iload_n 2, 1) := by decide +kernel
theorem d_R_init_212 : decode c_R_init 212 = .ok (.istore_n 1, 1) := by decide +kernel
theorem d_R_init_213 : decode c_R_init 213 = .ok (.iload 4, 2) := by decide +kernel
theorem d_R_init_215 : decode c_R_init 215 = .ok (.istore_n 2, 1) := by decide +kernel
theorem d_R_init_216 : decode c_R_init 216 = .ok (.iinc 3 1, 3) := by decide +kernel
theorem d_R_init_219 : decode c_R_init 219 = .ok (.goto (-47), 3) := by decide +kernel
theorem d_R_init_222 : decode c_R_init 222 = .ok (.iconst 1, 1) := by decide +kernel
theorem d_R_init_223 : decode c_R_init 223 = .ok (.istore_n 3, 1) := by decide +kernel
theorem d_R_init_224 : decode c_R_init 224 = .ok (.iconst 0, 1) := by decide +kernel
theorem d_R_init_225 : decode c_R_init 225 = .ok (.istore 4, 2) := by decide +kernel
theorem d_R_init_227 : decode c_R_init 227 = .ok (.iload 4, 2) := by decide +kernel
theorem d_R_init_229 : decode c_R_init 229 = .ok (.sipush 168, 3) := by decide +kernel
theorem d_R_init_232 : decode c_R_init 232 = .ok (.if_icmp .ge 49, 3) := by decide +kernel
theorem d_R_init_235 : decode c_R_init 235 = .ok (.aload_n 0, 1) := by decide +kernel
theorem d_R_init_236 : decode c_R_init 236 = .ok (.getfield 13, 3) := by decide +kernel
theorem d_R_init_239 : decode c_R_init 239 = .ok (.iload 4, 2) := by decide +kernel
theorem d_R_init_241 : decode c_R_init 241 = .ok (.iload_n 3, 1) := by decide +kernel
theorem d_R_init_242 : decode c_R_init 242 = .ok (.iconst 2, 1) := by decide +kernel
theorem d_R_init_243 : decode c_R_init 243 = .ok (.irem, 1) := by decide +kernel
theorem d_R_init_244 : decode c_R_init 244 = .ok (.iconst 1, 1) := by decide +kernel
theorem d_R_init_245 : decode c_R_init 245 = .ok (.if_icmp .ne 7, 3) := by decide +kernel
theorem d_R_init_248 : decode c_R_init 248 = .ok (.iconst 1, 1) := by decide +kernel
theorem d_R_init_249 : decode c_R_init 249 = .ok (.goto 4, 3) := by decide +kernel
theorem d_R_init_252 : decode c_R_init 252 = .ok (.iconst 0, 1) := by decide +kernel
theorem d_R_init_253 : decode c_R_init 253 = .ok (.bastore, 1) := by decide +kernel
theorem d_R_init_254 : decode c_R_init 254 = .ok (.iconst 2, 1) := by decide +kernel
theorem d_R_init_255 : decode c_R_init 255 = .ok (.iload_n 3, 1) := by decide +kernel
theorem d_R_init_256 : decode c_R_init 256 = .ok (.imul, 1) := by decide +kernel
theorem d_R_init_257 : decode c_R_init 257 = .ok (.istore_n 3, 1) := by decide +kernel
theorem d_R_init_258 : decode c_R_init 258 = .ok (.iload_n 3, 1) := by decide +kernel
theorem d_R_init_259 : decode c_R_init 259 = .ok (.sipush 255, 3) := by decide +kernel
theorem d_R_init_262 : decode c_R_init 262 = .ok (.if_icmp .le 11, 3) := by decide +kernel
theorem d_R_init_265 : decode c_R_init 265 = .ok (.iload_n 3, 1) := by decide +kernel
theorem d_R_init_266 : decode c_R_init 266 = .ok (.sipush 369, 3) := by decide +kernel
theorem d_R_init_269 : decode c_R_init 269 = .ok (.ixor, 1) := by decide +kernel
theorem d_R_init_270 : decode c_R_init 270 = .ok (.goto 4, 3) := by decide +kernel
theorem d_R_init_273 : decode c_R_init 273 = .ok (.iload_n 3, 1) := by decide +kernel
theorem d_R_init_274 : decode c_R_init 274 = .ok (.istore_n 3, 1) := by decide +kernel
theorem d_R_init_275 : decode c_R_init 275 = .ok (.iinc 4 1, 3) := by decide +kernel
theorem d_R_init_278 : decode c_R_init 278 = .ok (.goto (-51), 3) := by decide +kernel
theorem d_R_init_281 : decode c_R_init 281 = .ok (.return_, 1) := by decide +kernel
theorem d_R_thrown_0 : decode c_R_thrown 0 = .ok (.aload_n 0, 1) := by decide +kernel
theorem d_R_thrown_1 : decode c_R_thrown 1 = .ok (.getfield 72, 3) := by decide +kernel
theorem d_R_thrown_4 : decode c_R_thrown 4 = .ok (.ireturn, 1) := by decide +kernel
theorem d_R_make_0 : decode c_R_make 0 = .ok (.aload_n 0, 1) := by decide +kernel
theorem d_R_make_1 : decode c_R_make 1 = .ok (.iload_n 1, 1) := by decide +kernel
theorem d_R_make_2 : decode c_R_make 2 = .ok (.invokestatic 112, 3) := by decide +kernel
theorem d_R_make_5 : decode c_R_make 5 = .ok (.ifCond .eq 7, 3) := by decide +kernel
theorem d_R_make_8 : decode c_R_make 8 = .ok (.iconst 0, 1) := by decide +kernel
theorem d_R_make_9 : decode c_R_make 9 = .ok (.goto 4, 3) := by decide +kernel
theorem d_R_make_12 : decode c_R_make 12 = .ok (.iconst 1, 1) := by decide +kernel
theorem d_R_make_13 : decode c_R_make 13 = .ok (.putfield 72, 3) := by decide +kernel
theorem d_R_make_16 : decode c_R_make 16 = .ok (.aload_n 0, 1) := by decide +kernel
theorem d_R_make_17 : decode c_R_make 17 = .ok (.getfield 72, 3) := by decide +kernel
theorem d_R_make_20 : decode c_R_make 20 = .ok (.ifCond .le 5, 3) := by decide +kernel
theorem d_R_make_23 : decode c_R_make 23 = .ok (.lconst 0, 1) := by decide +kernel
theorem d_R_make_24 : decode c_R_make 24 = .ok (.lreturn, 1) := by decide +kernel
theorem d_R_make_25 : decode c_R_make 25 = .ok (.aload_n 0, 1) := by decide +kernel
theorem d_R_make_26 : decode c_R_make 26 = .ok (.lload 6, 2) := by decide +kernel
theorem d_R_make_28 : decode c_R_make 28 = .ok (.bipush 8, 2) := by decide +kernel
theorem d_R_make_30 : decode c_R_make 30 = .ok (.invokevirtual 87, 3) := by decide +kernel
theorem d_R_make_33 : decode c_R_make 33 = .ok (.aload_n 0, 1) := by decide +kernel
theorem d_R_make_34 : decode c_R_make 34 = .ok (.bipush 8, 2) := by decide +kernel
theorem d_R_make_36 : decode c_R_make 36 = .ok (.invokevirtual 109, 3) := by decide +kernel
theorem d_R_make_39 : decode c_R_make 39 = .ok (.aload_n 0, 1) := by decide +kernel
theorem d_R_make_40 : decode c_R_make 40 = .ok (.getfield 36, 3) := by decide +kernel
theorem d_R_make_43 : decode c_R_make 43 = .ok (.iload_n 1, 1) := by decide +kernel
theorem d_R_make_44 : decode c_R_make 44 = .ok (.aload_n 0, 1) := by decide +kernel
theorem d_R_make_45 : decode c_R_make 45 = .ok (.iconst 0, 1) := by decide +kernel
theorem d_R_make_46 : decode c_R_make 46 = .ok (.invokevirtual 116, 3) := by decide +kernel
theorem d_R_make_49 : decode c_R_make 49 = .ok (.lastore, 1) := by decide +kernel
theorem d_R_make_50 : decode c_R_make 50 = .ok (.aload_n 0, 1) := by decide +kernel
theorem d_R_make_51 : decode c_R_make 51 = .ok (.getfield 39, 3) := by decide +kernel
theorem d_R_make_54 : decode c_R_make 54 = .ok (.iload_n 1, 1) := by decide +kernel
theorem d_R_make_55 : decode c_R_make 55 = .ok (.lload_n 2, 1) := by decide +kernel
theorem d_R_make_56 : decode c_R_make 56 = .ok (.lastore, 1) := by decide +kernel
theorem d_R_make_57 : decode c_R_make 57 = .ok (.aload_n 0, 1) := by decide +kernel
theorem d_R_make_58 : decode c_R_make 58 = .ok (.ldc2_w 120, 3) := by decide +kernel
theorem d_R_make_61 : decode c_R_make 61 = .ok (.iconst 1, 1) := by decide +kernel
theorem d_R_make_62 : decode c_R_make 62 = .ok (.invokevirtual 87, 3) := by decide +kernel
theorem d_R_make_65 : decode c_R_make 65 = .ok (.aload_n 0, 1) := by decide +kernel
theorem d_R_make_66 : decode c_R_make 66 = .ok (.lload 4, 2) := by decide +kernel
theorem d_R_make_68 : decode c_R_make 68 = .ok (.bipush 8, 2) := by decide +kernel
theorem d_R_make_70 : decode c_R_make 70 = .ok (.invokevirtual 87, 3) := by decide +kernel
theorem d_R_make_73 : decode c_R_make 73 = .ok (.aload_n 0, 1) := by decide +kernel
theorem d_R_make_74 : decode c_R_make 74 = .ok (.sipush 128, 3) := by decide +kernel
theorem d_R_make_77 : decode c_R_make 77 = .ok (.invokevirtual 109, 3) := by decide +kernel
theorem d_R_make_80 : decode c_R_make 80 = .ok (.iconst 0, 1) := by decide +kernel
theorem d_R_make_81 : decode c_R_make 81 = .ok (.istore 8, 2) := by decide +kernel
theorem d_R_make_83 : decode c_R_make 83 = .ok (.iload 8, 2) := by decide +kernel
theorem d_R_make_85 : decode c_R_make 85 = .ok (.bipush 32, 2) := by decide +kernel
theorem d_R_make_87 : decode c_R_make 87 = .ok (.if_icmp .ge 48, 3) := by decide +kernel
theorem d_R_make_90 : decode c_R_make 90 = .ok (.aload_n 0, 1) := by decide +kernel
theorem d_R_make_91 : decode c_R_make 91 = .ok (.getfield 48, 3) := by decide +kernel
theorem d_R_make_94 : decode c_R_make 94 = .ok (.bipush 32, 2) := by decide +kernel
theorem d_R_make_96 : decode c_R_make 96 = .ok (.iload_n 1, 1) := by decide +kernel
theorem d_R_make_97 : decode c_R_make 97 = .ok (.imul, 1) := by decide +kernel
theorem d_R_make_98 : decode c_R_make 98 = .ok (.iload 8, 2) := by decide +kernel
theorem d_R_make_100 : decode c_R_make 100 = .ok (.iadd, 1) := by decide +kernel
theorem d_R_make_101 : decode c_R_make 101 = .ok (.aload_n 0, 1) := by decide +kernel
theorem d_R_make_102 : decode c_R_make 102 = .ok (.iload 8, 2) := by decide +kernel
theorem d_R_make_104 : decode c_R_make 104 = .ok (.invokevirtual 122, 3) := by decide +kernel
theorem d_R_make_107 : decode c_R_make 107 = .ok (.iastore, 1) := by decide +kernel
theorem d_R_make_108 : decode c_R_make 108 = .ok (.aload_n 0, 1) := by decide +kernel
theorem d_R_make_109 : decode c_R_make 109 = .ok (.getfield 54, 3) := by decide +kernel
theorem d_R_make_112 : decode c_R_make 112 = .ok (.bipush 32, 2) := by decide +kernel
theorem d_R_make_114 : decode c_R_make 114 = .ok (.iload_n 1, 1) := by decide +kernel
theorem d_R_make_115 : decode c_R_make 115 = .ok (.imul, 1) := by decide +kernel
theorem d_R_make_116 : decode c_R_make 116 = .ok (.iload 8, 2) := by decide +kernel
theorem d_R_make_118 : decode c_R_make 118 = .ok (.iadd, 1) := by decide +kernel
theorem d_R_make_119 : decode c_R_make 119 = .ok (.aload_n 0, 1) := by decide +kernel
theorem d_R_make_120 : decode c_R_make 120 = .ok (.bipush 32, 2) := by decide +kernel
theorem d_R_make_122 : decode c_R_make 122 = .ok (.iload 8, 2) := by decide +kernel
theorem d_R_make_124 : decode c_R_make 124 = .ok (.iadd, 1) := by decide +kernel
theorem d_R_make_125 : decode c_R_make 125 = .ok (.invokevirtual 122, 3) := by decide +kernel
theorem d_R_make_128 : decode c_R_make 128 = .ok (.iastore, 1) := by decide +kernel
theorem d_R_make_129 : decode c_R_make 129 = .ok (.iinc 8 1, 3) := by decide +kernel
theorem d_R_make_132 : decode c_R_make 132 = .ok (.goto (-49), 3) := by decide +kernel
theorem d_R_make_135 : decode c_R_make 135 = .ok (.aload_n 0, 1) := by decide +kernel
theorem d_R_make_136 : decode c_R_make 136 = .ok (.iload_n 1, 1) := by decide +kernel
theorem d_R_make_137 : decode c_R_make 137 = .ok (.invokevirtual 125, 3) := by decide +kernel
theorem d_R_make_140 : decode c_R_make 140 = .ok (.iconst 0, 1) := by decide +kernel
theorem d_R_make_141 : decode c_R_make 141 = .ok (.istore 8, 2) := by decide +kernel
theorem d_R_make_143 : decode c_R_make 143 = .ok (.iload 8, 2) := by decide +kernel
theorem d_R_make_145 : decode c_R_make 145 = .ok (.bipush 32, 2) := by decide +kernel
theorem d_R_make_147 : decode c_R_make 147 = .ok (.if_icmp .ge 101, 3) := by decide +kernel
theorem d_R_make_150 : decode c_R_make 150 = .ok (.aload_n 0, 1) := by decide +kernel
theorem d_R_make_151 : decode c_R_make 151 = .ok (.getfield 54, 3) := by decide +kernel
theorem d_R_make_154 : decode c_R_make 154 = .ok (.bipush 32, 2) := by decide +kernel
theorem d_R_make_156 : decode c_R_make 156 = .ok (.iload_n 1, 1) := by decide +kernel
theorem d_R_make_157 : decode c_R_make 157 = .ok (.imul, 1) := by decide +kernel
theorem d_R_make_158 : decode c_R_make 158 = .ok (.iload 8, 2) := by decide +kernel
theorem d_R_make_160 : decode c_R_make 160 = .ok (.iadd, 1) := by decide +kernel
theorem d_R_make_161 : decode c_R_make 161 = .ok (.iaload, 1) := by decide +kernel
theorem d_R_make_162 : decode c_R_make 162 = .ok (.istore 9, 2) := by decide +kernel
theorem d_R_make_164 : decode c_R_make 164 = .ok (.iconst 0, 1) := by decide +kernel
theorem d_R_make_165 : decode c_R_make 165 = .ok (.istore 10, 2) := by decide +kernel
theorem d_R_make_167 : decode c_R_make 167 = .ok (.iload 10, 2) := by decide +kernel
theorem d_R_make_169 : decode c_R_make 169 = .ok (.bipush 8, 2) := by decide +kernel
theorem d_R_make_171 : decode c_R_make 171 = .ok (.if_icmp .ge 57, 3) := by decide +kernel
theorem d_R_make_174 : decode c_R_make 174 = .ok (.iload 9, 2) := by decide +kernel
theorem d_R_make_176 : decode c_R_make 176 = .ok (.aload_n 0, 1) := by decide +kernel
theorem d_R_make_177 : decode c_R_make 177 = .ok (.getfield 45, 3) := by decide +kernel
theorem d_R_make_180 : decode c_R_make 180 = .ok (.bipush 64, 2) := by decide +kernel
theorem d_R_make_182 : decode c_R_make 182 = .ok (.iload_n 1, 1) := by decide +kernel
theorem d_R_make_183 : decode c_R_make 183 = .ok (.imul, 1) := by decide +kernel
theorem d_R_make_184 : decode c_R_make 184 = .ok (.bipush 8, 2) := by decide +kernel
theorem d_R_make_186 : decode c_R_make 186 = .ok (.iload 8, 2) := by decide +kernel
theorem d_R_make_188 : decode c_R_make 188 = .ok (.iconst 4, 1) := by decide +kernel
theorem d_R_make_189 : decode c_R_make 189 = .ok (.idiv, 1) := by decide +kernel
theorem d_R_make_190 : decode c_R_make 190 = .ok (.imul, 1) := by decide +kernel
theorem d_R_make_191 : decode c_R_make 191 = .ok (.iadd, 1) := by decide +kernel
theorem d_R_make_192 : decode c_R_make 192 = .ok (.iload 10, 2) := by decide +kernel
theorem d_R_make_194 : decode c_R_make 194 = .ok (.iadd, 1) := by decide +kernel
theorem d_R_make_195 : decode c_R_make 195 = .ok (.iaload, 1) := by decide +kernel
theorem d_R_make_196 : decode c_R_make 196 = .ok (.aload_n 0, 1) := by decide +kernel
theorem d_R_make_197 : decode c_R_make 197 = .ok (.getfield 48, 3) := by decide +kernel
theorem d_R_make_200 : decode c_R_make 200 = .ok (.bipush 32, 2) := by decide +kernel
theorem d_R_make_202 : decode c_R_make 202 = .ok (.iload_n 1, 1) := by decide +kernel
theorem d_R_make_203 : decode c_R_make 203 = .ok (.imul, 1) := by decide +kernel
theorem d_R_make_204 : decode c_R_make 204 = .ok (.iconst 4, 1) := by decide +kernel
theorem d_R_make_205 : decode c_R_make 205 = .ok (.iload 10, 2) := by decide +kernel
theorem d_R_make_207 : decode c_R_make 207 = .ok (.imul, 1) := by decide +kernel
theorem d_R_make_208 : decode c_R_make 208 = .ok (.iadd, 1) := by decide +kernel
theorem d_R_make_209 : decode c_R_make 209 = .ok (.iload 8, 2) := by decide +kernel
theorem d_R_make_211 : decode c_R_make 211 = .ok (.iconst 4, 1) := by decide +kernel
theorem d_R_make_212 : decode c_R_make 212 = .ok (.irem, 1) := by decide +kernel
theorem d_R_make_213 : decode c_R_make 213 = .ok (.iadd, 1) := by decide +kernel
theorem d_R_make_214 : decode c_R_make 214 = .ok (.iaload, 1) := by decide +kernel
theorem d_R_make_215 : decode c_R_make 215 = .ok (.imul, 1) := by decide +kernel
theorem d_R_make_216 : decode c_R_make 216 = .ok (.iadd, 1) := by decide +kernel
theorem d_R_make_217 : decode c_R_make 217 = .ok (.ldc 104, 2) := by decide +kernel
theorem d_R_make_219 : decode c_R_make 219 = .ok (.irem, 1) := by decide +kernel
theorem d_R_make_220 : decode c_R_make 220 = .ok (.istore 9, 2) := by decide +kernel
theorem d_R_make_222 : decode c_R_make 222 = .ok (.iinc 10 1, 3) := by decide +kernel
theorem d_R_make_225 : decode c_R_make 225 = .ok (.goto (-58), 3) := by decide +kernel
theorem d_R_make_228 : decode c_R_make 228 = .ok (.aload_n 0, 1) := by decide +kernel
theorem d_R_make_229 : decode c_R_make 229 = .ok (.getfield 51, 3) := by decide +kernel
theorem d_R_make_232 : decode c_R_make 232 = .ok (.bipush 32, 2) := by decide +kernel
theorem d_R_make_234 : decode c_R_make 234 = .ok (.iload_n 1, 1) := by decide +kernel
theorem d_R_make_235 : decode c_R_make 235 = .ok (.imul, 1) := by decide +kernel
theorem d_R_make_236 : decode c_R_make 236 = .ok (.iload 8, 2) := by decide +kernel
theorem d_R_make_238 : decode c_R_make 238 = .ok (.iadd, 1) := by decide +kernel
theorem d_R_make_239 : decode c_R_make 239 = .ok (.iload 9, 2) := by decide +kernel
theorem d_R_make_241 : decode c_R_make 241 = .ok (.iastore, 1) := by decide +kernel
theorem d_R_make_242 : decode c_R_make 242 = .ok (.iinc 8 1, 3) := by decide +kernel
theorem d_R_make_245 : decode c_R_make 245 = .ok (.goto (-102), 3) := by decide +kernel
theorem d_R_make_248 : decode c_R_make 248 = .ok (.aload_n 0, 1) := by decide +kernel
theorem d_R_make_249 : decode c_R_make 249 = .ok (.iload_n 1, 1) := by decide +kernel
theorem d_R_make_250 : decode c_R_make 250 = .ok (.invokevirtual 128, 3) := by decide +kernel
theorem d_R_make_253 : decode c_R_make 253 = .ok (.aload_n 0, 1) := by decide +kernel
theorem d_R_make_254 : decode c_R_make 254 = .ok (.bipush 8, 2) := by decide +kernel
theorem d_R_make_256 : decode c_R_make 256 = .ok (.invokevirtual 109, 3) := by decide +kernel
theorem d_R_make_259 : decode c_R_make 259 = .ok (.aload_n 0, 1) := by decide +kernel
theorem d_R_make_260 : decode c_R_make 260 = .ok (.getfield 42, 3) := by decide +kernel
theorem d_R_make_263 : decode c_R_make 263 = .ok (.iload_n 1, 1) := by decide +kernel
theorem d_R_make_264 : decode c_R_make 264 = .ok (.aload_n 0, 1) := by decide +kernel
theorem d_R_make_265 : decode c_R_make 265 = .ok (.iconst 0, 1) := by decide +kernel
theorem d_R_make_266 : decode c_R_make 266 = .ok (.invokevirtual 116, 3) := by decide +kernel
theorem d_R_make_269 : decode c_R_make 269 = .ok (.lastore, 1) := by decide +kernel
theorem d_R_make_270 : decode c_R_make 270 = .ok (.aload_n 0, 1) := by decide +kernel
theorem d_R_make_271 : decode c_R_make 271 = .ok (.getfield 33, 3) := by decide +kernel
theorem d_R_make_274 : decode c_R_make 274 = .ok (.iload_n 1, 1) := by decide +kernel
theorem d_R_make_275 : decode c_R_make 275 = .ok (.iconst 1, 1) := by decide +kernel
theorem d_R_make_276 : decode c_R_make 276 = .ok (.bastore, 1) := by decide +kernel
theorem d_R_make_277 : decode c_R_make 277 = .ok (.aload_n 0, 1) := by decide +kernel
theorem d_R_make_278 : decode c_R_make 278 = .ok (.getfield 42, 3) := by decide +kernel
theorem d_R_make_281 : decode c_R_make 281 = .ok (.iload_n 1, 1) := by decide +kernel
theorem d_R_make_282 : decode c_R_make 282 = .ok (.laload, 1) := by decide +kernel
theorem d_R_make_283 : decode c_R_make 283 = .ok (.lreturn, 1) := by decide +kernel
theorem d_R_isPlace_0 : decode c_R_isPlace 0 = .ok (.iload_n 0, 1) := by decide +kernel
theorem d_R_isPlace_1 : decode c_R_isPlace 1 = .ok (.ifCond .lt 12, 3) := by decide +kernel
theorem d_R_isPlace_4 : decode c_R_isPlace 4 = .ok (.iload_n 0, 1) := by decide +kernel
theorem d_R_isPlace_5 : decode c_R_isPlace 5 = .ok (.iconst 4, 1) := by decide +kernel
theorem d_R_isPlace_6 : decode c_R_isPlace 6 = .ok (.if_icmp .ge 7, 3) := by decide +kernel
theorem d_R_isPlace_9 : decode c_R_isPlace 9 = .ok (.iconst 1, 1) := by decide +kernel
theorem d_R_isPlace_10 : decode c_R_isPlace 10 = .ok (.goto 4, 3) := by decide +kernel
theorem d_R_isPlace_13 : decode c_R_isPlace 13 = .ok (.iconst 0, 1) := by decide +kernel
theorem d_R_isPlace_14 : decode c_R_isPlace 14 = .ok (.ireturn, 1) := by decide +kernel
theorem d_R_addBytes_0 : decode c_R_addBytes 0 = .ok (.iconst 0, 1) := by decide +kernel
theorem d_R_addBytes_1 : decode c_R_addBytes 1 = .ok (.istore 4, 2) := by decide +kernel
theorem d_R_addBytes_3 : decode c_R_addBytes 3 = .ok (.iload 4, 2) := by decide +kernel
theorem d_R_addBytes_5 : decode c_R_addBytes 5 = .ok (.iload_n 3, 1) := by decide +kernel
theorem d_R_addBytes_6 : decode c_R_addBytes 6 = .ok (.if_icmp .ge 40, 3) := by decide +kernel
theorem d_R_addBytes_9 : decode c_R_addBytes 9 = .ok (.aload_n 0, 1) := by decide +kernel
theorem d_R_addBytes_10 : decode c_R_addBytes 10 = .ok (.getfield 27, 3) := by decide +kernel
theorem d_R_addBytes_13 : decode c_R_addBytes 13 = .ok (.aload_n 0, 1) := by decide +kernel
theorem d_R_addBytes_14 : decode c_R_addBytes 14 = .ok (.getfield 82, 3) := by decide +kernel
theorem d_R_addBytes_17 : decode c_R_addBytes 17 = .ok (.lload_n 1, 1) := by decide +kernel
theorem d_R_addBytes_18 : decode c_R_addBytes 18 = .ok (.bipush 8, 2) := by decide +kernel
theorem d_R_addBytes_20 : decode c_R_addBytes 20 = .ok (.iload 4, 2) := by decide +kernel
theorem d_R_addBytes_22 : decode c_R_addBytes 22 = .ok (.imul, 1) := by decide +kernel
theorem d_R_addBytes_23 : decode c_R_addBytes 23 = .ok (.lushr, 1) := by decide +kernel
theorem d_R_addBytes_24 : decode c_R_addBytes 24 = .ok (.ldc2_w 85, 3) := by decide +kernel
theorem d_R_addBytes_27 : decode c_R_addBytes 27 = .ok (.land, 1) := by decide +kernel
theorem d_R_addBytes_28 : decode c_R_addBytes 28 = .ok (.l2i, 1) := by decide +kernel
theorem d_R_addBytes_29 : decode c_R_addBytes 29 = .ok (.iastore, 1) := by decide +kernel
theorem d_R_addBytes_30 : decode c_R_addBytes 30 = .ok (.aload_n 0, 1) := by decide +kernel
theorem d_R_addBytes_31 : decode c_R_addBytes 31 = .ok (.dup, 1) := by decide +kernel
theorem d_R_addBytes_32 : decode c_R_addBytes 32 = .ok (.getfield 82, 3) := by decide +kernel
theorem d_R_addBytes_35 : decode c_R_addBytes 35 = .ok (.iconst 1, 1) := by decide +kernel
theorem d_R_addBytes_36 : decode c_R_addBytes 36 = .ok (.iadd, 1) := by decide +kernel
theorem d_R_addBytes_37 : decode c_R_addBytes 37 = .ok (.putfield 82, 3) := by decide +kernel
theorem d_R_addBytes_40 : decode c_R_addBytes 40 = .ok (.iinc 4 1, 3) := by decide +kernel
theorem d_R_addBytes_43 : decode c_R_addBytes 43 = .ok (.goto (-40), 3) := by decide +kernel
theorem d_R_addBytes_46 : decode c_R_addBytes 46 = .ok (.return_, 1) := by decide +kernel
theorem d_R_shakeRow_0 : decode c_R_shakeRow 0 = .ok (.aload_n 0, 1) := by decide +kernel
theorem d_R_shakeRow_1 : decode c_R_shakeRow 1 = .ok (.ldc2_w 91, 3) := by decide +kernel
theorem d_R_shakeRow_4 : decode c_R_shakeRow 4 = .ok (.iconst 1, 1) := by decide +kernel
theorem d_R_shakeRow_5 : decode c_R_shakeRow 5 = .ok (.invokevirtual 87, 3) := by decide +kernel
theorem d_R_shakeRow_8 : decode c_R_shakeRow 8 = .ok (.aload_n 0, 1) := by decide +kernel
theorem d_R_shakeRow_9 : decode c_R_shakeRow 9 = .ok (.getfield 82, 3) := by decide +kernel
theorem d_R_shakeRow_12 : decode c_R_shakeRow 12 = .ok (.sipush 168, 3) := by decide +kernel
theorem d_R_shakeRow_15 : decode c_R_shakeRow 15 = .ok (.if_icmp .ge 12, 3) := by decide +kernel
theorem d_R_shakeRow_18 : decode c_R_shakeRow 18 = .ok (.aload_n 0, 1) := by decide +kernel
theorem d_R_shakeRow_19 : decode c_R_shakeRow 19 = .ok (.lconst 0, 1) := by decide +kernel
theorem d_R_shakeRow_20 : decode c_R_shakeRow 20 = .ok (.iconst 1, 1) := by decide +kernel
theorem d_R_shakeRow_21 : decode c_R_shakeRow 21 = .ok (.invokevirtual 87, 3) := by decide +kernel
theorem d_R_shakeRow_24 : decode c_R_shakeRow 24 = .ok (.goto (-16), 3) := by decide +kernel
theorem d_R_shakeRow_27 : decode c_R_shakeRow 27 = .ok (.aload_n 0, 1) := by decide +kernel
theorem d_R_shakeRow_28 : decode c_R_shakeRow 28 = .ok (.getfield 27, 3) := by decide +kernel
theorem d_R_shakeRow_31 : decode c_R_shakeRow 31 = .ok (.sipush 167, 3) := by decide +kernel
theorem d_R_shakeRow_34 : decode c_R_shakeRow 34 = .ok (.aload_n 0, 1) := by decide +kernel
theorem d_R_shakeRow_35 : decode c_R_shakeRow 35 = .ok (.getfield 27, 3) := by decide +kernel
theorem d_R_shakeRow_38 : decode c_R_shakeRow 38 = .ok (.sipush 167, 3) := by decide +kernel
theorem d_R_shakeRow_41 : decode c_R_shakeRow 41 = .ok (.iaload, 1) := by decide +kernel
theorem d_R_shakeRow_42 : decode c_R_shakeRow 42 = .ok (.sipush 128, 3) := by decide +kernel
theorem d_R_shakeRow_45 : decode c_R_shakeRow 45 = .ok (.ixor, 1) := by decide +kernel
theorem d_R_shakeRow_46 : decode c_R_shakeRow 46 = .ok (.iastore, 1) := by decide +kernel
theorem d_R_shakeRow_47 : decode c_R_shakeRow 47 = .ok (.aload_n 0, 1) := by decide +kernel
theorem d_R_shakeRow_48 : decode c_R_shakeRow 48 = .ok (.iconst 0, 1) := by decide +kernel
theorem d_R_shakeRow_49 : decode c_R_shakeRow 49 = .ok (.putfield 82, 3) := by decide +kernel
theorem d_R_shakeRow_52 : decode c_R_shakeRow 52 = .ok (.iconst 0, 1) := by decide +kernel
theorem d_R_shakeRow_53 : decode c_R_shakeRow 53 = .ok (.istore_n 2, 1) := by decide +kernel
theorem d_R_shakeRow_54 : decode c_R_shakeRow 54 = .ok (.iload_n 2, 1) := by decide +kernel
theorem d_R_shakeRow_55 : decode c_R_shakeRow 55 = .ok (.bipush 25, 2) := by decide +kernel
theorem d_R_shakeRow_57 : decode c_R_shakeRow 57 = .ok (.if_icmp .ge 16, 3) := by decide +kernel
theorem d_R_shakeRow_60 : decode c_R_shakeRow 60 = .ok (.aload_n 0, 1) := by decide +kernel
theorem d_R_shakeRow_61 : decode c_R_shakeRow 61 = .ok (.getfield 17, 3) := by decide +kernel
theorem d_R_shakeRow_64 : decode c_R_shakeRow 64 = .ok (.iload_n 2, 1) := by decide +kernel
theorem d_R_shakeRow_65 : decode c_R_shakeRow 65 = .ok (.lconst 0, 1) := by decide +kernel
theorem d_R_shakeRow_66 : decode c_R_shakeRow 66 = .ok (.lastore, 1) := by decide +kernel
theorem d_R_shakeRow_67 : decode c_R_shakeRow 67 = .ok (.iinc 2 1, 3) := by decide +kernel
theorem d_R_shakeRow_70 : decode c_R_shakeRow 70 = .ok (.goto (-16), 3) := by decide +kernel
theorem d_R_shakeRow_73 : decode c_R_shakeRow 73 = .ok (.iconst 0, 1) := by decide +kernel
theorem d_R_shakeRow_74 : decode c_R_shakeRow 74 = .ok (.istore_n 2, 1) := by decide +kernel
theorem d_R_shakeRow_75 : decode c_R_shakeRow 75 = .ok (.iload_n 2, 1) := by decide +kernel
theorem d_R_shakeRow_76 : decode c_R_shakeRow 76 = .ok (.sipush 168, 3) := by decide +kernel
theorem d_R_shakeRow_79 : decode c_R_shakeRow 79 = .ok (.if_icmp .ge 43, 3) := by decide +kernel
theorem d_R_shakeRow_82 : decode c_R_shakeRow 82 = .ok (.aload_n 0, 1) := by decide +kernel
theorem d_R_shakeRow_83 : decode c_R_shakeRow 83 = .ok (.getfield 17, 3) := by decide +kernel
theorem d_R_shakeRow_86 : decode c_R_shakeRow 86 = .ok (.iload_n 2, 1) := by decide +kernel
theorem d_R_shakeRow_87 : decode c_R_shakeRow 87 = .ok (.bipush 8, 2) := by decide +kernel
theorem d_R_shakeRow_89 : decode c_R_shakeRow 89 = .ok (.idiv, 1) := by decide +kernel
theorem d_R_shakeRow_90 : decode c_R_shakeRow 90 = .ok (.aload_n 0, 1) := by decide +kernel
theorem d_R_shakeRow_91 : decode c_R_shakeRow 91 = .ok (.getfield 17, 3) := by decide +kernel
theorem d_R_shakeRow_94 : decode c_R_shakeRow 94 = .ok (.iload_n 2, 1) := by decide +kernel
theorem d_R_shakeRow_95 : decode c_R_shakeRow 95 = .ok (.bipush 8, 2) := by decide +kernel
theorem d_R_shakeRow_97 : decode c_R_shakeRow 97 = .ok (.idiv, 1) := by decide +kernel
theorem d_R_shakeRow_98 : decode c_R_shakeRow 98 = .ok (.laload, 1) := by decide +kernel
theorem d_R_shakeRow_99 : decode c_R_shakeRow 99 = .ok (.aload_n 0, 1) := by decide +kernel
theorem d_R_shakeRow_100 : decode c_R_shakeRow 100 = .ok (.getfield 27, 3) := by decide +kernel
theorem d_R_shakeRow_103 : decode c_R_shakeRow 103 = .ok (.iload_n 2, 1) := by decide +kernel
theorem d_R_shakeRow_104 : decode c_R_shakeRow 104 = .ok (.iaload, 1) := by decide +kernel
theorem d_R_shakeRow_105 : decode c_R_shakeRow 105 = .ok (.i2l, 1) := by decide +kernel
theorem d_R_shakeRow_106 : decode c_R_shakeRow 106 = .ok (.bipush 8, 2) := by decide +kernel
theorem d_R_shakeRow_108 : decode c_R_shakeRow 108 = .ok (.iload_n 2, 1) := by decide +kernel
theorem d_R_shakeRow_109 : decode c_R_shakeRow 109 = .ok (.bipush 8, 2) := by decide +kernel
theorem d_R_shakeRow_111 : decode c_R_shakeRow 111 = .ok (.irem, 1) := by decide +kernel
theorem d_R_shakeRow_112 : decode c_R_shakeRow 112 = .ok (.imul, 1) := by decide +kernel
theorem d_R_shakeRow_113 : decode c_R_shakeRow 113 = .ok (.lshl, 1) := by decide +kernel
theorem d_R_shakeRow_114 : decode c_R_shakeRow 114 = .ok (.lor, 1) := by decide +kernel
theorem d_R_shakeRow_115 : decode c_R_shakeRow 115 = .ok (.lastore, 1) := by decide +kernel
theorem d_R_shakeRow_116 : decode c_R_shakeRow 116 = .ok (.iinc 2 1, 3) := by decide +kernel
theorem d_R_shakeRow_119 : decode c_R_shakeRow 119 = .ok (.goto (-44), 3) := by decide +kernel
theorem d_R_shakeRow_122 : decode c_R_shakeRow 122 = .ok (.iconst 0, 1) := by decide +kernel
theorem d_R_shakeRow_123 : decode c_R_shakeRow 123 = .ok (.istore_n 2, 1) := by decide +kernel
theorem d_R_shakeRow_124 : decode c_R_shakeRow 124 = .ok (.iload_n 2, 1) := by decide +kernel
theorem d_R_shakeRow_125 : decode c_R_shakeRow 125 = .ok (.bipush 24, 2) := by decide +kernel
theorem d_R_shakeRow_127 : decode c_R_shakeRow 127 = .ok (.if_icmp .ge 14, 3) := by decide +kernel
theorem d_R_shakeRow_130 : decode c_R_shakeRow 130 = .ok (.aload_n 0, 1) := by decide +kernel
theorem d_R_shakeRow_131 : decode c_R_shakeRow 131 = .ok (.iload_n 2, 1) := by decide +kernel
theorem d_R_shakeRow_132 : decode c_R_shakeRow 132 = .ok (.invokevirtual 93, 3) := by decide +kernel
theorem d_R_shakeRow_135 : decode c_R_shakeRow 135 = .ok (.iinc 2 1, 3) := by decide +kernel
theorem d_R_shakeRow_138 : decode c_R_shakeRow 138 = .ok (.goto (-14), 3) := by decide +kernel
theorem d_R_shakeRow_141 : decode c_R_shakeRow 141 = .ok (.iconst 0, 1) := by decide +kernel
theorem d_R_shakeRow_142 : decode c_R_shakeRow 142 = .ok (.istore_n 2, 1) := by decide +kernel
theorem d_R_shakeRow_143 : decode c_R_shakeRow 143 = .ok (.iload_n 2, 1) := by decide +kernel
theorem d_R_shakeRow_144 : decode c_R_shakeRow 144 = .ok (.iload_n 1, 1) := by decide +kernel
theorem d_R_shakeRow_145 : decode c_R_shakeRow 145 = .ok (.if_icmp .ge 37, 3) := by decide +kernel
theorem d_R_shakeRow_148 : decode c_R_shakeRow 148 = .ok (.aload_n 0, 1) := by decide +kernel
theorem d_R_shakeRow_149 : decode c_R_shakeRow 149 = .ok (.getfield 30, 3) := by decide +kernel
theorem d_R_shakeRow_152 : decode c_R_shakeRow 152 = .ok (.iload_n 2, 1) := by decide +kernel
theorem d_R_shakeRow_153 : decode c_R_shakeRow 153 = .ok (.aload_n 0, 1) := by decide +kernel
theorem d_R_shakeRow_154 : decode c_R_shakeRow 154 = .ok (.getfield 17, 3) := by decide +kernel
theorem d_R_shakeRow_157 : decode c_R_shakeRow 157 = .ok (.iload_n 2, 1) := by decide +kernel
theorem d_R_shakeRow_158 : decode c_R_shakeRow 158 = .ok (.bipush 8, 2) := by decide +kernel
theorem d_R_shakeRow_160 : decode c_R_shakeRow 160 = .ok (.idiv, 1) := by decide +kernel
theorem d_R_shakeRow_161 : decode c_R_shakeRow 161 = .ok (.laload, 1) := by decide +kernel
theorem d_R_shakeRow_162 : decode c_R_shakeRow 162 = .ok (.bipush 8, 2) := by decide +kernel
theorem d_R_shakeRow_164 : decode c_R_shakeRow 164 = .ok (.iload_n 2, 1) := by decide +kernel
theorem d_R_shakeRow_165 : decode c_R_shakeRow 165 = .ok (.bipush 8, 2) := by decide +kernel
theorem d_R_shakeRow_167 : decode c_R_shakeRow 167 = .ok (.irem, 1) := by decide +kernel
theorem d_R_shakeRow_168 : decode c_R_shakeRow 168 = .ok (.imul, 1) := by decide +kernel
theorem d_R_shakeRow_169 : decode c_R_shakeRow 169 = .ok (.lushr, 1) := by decide +kernel
theorem d_R_shakeRow_170 : decode c_R_shakeRow 170 = .ok (.ldc2_w 85, 3) := by decide +kernel
theorem d_R_shakeRow_173 : decode c_R_shakeRow 173 = .ok (.land, 1) := by decide +kernel
theorem d_R_shakeRow_174 : decode c_R_shakeRow 174 = .ok (.l2i, 1) := by decide +kernel
theorem d_R_shakeRow_175 : decode c_R_shakeRow 175 = .ok (.iastore, 1) := by decide +kernel
theorem d_R_shakeRow_176 : decode c_R_shakeRow 176 = .ok (.iinc 2 1, 3) := by decide +kernel
theorem d_R_shakeRow_179 : decode c_R_shakeRow 179 = .ok (.goto (-36), 3) := by decide +kernel
theorem d_R_shakeRow_182 : decode c_R_shakeRow 182 = .ok (.return_, 1) := by decide +kernel
theorem d_R_round_0 : decode c_R_round 0 = .ok (.iconst 0, 1) := by decide +kernel
theorem d_R_round_1 : decode c_R_round 1 = .ok (.istore_n 2, 1) := by decide +kernel
theorem d_R_round_2 : decode c_R_round 2 = .ok (.iload_n 2, 1) := by decide +kernel
theorem d_R_round_3 : decode c_R_round 3 = .ok (.iconst 5, 1) := by decide +kernel
theorem d_R_round_4 : decode c_R_round 4 = .ok (.if_icmp .ge 60, 3) := by decide +kernel
theorem d_R_round_7 : decode c_R_round 7 = .ok (.aload_n 0, 1) := by decide +kernel
theorem d_R_round_8 : decode c_R_round 8 = .ok (.getfield 24, 3) := by decide +kernel
theorem d_R_round_11 : decode c_R_round 11 = .ok (.iload_n 2, 1) := by decide +kernel
theorem d_R_round_12 : decode c_R_round 12 = .ok (.aload_n 0, 1) := by decide +kernel
theorem d_R_round_13 : decode c_R_round 13 = .ok (.getfield 17, 3) := by decide +kernel
theorem d_R_round_16 : decode c_R_round 16 = .ok (.iload_n 2, 1) := by decide +kernel
theorem d_R_round_17 : decode c_R_round 17 = .ok (.laload, 1) := by decide +kernel
theorem d_R_round_18 : decode c_R_round 18 = .ok (.aload_n 0, 1) := by decide +kernel
theorem d_R_round_19 : decode c_R_round 19 = .ok (.getfield 17, 3) := by decide +kernel
theorem d_R_round_22 : decode c_R_round 22 = .ok (.iload_n 2, 1) := by decide +kernel
theorem d_R_round_23 : decode c_R_round 23 = .ok (.iconst 5, 1) := by decide +kernel
theorem d_R_round_24 : decode c_R_round 24 = .ok (.iadd, 1) := by decide +kernel
theorem d_R_round_25 : decode c_R_round 25 = .ok (.laload, 1) := by decide +kernel
theorem d_R_round_26 : decode c_R_round 26 = .ok (.lxor, 1) := by decide +kernel
theorem d_R_round_27 : decode c_R_round 27 = .ok (.aload_n 0, 1) := by decide +kernel
theorem d_R_round_28 : decode c_R_round 28 = .ok (.getfield 17, 3) := by decide +kernel
theorem d_R_round_31 : decode c_R_round 31 = .ok (.iload_n 2, 1) := by decide +kernel
theorem d_R_round_32 : decode c_R_round 32 = .ok (.bipush 10, 2) := by decide +kernel
theorem d_R_round_34 : decode c_R_round 34 = .ok (.iadd, 1) := by decide +kernel
theorem d_R_round_35 : decode c_R_round 35 = .ok (.laload, 1) := by decide +kernel
theorem d_R_round_36 : decode c_R_round 36 = .ok (.lxor, 1) := by decide +kernel
theorem d_R_round_37 : decode c_R_round 37 = .ok (.aload_n 0, 1) := by decide +kernel
theorem d_R_round_38 : decode c_R_round 38 = .ok (.getfield 17, 3) := by decide +kernel
theorem d_R_round_41 : decode c_R_round 41 = .ok (.iload_n 2, 1) := by decide +kernel
theorem d_R_round_42 : decode c_R_round 42 = .ok (.bipush 15, 2) := by decide +kernel
theorem d_R_round_44 : decode c_R_round 44 = .ok (.iadd, 1) := by decide +kernel
theorem d_R_round_45 : decode c_R_round 45 = .ok (.laload, 1) := by decide +kernel
theorem d_R_round_46 : decode c_R_round 46 = .ok (.lxor, 1) := by decide +kernel
theorem d_R_round_47 : decode c_R_round 47 = .ok (.aload_n 0, 1) := by decide +kernel
theorem d_R_round_48 : decode c_R_round 48 = .ok (.getfield 17, 3) := by decide +kernel
theorem d_R_round_51 : decode c_R_round 51 = .ok (.iload_n 2, 1) := by decide +kernel
theorem d_R_round_52 : decode c_R_round 52 = .ok (.bipush 20, 2) := by decide +kernel
theorem d_R_round_54 : decode c_R_round 54 = .ok (.iadd, 1) := by decide +kernel
theorem d_R_round_55 : decode c_R_round 55 = .ok (.laload, 1) := by decide +kernel
theorem d_R_round_56 : decode c_R_round 56 = .ok (.lxor, 1) := by decide +kernel
theorem d_R_round_57 : decode c_R_round 57 = .ok (.lastore, 1) := by decide +kernel
theorem d_R_round_58 : decode c_R_round 58 = .ok (.iinc 2 1, 3) := by decide +kernel
theorem d_R_round_61 : decode c_R_round 61 = .ok (.goto (-59), 3) := by decide +kernel
theorem d_R_round_64 : decode c_R_round 64 = .ok (.iconst 0, 1) := by decide +kernel
theorem d_R_round_65 : decode c_R_round 65 = .ok (.istore_n 2, 1) := by decide +kernel
theorem d_R_round_66 : decode c_R_round 66 = .ok (.iload_n 2, 1) := by decide +kernel
theorem d_R_round_67 : decode c_R_round 67 = .ok (.bipush 25, 2) := by decide +kernel
theorem d_R_round_69 : decode c_R_round 69 = .ok (.if_icmp .ge 83, 3) := by decide +kernel
theorem d_R_round_72 : decode c_R_round 72 = .ok (.aload_n 0, 1) := by decide +kernel
theorem d_R_round_73 : decode c_R_round 73 = .ok (.getfield 17, 3) := by decide +kernel
theorem d_R_round_76 : decode c_R_round 76 = .ok (.iload_n 2, 1) := by decide +kernel
theorem d_R_round_77 : decode c_R_round 77 = .ok (.laload, 1) := by decide +kernel
theorem d_R_round_78 : decode c_R_round 78 = .ok (.aload_n 0, 1) := by decide +kernel
theorem d_R_round_79 : decode c_R_round 79 = .ok (.getfield 24, 3) := by decide +kernel
theorem d_R_round_82 : decode c_R_round 82 = .ok (.iload_n 2, 1) := by decide +kernel
theorem d_R_round_83 : decode c_R_round 83 = .ok (.iconst 4, 1) := by decide +kernel
theorem d_R_round_84 : decode c_R_round 84 = .ok (.iadd, 1) := by decide +kernel
theorem d_R_round_85 : decode c_R_round 85 = .ok (.iconst 5, 1) := by decide +kernel
theorem d_R_round_86 : decode c_R_round 86 = .ok (.irem, 1) := by decide +kernel
theorem d_R_round_87 : decode c_R_round 87 = .ok (.laload, 1) := by decide +kernel
theorem d_R_round_88 : decode c_R_round 88 = .ok (.lxor, 1) := by decide +kernel
theorem d_R_round_89 : decode c_R_round 89 = .ok (.aload_n 0, 1) := by decide +kernel
theorem d_R_round_90 : decode c_R_round 90 = .ok (.getfield 24, 3) := by decide +kernel
theorem d_R_round_93 : decode c_R_round 93 = .ok (.iload_n 2, 1) := by decide +kernel
theorem d_R_round_94 : decode c_R_round 94 = .ok (.iconst 1, 1) := by decide +kernel
theorem d_R_round_95 : decode c_R_round 95 = .ok (.iadd, 1) := by decide +kernel
theorem d_R_round_96 : decode c_R_round 96 = .ok (.iconst 5, 1) := by decide +kernel
theorem d_R_round_97 : decode c_R_round 97 = .ok (.irem, 1) := by decide +kernel
theorem d_R_round_98 : decode c_R_round 98 = .ok (.laload, 1) := by decide +kernel
theorem d_R_round_99 : decode c_R_round 99 = .ok (.iconst 1, 1) := by decide +kernel
theorem d_R_round_100 : decode c_R_round 100 = .ok (.invokestatic 76, 3) := by decide +kernel
theorem d_R_round_103 : decode c_R_round 103 = .ok (.lxor, 1) := by decide +kernel
theorem d_R_round_104 : decode c_R_round 104 = .ok (.lstore_n 3, 1) := by decide +kernel
theorem d_R_round_105 : decode c_R_round 105 = .ok (.iload_n 2, 1) := by decide +kernel
theorem d_R_round_106 : decode c_R_round 106 = .ok (.iconst 5, 1) := by decide +kernel
theorem d_R_round_107 : decode c_R_round 107 = .ok (.irem, 1) := by decide +kernel
theorem d_R_round_108 : decode c_R_round 108 = .ok (.istore 5, 2) := by decide +kernel
theorem d_R_round_110 : decode c_R_round 110 = .ok (.iload_n 2, 1) := by decide +kernel
theorem d_R_round_111 : decode c_R_round 111 = .ok (.iconst 5, 1) := by decide +kernel
theorem d_R_round_112 : decode c_R_round 112 = .ok (.idiv, 1) := by decide +kernel
theorem d_R_round_113 : decode c_R_round 113 = .ok (.istore 6, 2) := by decide +kernel
theorem d_R_round_115 : decode c_R_round 115 = .ok (.aload_n 0, 1) := by decide +kernel
theorem d_R_round_116 : decode c_R_round 116 = .ok (.getfield 21, 3) := by decide +kernel
theorem d_R_round_119 : decode c_R_round 119 = .ok (.iload 6, 2) := by decide +kernel
theorem d_R_round_121 : decode c_R_round 121 = .ok (.iconst 5, 1) := by decide +kernel
theorem d_R_round_122 : decode c_R_round 122 = .ok (.iconst 2, 1) := by decide +kernel
theorem d_R_round_123 : decode c_R_round 123 = .ok (.iload 5, 2) := by decide +kernel
theorem d_R_round_125 : decode c_R_round 125 = .ok (.imul, 1) := by decide +kernel
theorem d_R_round_126 : decode c_R_round 126 = .ok (.iconst 3, 1) := by decide +kernel
theorem d_R_round_127 : decode c_R_round 127 = .ok (.iload 6, 2) := by decide +kernel
theorem d_R_round_129 : decode c_R_round 129 = .ok (.imul, 1) := by decide +kernel
theorem d_R_round_130 : decode c_R_round 130 = .ok (.iadd, 1) := by decide +kernel
theorem d_R_round_131 : decode c_R_round 131 = .ok (.iconst 5, 1) := by decide +kernel
theorem d_R_round_132 : decode c_R_round 132 = .ok (.irem, 1) := by decide +kernel
theorem d_R_round_133 : decode c_R_round 133 = .ok (.imul, 1) := by decide +kernel
theorem d_R_round_134 : decode c_R_round 134 = .ok (.iadd, 1) := by decide +kernel
theorem d_R_round_135 : decode c_R_round 135 = .ok (.lload_n 3, 1) := by decide +kernel
theorem d_R_round_136 : decode c_R_round 136 = .ok (.aload_n 0, 1) := by decide +kernel
theorem d_R_round_137 : decode c_R_round 137 = .ok (.getfield 7, 3) := by decide +kernel
theorem d_R_round_140 : decode c_R_round 140 = .ok (.iload_n 2, 1) := by decide +kernel
theorem d_R_round_141 : decode c_R_round 141 = .ok (.iaload, 1) := by decide +kernel
theorem d_R_round_142 : decode c_R_round 142 = .ok (.invokestatic 76, 3) := by decide +kernel
theorem d_R_round_145 : decode c_R_round 145 = .ok (.lastore, 1) := by decide +kernel
theorem d_R_round_146 : decode c_R_round 146 = .ok (.iinc 2 1, 3) := by decide +kernel
theorem d_R_round_149 : decode c_R_round 149 = .ok (.goto (-83), 3) := by decide +kernel
theorem d_R_round_152 : decode c_R_round 152 = .ok (.iconst 0, 1) := by decide +kernel
theorem d_R_round_153 : decode c_R_round 153 = .ok (.istore_n 2, 1) := by decide +kernel
theorem d_R_round_154 : decode c_R_round 154 = .ok (.iload_n 2, 1) := by decide +kernel
theorem d_R_round_155 : decode c_R_round 155 = .ok (.bipush 25, 2) := by decide +kernel
theorem d_R_round_157 : decode c_R_round 157 = .ok (.if_icmp .ge 57, 3) := by decide +kernel
theorem d_R_round_160 : decode c_R_round 160 = .ok (.iload_n 2, 1) := by decide +kernel
theorem d_R_round_161 : decode c_R_round 161 = .ok (.iconst 5, 1) := by decide +kernel
theorem d_R_round_162 : decode c_R_round 162 = .ok (.idiv, 1) := by decide +kernel
theorem d_R_round_163 : decode c_R_round 163 = .ok (.iconst 5, 1) := by decide +kernel
theorem d_R_round_164 : decode c_R_round 164 = .ok (.imul, 1) := by decide +kernel
theorem d_R_round_165 : decode c_R_round 165 = .ok (.istore_n 3, 1) := by decide +kernel
theorem d_R_round_166 : decode c_R_round 166 = .ok (.aload_n 0, 1) := by decide +kernel
theorem d_R_round_167 : decode c_R_round 167 = .ok (.getfield 17, 3) := by decide +kernel
theorem d_R_round_170 : decode c_R_round 170 = .ok (.iload_n 2, 1) := by decide +kernel
theorem d_R_round_171 : decode c_R_round 171 = .ok (.aload_n 0, 1) := by decide +kernel
theorem d_R_round_172 : decode c_R_round 172 = .ok (.getfield 21, 3) := by decide +kernel
theorem d_R_round_175 : decode c_R_round 175 = .ok (.iload_n 2, 1) := by decide +kernel
theorem d_R_round_176 : decode c_R_round 176 = .ok (.laload, 1) := by decide +kernel
theorem d_R_round_177 : decode c_R_round 177 = .ok (.aload_n 0, 1) := by decide +kernel
theorem d_R_round_178 : decode c_R_round 178 = .ok (.getfield 21, 3) := by decide +kernel
theorem d_R_round_181 : decode c_R_round 181 = .ok (.iload_n 3, 1) := by decide +kernel
theorem d_R_round_182 : decode c_R_round 182 = .ok (.iload_n 2, 1) := by decide +kernel
theorem d_R_round_183 : decode c_R_round 183 = .ok (.iconst 1, 1) := by decide +kernel
theorem d_R_round_184 : decode c_R_round 184 = .ok (.iadd, 1) := by decide +kernel
theorem d_R_round_185 : decode c_R_round 185 = .ok (.iconst 5, 1) := by decide +kernel
theorem d_R_round_186 : decode c_R_round 186 = .ok (.irem, 1) := by decide +kernel
theorem d_R_round_187 : decode c_R_round 187 = .ok (.iadd, 1) := by decide +kernel
theorem d_R_round_188 : decode c_R_round 188 = .ok (.laload, 1) := by decide +kernel
theorem d_R_round_189 : decode c_R_round 189 = .ok (.ldc2_w 80, 3) := by decide +kernel
theorem d_R_round_192 : decode c_R_round 192 = .ok (.lxor, 1) := by decide +kernel
theorem d_R_round_193 : decode c_R_round 193 = .ok (.aload_n 0, 1) := by decide +kernel
theorem d_R_round_194 : decode c_R_round 194 = .ok (.getfield 21, 3) := by decide +kernel
theorem d_R_round_197 : decode c_R_round 197 = .ok (.iload_n 3, 1) := by decide +kernel
theorem d_R_round_198 : decode c_R_round 198 = .ok (.iload_n 2, 1) := by decide +kernel
theorem d_R_round_199 : decode c_R_round 199 = .ok (.iconst 2, 1) := by decide +kernel
theorem d_R_round_200 : decode c_R_round 200 = .ok (.iadd, 1) := by decide +kernel
theorem d_R_round_201 : decode c_R_round 201 = .ok (.iconst 5, 1) := by decide +kernel
theorem d_R_round_202 : decode c_R_round 202 = .ok (.irem, 1) := by decide +kernel
theorem d_R_round_203 : decode c_R_round 203 = .ok (.iadd, 1) := by decide +kernel
theorem d_R_round_204 : decode c_R_round 204 = .ok (.laload, 1) := by decide +kernel
theorem d_R_round_205 : decode c_R_round 205 = .ok (.land, 1) := by decide +kernel
theorem d_R_round_206 : decode c_R_round 206 = .ok (.lxor, 1) := by decide +kernel
theorem d_R_round_207 : decode c_R_round 207 = .ok (.lastore, 1) := by decide +kernel
theorem d_R_round_208 : decode c_R_round 208 = .ok (.iinc 2 1, 3) := by decide +kernel
theorem d_R_round_211 : decode c_R_round 211 = .ok (.goto (-57), 3) := by decide +kernel
theorem d_R_round_214 : decode c_R_round 214 = .ok (.iconst 0, 1) := by decide +kernel
theorem d_R_round_215 : decode c_R_round 215 = .ok (.istore_n 2, 1) := by decide +kernel
theorem d_R_round_216 : decode c_R_round 216 = .ok (.iload_n 2, 1) := by decide +kernel
theorem d_R_round_217 : decode c_R_round 217 = .ok (.bipush 7, 2) := by decide +kernel
theorem d_R_round_219 : decode c_R_round 219 = .ok (.if_icmp .ge 52, 3) := by decide +kernel
theorem d_R_round_222 : decode c_R_round 222 = .ok (.aload_n 0, 1) := by decide +kernel
theorem d_R_round_223 : decode c_R_round 223 = .ok (.getfield 17, 3) := by decide +kernel
theorem d_R_round_226 : decode c_R_round 226 = .ok (.iconst 0, 1) := by decide +kernel
theorem d_R_round_227 : decode c_R_round 227 = .ok (.aload_n 0, 1) := by decide +kernel
theorem d_R_round_228 : decode c_R_round 228 = .ok (.getfield 13, 3) := by decide +kernel
theorem d_R_round_231 : decode c_R_round 231 = .ok (.bipush 7, 2) := by decide +kernel
theorem d_R_round_233 : decode c_R_round 233 = .ok (.iload_n 1, 1) := by decide +kernel
theorem d_R_round_234 : decode c_R_round 234 = .ok (.imul, 1) := by decide +kernel
theorem d_R_round_235 : decode c_R_round 235 = .ok (.iload_n 2, 1) := by decide +kernel
theorem d_R_round_236 : decode c_R_round 236 = .ok (.iadd, 1) := by decide +kernel
theorem d_R_round_237 : decode c_R_round 237 = .ok (.baload, 1) := by decide +kernel
theorem d_R_round_238 : decode c_R_round 238 = .ok (.ifCond .eq 20, 3) := by decide +kernel
theorem d_R_round_241 : decode c_R_round 241 = .ok (.aload_n 0, 1) := by decide +kernel
theorem d_R_round_242 : decode c_R_round 242 = .ok (.getfield 17, 3) := by decide +kernel
theorem d_R_round_245 : decode c_R_round 245 = .ok (.iconst 0, 1) := by decide +kernel
theorem d_R_round_246 : decode c_R_round 246 = .ok (.laload, 1) := by decide +kernel
theorem d_R_round_247 : decode c_R_round 247 = .ok (.lconst 1, 1) := by decide +kernel
theorem d_R_round_248 : decode c_R_round 248 = .ok (.iconst 1, 1) := by decide +kernel
theorem d_R_round_249 : decode c_R_round 249 = .ok (.iload_n 2, 1) := by decide +kernel
theorem d_R_round_250 : decode c_R_round 250 = .ok (.ishl, 1) := by decide +kernel
theorem d_R_round_251 : decode c_R_round 251 = .ok (.iconst 1, 1) := by decide +kernel
theorem d_R_round_252 : decode c_R_round 252 = .ok (.isub, 1) := by decide +kernel
theorem d_R_round_253 : decode c_R_round 253 = .ok (.lshl, 1) := by decide +kernel
theorem d_R_round_254 : decode c_R_round 254 = .ok (.lxor, 1) := by decide +kernel
theorem d_R_round_255 : decode c_R_round 255 = .ok (.goto 9, 3) := by decide +kernel
theorem d_R_round_258 : decode c_R_round 258 = .ok (.aload_n 0, 1) := by decide +kernel
theorem d_R_round_259 : decode c_R_round 259 = .ok (.getfield 17, 3) := by decide +kernel
theorem d_R_round_262 : decode c_R_round 262 = .ok (.iconst 0, 1) := by decide +kernel
theorem d_R_round_263 : decode c_R_round 263 = .ok (.laload, 1) := by decide +kernel
theorem d_R_round_264 : decode c_R_round 264 = .ok (.lastore, 1) := by decide +kernel
theorem d_R_round_265 : decode c_R_round 265 = .ok (.iinc 2 1, 3) := by decide +kernel
theorem d_R_round_268 : decode c_R_round 268 = .ok (.goto (-52), 3) := by decide +kernel
theorem d_R_round_271 : decode c_R_round 271 = .ok (.return_, 1) := by decide +kernel
theorem d_R_rot_0 : decode c_R_rot 0 = .ok (.iload_n 2, 1) := by decide +kernel
theorem d_R_rot_1 : decode c_R_rot 1 = .ok (.ifCond .ne 7, 3) := by decide +kernel
theorem d_R_rot_4 : decode c_R_rot 4 = .ok (.lload_n 0, 1) := by decide +kernel
theorem d_R_rot_5 : decode c_R_rot 5 = .ok (.goto 13, 3) := by decide +kernel
theorem d_R_rot_8 : decode c_R_rot 8 = .ok (.lload_n 0, 1) := by decide +kernel
theorem d_R_rot_9 : decode c_R_rot 9 = .ok (.iload_n 2, 1) := by decide +kernel
theorem d_R_rot_10 : decode c_R_rot 10 = .ok (.lshl, 1) := by decide +kernel
theorem d_R_rot_11 : decode c_R_rot 11 = .ok (.lload_n 0, 1) := by decide +kernel
theorem d_R_rot_12 : decode c_R_rot 12 = .ok (.bipush 64, 2) := by decide +kernel
theorem d_R_rot_14 : decode c_R_rot 14 = .ok (.iload_n 2, 1) := by decide +kernel
theorem d_R_rot_15 : decode c_R_rot 15 = .ok (.isub, 1) := by decide +kernel
theorem d_R_rot_16 : decode c_R_rot 16 = .ok (.lushr, 1) := by decide +kernel
theorem d_R_rot_17 : decode c_R_rot 17 = .ok (.lor, 1) := by decide +kernel
theorem d_R_rot_18 : decode c_R_rot 18 = .ok (.lreturn, 1) := by decide +kernel
theorem d_R_longAt_0 : decode c_R_longAt 0 = .ok (.lconst 0, 1) := by decide +kernel
theorem d_R_longAt_1 : decode c_R_longAt 1 = .ok (.lstore_n 2, 1) := by decide +kernel
theorem d_R_longAt_2 : decode c_R_longAt 2 = .ok (.bipush 7, 2) := by decide +kernel
theorem d_R_longAt_4 : decode c_R_longAt 4 = .ok (.istore 4, 2) := by decide +kernel
theorem d_R_longAt_6 : decode c_R_longAt 6 = .ok (.iload 4, 2) := by decide +kernel
theorem d_R_longAt_8 : decode c_R_longAt 8 = .ok (.ifCond .lt 25, 3) := by decide +kernel
theorem d_R_longAt_11 : decode c_R_longAt 11 = .ok (.lload_n 2, 1) := by decide +kernel
theorem d_R_longAt_12 : decode c_R_longAt 12 = .ok (.bipush 8, 2) := by decide +kernel
theorem d_R_longAt_14 : decode c_R_longAt 14 = .ok (.lshl, 1) := by decide +kernel
theorem d_R_longAt_15 : decode c_R_longAt 15 = .ok (.aload_n 0, 1) := by decide +kernel
theorem d_R_longAt_16 : decode c_R_longAt 16 = .ok (.getfield 30, 3) := by decide +kernel
theorem d_R_longAt_19 : decode c_R_longAt 19 = .ok (.iload_n 1, 1) := by decide +kernel
theorem d_R_longAt_20 : decode c_R_longAt 20 = .ok (.iload 4, 2) := by decide +kernel
theorem d_R_longAt_22 : decode c_R_longAt 22 = .ok (.iadd, 1) := by decide +kernel
theorem d_R_longAt_23 : decode c_R_longAt 23 = .ok (.iaload, 1) := by decide +kernel
theorem d_R_longAt_24 : decode c_R_longAt 24 = .ok (.i2l, 1) := by decide +kernel
theorem d_R_longAt_25 : decode c_R_longAt 25 = .ok (.lor, 1) := by decide +kernel
theorem d_R_longAt_26 : decode c_R_longAt 26 = .ok (.lstore_n 2, 1) := by decide +kernel
theorem d_R_longAt_27 : decode c_R_longAt 27 = .ok (.iinc 4 (-1), 3) := by decide +kernel
theorem d_R_longAt_30 : decode c_R_longAt 30 = .ok (.goto (-24), 3) := by decide +kernel
theorem d_R_longAt_33 : decode c_R_longAt 33 = .ok (.lload_n 2, 1) := by decide +kernel
theorem d_R_longAt_34 : decode c_R_longAt 34 = .ok (.lreturn, 1) := by decide +kernel
theorem d_R_sampleAt_0 : decode c_R_sampleAt 0 = .ok (.aload_n 0, 1) := by decide +kernel
theorem d_R_sampleAt_1 : decode c_R_sampleAt 1 = .ok (.iload_n 1, 1) := by decide +kernel
theorem d_R_sampleAt_2 : decode c_R_sampleAt 2 = .ok (.invokevirtual 97, 3) := by decide +kernel
theorem d_R_sampleAt_5 : decode c_R_sampleAt 5 = .ok (.istore_n 2, 1) := by decide +kernel
theorem d_R_sampleAt_6 : decode c_R_sampleAt 6 = .ok (.iconst 0, 1) := by decide +kernel
theorem d_R_sampleAt_7 : decode c_R_sampleAt 7 = .ok (.istore_n 3, 1) := by decide +kernel
theorem d_R_sampleAt_8 : decode c_R_sampleAt 8 = .ok (.iconst 0, 1) := by decide +kernel
theorem d_R_sampleAt_9 : decode c_R_sampleAt 9 = .ok (.istore 4, 2) := by decide +kernel
theorem d_R_sampleAt_11 : decode c_R_sampleAt 11 = .ok (.iload 4, 2) := by decide +kernel
theorem d_R_sampleAt_13 : decode c_R_sampleAt 13 = .ok (.bipush 12, 2) := by decide +kernel
theorem d_R_sampleAt_15 : decode c_R_sampleAt 15 = .ok (.if_icmp .ge 28, 3) := by decide +kernel
theorem d_R_sampleAt_18 : decode c_R_sampleAt 18 = .ok (.iload 4, 2) := by decide +kernel
theorem d_R_sampleAt_20 : decode c_R_sampleAt 20 = .ok (.invokestatic 101, 3) := by decide +kernel
theorem d_R_sampleAt_23 : decode c_R_sampleAt 23 = .ok (.iload_n 2, 1) := by decide +kernel
theorem d_R_sampleAt_24 : decode c_R_sampleAt 24 = .ok (.iconst 2, 1) := by decide +kernel
theorem d_R_sampleAt_25 : decode c_R_sampleAt 25 = .ok (.idiv, 1) := by decide +kernel
theorem d_R_sampleAt_26 : decode c_R_sampleAt 26 = .ok (.if_icmp .ge 9, 3) := by decide +kernel
theorem d_R_sampleAt_29 : decode c_R_sampleAt 29 = .ok (.iload_n 3, 1) := by decide +kernel
theorem d_R_sampleAt_30 : decode c_R_sampleAt 30 = .ok (.iconst 1, 1) := by decide +kernel
theorem d_R_sampleAt_31 : decode c_R_sampleAt 31 = .ok (.iadd, 1) := by decide +kernel
theorem d_R_sampleAt_32 : decode c_R_sampleAt 32 = .ok (.goto 4, 3) := by decide +kernel
theorem d_R_sampleAt_35 : decode c_R_sampleAt 35 = .ok (.iload_n 3, 1) := by decide +kernel
theorem d_R_sampleAt_36 : decode c_R_sampleAt 36 = .ok (.istore_n 3, 1) := by decide +kernel
theorem d_R_sampleAt_37 : decode c_R_sampleAt 37 = .ok (.iinc 4 1, 3) := by decide +kernel
theorem d_R_sampleAt_40 : decode c_R_sampleAt 40 = .ok (.goto (-29), 3) := by decide +kernel
theorem d_R_sampleAt_43 : decode c_R_sampleAt 43 = .ok (.iload_n 2, 1) := by decide +kernel
theorem d_R_sampleAt_44 : decode c_R_sampleAt 44 = .ok (.iconst 2, 1) := by decide +kernel
theorem d_R_sampleAt_45 : decode c_R_sampleAt 45 = .ok (.irem, 1) := by decide +kernel
theorem d_R_sampleAt_46 : decode c_R_sampleAt 46 = .ok (.iconst 1, 1) := by decide +kernel
theorem d_R_sampleAt_47 : decode c_R_sampleAt 47 = .ok (.if_icmp .ne 13, 3) := by decide +kernel
theorem d_R_sampleAt_50 : decode c_R_sampleAt 50 = .ok (.ldc 104, 2) := by decide +kernel
theorem d_R_sampleAt_52 : decode c_R_sampleAt 52 = .ok (.iload_n 3, 1) := by decide +kernel
theorem d_R_sampleAt_53 : decode c_R_sampleAt 53 = .ok (.isub, 1) := by decide +kernel
theorem d_R_sampleAt_54 : decode c_R_sampleAt 54 = .ok (.ldc 104, 2) := by decide +kernel
theorem d_R_sampleAt_56 : decode c_R_sampleAt 56 = .ok (.irem, 1) := by decide +kernel
theorem d_R_sampleAt_57 : decode c_R_sampleAt 57 = .ok (.goto 4, 3) := by decide +kernel
theorem d_R_sampleAt_60 : decode c_R_sampleAt 60 = .ok (.iload_n 3, 1) := by decide +kernel
theorem d_R_sampleAt_61 : decode c_R_sampleAt 61 = .ok (.ireturn, 1) := by decide +kernel
theorem d_R_pairAt_0 : decode c_R_pairAt 0 = .ok (.aload_n 0, 1) := by decide +kernel
theorem d_R_pairAt_1 : decode c_R_pairAt 1 = .ok (.getfield 30, 3) := by decide +kernel
theorem d_R_pairAt_4 : decode c_R_pairAt 4 = .ok (.iconst 2, 1) := by decide +kernel
theorem d_R_pairAt_5 : decode c_R_pairAt 5 = .ok (.iload_n 1, 1) := by decide +kernel
theorem d_R_pairAt_6 : decode c_R_pairAt 6 = .ok (.imul, 1) := by decide +kernel
theorem d_R_pairAt_7 : decode c_R_pairAt 7 = .ok (.iaload, 1) := by decide +kernel
theorem d_R_pairAt_8 : decode c_R_pairAt 8 = .ok (.sipush 256, 3) := by decide +kernel
theorem d_R_pairAt_11 : decode c_R_pairAt 11 = .ok (.aload_n 0, 1) := by decide +kernel
theorem d_R_pairAt_12 : decode c_R_pairAt 12 = .ok (.getfield 30, 3) := by decide +kernel
theorem d_R_pairAt_15 : decode c_R_pairAt 15 = .ok (.iconst 2, 1) := by decide +kernel
theorem d_R_pairAt_16 : decode c_R_pairAt 16 = .ok (.iload_n 1, 1) := by decide +kernel
theorem d_R_pairAt_17 : decode c_R_pairAt 17 = .ok (.imul, 1) := by decide +kernel
theorem d_R_pairAt_18 : decode c_R_pairAt 18 = .ok (.iconst 1, 1) := by decide +kernel
theorem d_R_pairAt_19 : decode c_R_pairAt 19 = .ok (.iadd, 1) := by decide +kernel
theorem d_R_pairAt_20 : decode c_R_pairAt 20 = .ok (.iaload, 1) := by decide +kernel
theorem d_R_pairAt_21 : decode c_R_pairAt 21 = .ok (.imul, 1) := by decide +kernel
theorem d_R_pairAt_22 : decode c_R_pairAt 22 = .ok (.iadd, 1) := by decide +kernel
theorem d_R_pairAt_23 : decode c_R_pairAt 23 = .ok (.ireturn, 1) := by decide +kernel
theorem d_R_step_0 : decode c_R_step 0 = .ok (.iload_n 0, 1) := by decide +kernel
theorem d_R_step_1 : decode c_R_step 1 = .ok (.tableswitch 103 0 10 #[59, 63, 67, 71, 75, 79, 83, 87, 91, 95, 99], 59) := by decide +kernel
theorem d_R_step_60 : decode c_R_step 60 = .ok (.sipush 4643, 3) := by decide +kernel
theorem d_R_step_63 : decode c_R_step 63 = .ok (.ireturn, 1) := by decide +kernel
theorem d_R_step_64 : decode c_R_step 64 = .ok (.sipush 13363, 3) := by decide +kernel
theorem d_R_step_67 : decode c_R_step 67 = .ok (.ireturn, 1) := by decide +kernel
theorem d_R_step_68 : decode c_R_step 68 = .ok (.sipush 20579, 3) := by decide +kernel
theorem d_R_step_71 : decode c_R_step 71 = .ok (.ireturn, 1) := by decide +kernel
theorem d_R_step_72 : decode c_R_step 72 = .ok (.sipush 25843, 3) := by decide +kernel
theorem d_R_step_75 : decode c_R_step 75 = .ok (.ireturn, 1) := by decide +kernel
theorem d_R_step_76 : decode c_R_step 76 = .ok (.sipush 29227, 3) := by decide +kernel
theorem d_R_step_79 : decode c_R_step 79 = .ok (.ireturn, 1) := by decide +kernel
theorem d_R_step_80 : decode c_R_step 80 = .ok (.sipush 31145, 3) := by decide +kernel
theorem d_R_step_83 : decode c_R_step 83 = .ok (.ireturn, 1) := by decide +kernel
theorem d_R_step_84 : decode c_R_step 84 = .ok (.sipush 32103, 3) := by decide +kernel
theorem d_R_step_87 : decode c_R_step 87 = .ok (.ireturn, 1) := by decide +kernel
theorem d_R_step_88 : decode c_R_step 88 = .ok (.sipush 32525, 3) := by decide +kernel
theorem d_R_step_91 : decode c_R_step 91 = .ok (.ireturn, 1) := by decide +kernel
theorem d_R_step_92 : decode c_R_step 92 = .ok (.sipush 32689, 3) := by decide +kernel
theorem d_R_step_95 : decode c_R_step 95 = .ok (.ireturn, 1) := by decide +kernel
theorem d_R_step_96 : decode c_R_step 96 = .ok (.sipush 32745, 3) := by decide +kernel
theorem d_R_step_99 : decode c_R_step 99 = .ok (.ireturn, 1) := by decide +kernel
theorem d_R_step_100 : decode c_R_step 100 = .ok (.sipush 32762, 3) := by decide +kernel
theorem d_R_step_103 : decode c_R_step 103 = .ok (.ireturn, 1) := by decide +kernel
theorem d_R_step_104 : decode c_R_step 104 = .ok (.sipush 32766, 3) := by decide +kernel
theorem d_R_step_107 : decode c_R_step 107 = .ok (.ireturn, 1) := by decide +kernel
theorem d_R_expand_0 : decode c_R_expand 0 = .ok (.iconst 0, 1) := by decide +kernel
theorem d_R_expand_1 : decode c_R_expand 1 = .ok (.istore_n 2, 1) := by decide +kernel
theorem d_R_expand_2 : decode c_R_expand 2 = .ok (.iload_n 2, 1) := by decide +kernel
theorem d_R_expand_3 : decode c_R_expand 3 = .ok (.bipush 8, 2) := by decide +kernel
theorem d_R_expand_5 : decode c_R_expand 5 = .ok (.if_icmp .ge 72, 3) := by decide +kernel
theorem d_R_expand_8 : decode c_R_expand 8 = .ok (.aload_n 0, 1) := by decide +kernel
theorem d_R_expand_9 : decode c_R_expand 9 = .ok (.iload_n 2, 1) := by decide +kernel
theorem d_R_expand_10 : decode c_R_expand 10 = .ok (.i2l, 1) := by decide +kernel
theorem d_R_expand_11 : decode c_R_expand 11 = .ok (.iconst 2, 1) := by decide +kernel
theorem d_R_expand_12 : decode c_R_expand 12 = .ok (.invokevirtual 87, 3) := by decide +kernel
theorem d_R_expand_15 : decode c_R_expand 15 = .ok (.aload_n 0, 1) := by decide +kernel
theorem d_R_expand_16 : decode c_R_expand 16 = .ok (.aload_n 0, 1) := by decide +kernel
theorem d_R_expand_17 : decode c_R_expand 17 = .ok (.getfield 36, 3) := by decide +kernel
theorem d_R_expand_20 : decode c_R_expand 20 = .ok (.iload_n 1, 1) := by decide +kernel
theorem d_R_expand_21 : decode c_R_expand 21 = .ok (.laload, 1) := by decide +kernel
theorem d_R_expand_22 : decode c_R_expand 22 = .ok (.bipush 8, 2) := by decide +kernel
theorem d_R_expand_24 : decode c_R_expand 24 = .ok (.invokevirtual 87, 3) := by decide +kernel
theorem d_R_expand_27 : decode c_R_expand 27 = .ok (.aload_n 0, 1) := by decide +kernel
theorem d_R_expand_28 : decode c_R_expand 28 = .ok (.bipush 16, 2) := by decide +kernel
theorem d_R_expand_30 : decode c_R_expand 30 = .ok (.invokevirtual 109, 3) := by decide +kernel
theorem d_R_expand_33 : decode c_R_expand 33 = .ok (.iconst 0, 1) := by decide +kernel
theorem d_R_expand_34 : decode c_R_expand 34 = .ok (.istore_n 3, 1) := by decide +kernel
theorem d_R_expand_35 : decode c_R_expand 35 = .ok (.iload_n 3, 1) := by decide +kernel
theorem d_R_expand_36 : decode c_R_expand 36 = .ok (.bipush 8, 2) := by decide +kernel
theorem d_R_expand_38 : decode c_R_expand 38 = .ok (.if_icmp .ge 33, 3) := by decide +kernel
theorem d_R_expand_41 : decode c_R_expand 41 = .ok (.aload_n 0, 1) := by decide +kernel
theorem d_R_expand_42 : decode c_R_expand 42 = .ok (.getfield 45, 3) := by decide +kernel
theorem d_R_expand_45 : decode c_R_expand 45 = .ok (.bipush 64, 2) := by decide +kernel
theorem d_R_expand_47 : decode c_R_expand 47 = .ok (.iload_n 1, 1) := by decide +kernel
theorem d_R_expand_48 : decode c_R_expand 48 = .ok (.imul, 1) := by decide +kernel
theorem d_R_expand_49 : decode c_R_expand 49 = .ok (.bipush 8, 2) := by decide +kernel
theorem d_R_expand_51 : decode c_R_expand 51 = .ok (.iload_n 2, 1) := by decide +kernel
theorem d_R_expand_52 : decode c_R_expand 52 = .ok (.imul, 1) := by decide +kernel
theorem d_R_expand_53 : decode c_R_expand 53 = .ok (.iadd, 1) := by decide +kernel
theorem d_R_expand_54 : decode c_R_expand 54 = .ok (.iload_n 3, 1) := by decide +kernel
theorem d_R_expand_55 : decode c_R_expand 55 = .ok (.iadd, 1) := by decide +kernel
theorem d_R_expand_56 : decode c_R_expand 56 = .ok (.aload_n 0, 1) := by decide +kernel
theorem d_R_expand_57 : decode c_R_expand 57 = .ok (.iload_n 3, 1) := by decide +kernel
theorem d_R_expand_58 : decode c_R_expand 58 = .ok (.invokevirtual 97, 3) := by decide +kernel
theorem d_R_expand_61 : decode c_R_expand 61 = .ok (.ldc 104, 2) := by decide +kernel
theorem d_R_expand_63 : decode c_R_expand 63 = .ok (.irem, 1) := by decide +kernel
theorem d_R_expand_64 : decode c_R_expand 64 = .ok (.iastore, 1) := by decide +kernel
theorem d_R_expand_65 : decode c_R_expand 65 = .ok (.iinc 3 1, 3) := by decide +kernel
theorem d_R_expand_68 : decode c_R_expand 68 = .ok (.goto (-33), 3) := by decide +kernel
theorem d_R_expand_71 : decode c_R_expand 71 = .ok (.iinc 2 1, 3) := by decide +kernel
theorem d_R_expand_74 : decode c_R_expand 74 = .ok (.goto (-72), 3) := by decide +kernel
theorem d_R_expand_77 : decode c_R_expand 77 = .ok (.return_, 1) := by decide +kernel
theorem d_R_addPublic_0 : decode c_R_addPublic 0 = .ok (.aload_n 0, 1) := by decide +kernel
theorem d_R_addPublic_1 : decode c_R_addPublic 1 = .ok (.aload_n 0, 1) := by decide +kernel
theorem d_R_addPublic_2 : decode c_R_addPublic 2 = .ok (.getfield 36, 3) := by decide +kernel
theorem d_R_addPublic_5 : decode c_R_addPublic 5 = .ok (.iload_n 1, 1) := by decide +kernel
theorem d_R_addPublic_6 : decode c_R_addPublic 6 = .ok (.laload, 1) := by decide +kernel
theorem d_R_addPublic_7 : decode c_R_addPublic 7 = .ok (.bipush 8, 2) := by decide +kernel
theorem d_R_addPublic_9 : decode c_R_addPublic 9 = .ok (.invokevirtual 87, 3) := by decide +kernel
theorem d_R_addPublic_12 : decode c_R_addPublic 12 = .ok (.iconst 0, 1) := by decide +kernel
theorem d_R_addPublic_13 : decode c_R_addPublic 13 = .ok (.istore_n 2, 1) := by decide +kernel
theorem d_R_addPublic_14 : decode c_R_addPublic 14 = .ok (.iload_n 2, 1) := by decide +kernel
theorem d_R_addPublic_15 : decode c_R_addPublic 15 = .ok (.bipush 60, 2) := by decide +kernel
theorem d_R_addPublic_17 : decode c_R_addPublic 17 = .ok (.if_icmp .ge 27, 3) := by decide +kernel
theorem d_R_addPublic_20 : decode c_R_addPublic 20 = .ok (.aload_n 0, 1) := by decide +kernel
theorem d_R_addPublic_21 : decode c_R_addPublic 21 = .ok (.aload_n 0, 1) := by decide +kernel
theorem d_R_addPublic_22 : decode c_R_addPublic 22 = .ok (.getfield 51, 3) := by decide +kernel
theorem d_R_addPublic_25 : decode c_R_addPublic 25 = .ok (.bipush 32, 2) := by decide +kernel
theorem d_R_addPublic_27 : decode c_R_addPublic 27 = .ok (.iload_n 1, 1) := by decide +kernel
theorem d_R_addPublic_28 : decode c_R_addPublic 28 = .ok (.imul, 1) := by decide +kernel
theorem d_R_addPublic_29 : decode c_R_addPublic 29 = .ok (.iload_n 2, 1) := by decide +kernel
theorem d_R_addPublic_30 : decode c_R_addPublic 30 = .ok (.invokestatic 105, 3) := by decide +kernel
theorem d_R_addPublic_33 : decode c_R_addPublic 33 = .ok (.i2l, 1) := by decide +kernel
theorem d_R_addPublic_34 : decode c_R_addPublic 34 = .ok (.iconst 1, 1) := by decide +kernel
theorem d_R_addPublic_35 : decode c_R_addPublic 35 = .ok (.invokevirtual 87, 3) := by decide +kernel
theorem d_R_addPublic_38 : decode c_R_addPublic 38 = .ok (.iinc 2 1, 3) := by decide +kernel
theorem d_R_addPublic_41 : decode c_R_addPublic 41 = .ok (.goto (-27), 3) := by decide +kernel
theorem d_R_addPublic_44 : decode c_R_addPublic 44 = .ok (.return_, 1) := by decide +kernel
theorem d_R_packedByte_0 : decode c_R_packedByte 0 = .ok (.iconst 0, 1) := by decide +kernel
theorem d_R_packedByte_1 : decode c_R_packedByte 1 = .ok (.istore_n 3, 1) := by decide +kernel
theorem d_R_packedByte_2 : decode c_R_packedByte 2 = .ok (.bipush 8, 2) := by decide +kernel
theorem d_R_packedByte_4 : decode c_R_packedByte 4 = .ok (.iload_n 2, 1) := by decide +kernel
theorem d_R_packedByte_5 : decode c_R_packedByte 5 = .ok (.imul, 1) := by decide +kernel
theorem d_R_packedByte_6 : decode c_R_packedByte 6 = .ok (.istore 4, 2) := by decide +kernel
theorem d_R_packedByte_8 : decode c_R_packedByte 8 = .ok (.iload 4, 2) := by decide +kernel
theorem d_R_packedByte_10 : decode c_R_packedByte 10 = .ok (.bipush 8, 2) := by decide +kernel
theorem d_R_packedByte_12 : decode c_R_packedByte 12 = .ok (.iload_n 2, 1) := by decide +kernel
theorem d_R_packedByte_13 : decode c_R_packedByte 13 = .ok (.imul, 1) := by decide +kernel
theorem d_R_packedByte_14 : decode c_R_packedByte 14 = .ok (.bipush 8, 2) := by decide +kernel
theorem d_R_packedByte_16 : decode c_R_packedByte 16 = .ok (.iadd, 1) := by decide +kernel
theorem d_R_packedByte_17 : decode c_R_packedByte 17 = .ok (.if_icmp .ge 34, 3) := by decide +kernel
theorem d_R_packedByte_20 : decode c_R_packedByte 20 = .ok (.iconst 2, 1) := by decide +kernel
theorem d_R_packedByte_21 : decode c_R_packedByte 21 = .ok (.iload_n 3, 1) := by decide +kernel
theorem d_R_packedByte_22 : decode c_R_packedByte 22 = .ok (.imul, 1) := by decide +kernel
theorem d_R_packedByte_23 : decode c_R_packedByte 23 = .ok (.aload_n 0, 1) := by decide +kernel
theorem d_R_packedByte_24 : decode c_R_packedByte 24 = .ok (.iload_n 1, 1) := by decide +kernel
theorem d_R_packedByte_25 : decode c_R_packedByte 25 = .ok (.iload 4, 2) := by decide +kernel
theorem d_R_packedByte_27 : decode c_R_packedByte 27 = .ok (.bipush 15, 2) := by decide +kernel
theorem d_R_packedByte_29 : decode c_R_packedByte 29 = .ok (.idiv, 1) := by decide +kernel
theorem d_R_packedByte_30 : decode c_R_packedByte 30 = .ok (.iadd, 1) := by decide +kernel
theorem d_R_packedByte_31 : decode c_R_packedByte 31 = .ok (.iaload, 1) := by decide +kernel
theorem d_R_packedByte_32 : decode c_R_packedByte 32 = .ok (.bipush 14, 2) := by decide +kernel
theorem d_R_packedByte_34 : decode c_R_packedByte 34 = .ok (.iload 4, 2) := by decide +kernel
theorem d_R_packedByte_36 : decode c_R_packedByte 36 = .ok (.bipush 15, 2) := by decide +kernel
theorem d_R_packedByte_38 : decode c_R_packedByte 38 = .ok (.irem, 1) := by decide +kernel
theorem d_R_packedByte_39 : decode c_R_packedByte 39 = .ok (.isub, 1) := by decide +kernel
theorem d_R_packedByte_40 : decode c_R_packedByte 40 = .ok (.ishr, 1) := by decide +kernel
theorem d_R_packedByte_41 : decode c_R_packedByte 41 = .ok (.iconst 1, 1) := by decide +kernel
theorem d_R_packedByte_42 : decode c_R_packedByte 42 = .ok (.iand, 1) := by decide +kernel
theorem d_R_packedByte_43 : decode c_R_packedByte 43 = .ok (.iadd, 1) := by decide +kernel
theorem d_R_packedByte_44 : decode c_R_packedByte 44 = .ok (.istore_n 3, 1) := by decide +kernel
theorem d_R_packedByte_45 : decode c_R_packedByte 45 = .ok (.iinc 4 1, 3) := by decide +kernel
theorem d_R_packedByte_48 : decode c_R_packedByte 48 = .ok (.goto (-40), 3) := by decide +kernel
theorem d_R_packedByte_51 : decode c_R_packedByte 51 = .ok (.iload_n 3, 1) := by decide +kernel
theorem d_R_packedByte_52 : decode c_R_packedByte 52 = .ok (.ireturn, 1) := by decide +kernel
theorem d_R_wrap_0 : decode c_R_wrap 0 = .ok (.aload_n 0, 1) := by decide +kernel
theorem d_R_wrap_1 : decode c_R_wrap 1 = .ok (.iload_n 1, 1) := by decide +kernel
theorem d_R_wrap_2 : decode c_R_wrap 2 = .ok (.invokestatic 112, 3) := by decide +kernel
theorem d_R_wrap_5 : decode c_R_wrap 5 = .ok (.ifCond .eq 10, 3) := by decide +kernel
theorem d_R_wrap_8 : decode c_R_wrap 8 = .ok (.iload_n 2, 1) := by decide +kernel
theorem d_R_wrap_9 : decode c_R_wrap 9 = .ok (.invokestatic 112, 3) := by decide +kernel
theorem d_R_wrap_12 : decode c_R_wrap 12 = .ok (.ifCond .ne 7, 3) := by decide +kernel
theorem d_R_wrap_15 : decode c_R_wrap 15 = .ok (.iconst 1, 1) := by decide +kernel
theorem d_R_wrap_16 : decode c_R_wrap 16 = .ok (.goto 17, 3) := by decide +kernel
theorem d_R_wrap_19 : decode c_R_wrap 19 = .ok (.aload_n 0, 1) := by decide +kernel
theorem d_R_wrap_20 : decode c_R_wrap 20 = .ok (.getfield 33, 3) := by decide +kernel
theorem d_R_wrap_23 : decode c_R_wrap 23 = .ok (.iload_n 2, 1) := by decide +kernel
theorem d_R_wrap_24 : decode c_R_wrap 24 = .ok (.baload, 1) := by decide +kernel
theorem d_R_wrap_25 : decode c_R_wrap 25 = .ok (.ifCond .ne 7, 3) := by decide +kernel
theorem d_R_wrap_28 : decode c_R_wrap 28 = .ok (.iconst 2, 1) := by decide +kernel
theorem d_R_wrap_29 : decode c_R_wrap 29 = .ok (.goto 4, 3) := by decide +kernel
theorem d_R_wrap_32 : decode c_R_wrap 32 = .ok (.iconst 0, 1) := by decide +kernel
theorem d_R_wrap_33 : decode c_R_wrap 33 = .ok (.putfield 72, 3) := by decide +kernel
theorem d_R_wrap_36 : decode c_R_wrap 36 = .ok (.aload_n 0, 1) := by decide +kernel
theorem d_R_wrap_37 : decode c_R_wrap 37 = .ok (.getfield 72, 3) := by decide +kernel
theorem d_R_wrap_40 : decode c_R_wrap 40 = .ok (.ifCond .le 5, 3) := by decide +kernel
theorem d_R_wrap_43 : decode c_R_wrap 43 = .ok (.lconst 0, 1) := by decide +kernel
theorem d_R_wrap_44 : decode c_R_wrap 44 = .ok (.lreturn, 1) := by decide +kernel
theorem d_R_wrap_45 : decode c_R_wrap 45 = .ok (.aload_n 0, 1) := by decide +kernel
theorem d_R_wrap_46 : decode c_R_wrap 46 = .ok (.getfield 57, 3) := by decide +kernel
theorem d_R_wrap_49 : decode c_R_wrap 49 = .ok (.iload_n 1, 1) := by decide +kernel
theorem d_R_wrap_50 : decode c_R_wrap 50 = .ok (.iconst 1, 1) := by decide +kernel
theorem d_R_wrap_51 : decode c_R_wrap 51 = .ok (.bastore, 1) := by decide +kernel
theorem d_R_wrap_52 : decode c_R_wrap 52 = .ok (.aload_n 0, 1) := by decide +kernel
theorem d_R_wrap_53 : decode c_R_wrap 53 = .ok (.iload_n 1, 1) := by decide +kernel
theorem d_R_wrap_54 : decode c_R_wrap 54 = .ok (.iload_n 2, 1) := by decide +kernel
theorem d_R_wrap_55 : decode c_R_wrap 55 = .ok (.iload_n 3, 1) := by decide +kernel
theorem d_R_wrap_56 : decode c_R_wrap 56 = .ok (.invokevirtual 144, 3) := by decide +kernel
theorem d_R_wrap_59 : decode c_R_wrap 59 = .ok (.lreturn, 1) := by decide +kernel
theorem d_R_wrapInto_0 : decode c_R_wrapInto 0 = .ok (.aload_n 0, 1) := by decide +kernel
theorem d_R_wrapInto_1 : decode c_R_wrapInto 1 = .ok (.aload_n 0, 1) := by decide +kernel
theorem d_R_wrapInto_2 : decode c_R_wrapInto 2 = .ok (.getfield 42, 3) := by decide +kernel
theorem d_R_wrapInto_5 : decode c_R_wrapInto 5 = .ok (.iload_n 2, 1) := by decide +kernel
theorem d_R_wrapInto_6 : decode c_R_wrapInto 6 = .ok (.laload, 1) := by decide +kernel
theorem d_R_wrapInto_7 : decode c_R_wrapInto 7 = .ok (.bipush 8, 2) := by decide +kernel
theorem d_R_wrapInto_9 : decode c_R_wrapInto 9 = .ok (.invokevirtual 87, 3) := by decide +kernel
theorem d_R_wrapInto_12 : decode c_R_wrapInto 12 = .ok (.aload_n 0, 1) := by decide +kernel
theorem d_R_wrapInto_13 : decode c_R_wrapInto 13 = .ok (.iload_n 3, 1) := by decide +kernel
theorem d_R_wrapInto_14 : decode c_R_wrapInto 14 = .ok (.i2l, 1) := by decide +kernel
theorem d_R_wrapInto_15 : decode c_R_wrapInto 15 = .ok (.iconst 4, 1) := by decide +kernel
theorem d_R_wrapInto_16 : decode c_R_wrapInto 16 = .ok (.invokevirtual 87, 3) := by decide +kernel
theorem d_R_wrapInto_19 : decode c_R_wrapInto 19 = .ok (.aload_n 0, 1) := by decide +kernel
theorem d_R_wrapInto_20 : decode c_R_wrapInto 20 = .ok (.bipush 16, 2) := by decide +kernel
theorem d_R_wrapInto_22 : decode c_R_wrapInto 22 = .ok (.invokevirtual 109, 3) := by decide +kernel
theorem d_R_wrapInto_25 : decode c_R_wrapInto 25 = .ok (.aload_n 0, 1) := by decide +kernel
theorem d_R_wrapInto_26 : decode c_R_wrapInto 26 = .ok (.iconst 0, 1) := by decide +kernel
theorem d_R_wrapInto_27 : decode c_R_wrapInto 27 = .ok (.invokevirtual 116, 3) := by decide +kernel
theorem d_R_wrapInto_30 : decode c_R_wrapInto 30 = .ok (.lstore 4, 2) := by decide +kernel
theorem d_R_wrapInto_32 : decode c_R_wrapInto 32 = .ok (.aload_n 0, 1) := by decide +kernel
theorem d_R_wrapInto_33 : decode c_R_wrapInto 33 = .ok (.bipush 8, 2) := by decide +kernel
theorem d_R_wrapInto_35 : decode c_R_wrapInto 35 = .ok (.invokevirtual 116, 3) := by decide +kernel
theorem d_R_wrapInto_38 : decode c_R_wrapInto 38 = .ok (.lstore 6, 2) := by decide +kernel
theorem d_R_wrapInto_40 : decode c_R_wrapInto 40 = .ok (.aload_n 0, 1) := by decide +kernel
theorem d_R_wrapInto_41 : decode c_R_wrapInto 41 = .ok (.ldc2_w 131, 3) := by decide +kernel
theorem d_R_wrapInto_44 : decode c_R_wrapInto 44 = .ok (.iconst 1, 1) := by decide +kernel
theorem d_R_wrapInto_45 : decode c_R_wrapInto 45 = .ok (.invokevirtual 87, 3) := by decide +kernel
theorem d_R_wrapInto_48 : decode c_R_wrapInto 48 = .ok (.aload_n 0, 1) := by decide +kernel
theorem d_R_wrapInto_49 : decode c_R_wrapInto 49 = .ok (.lload 4, 2) := by decide +kernel
theorem d_R_wrapInto_51 : decode c_R_wrapInto 51 = .ok (.bipush 8, 2) := by decide +kernel
theorem d_R_wrapInto_53 : decode c_R_wrapInto 53 = .ok (.invokevirtual 87, 3) := by decide +kernel
theorem d_R_wrapInto_56 : decode c_R_wrapInto 56 = .ok (.aload_n 0, 1) := by decide +kernel
theorem d_R_wrapInto_57 : decode c_R_wrapInto 57 = .ok (.sipush 160, 3) := by decide +kernel
theorem d_R_wrapInto_60 : decode c_R_wrapInto 60 = .ok (.invokevirtual 109, 3) := by decide +kernel
theorem d_R_wrapInto_63 : decode c_R_wrapInto 63 = .ok (.iconst 0, 1) := by decide +kernel
theorem d_R_wrapInto_64 : decode c_R_wrapInto 64 = .ok (.istore 8, 2) := by decide +kernel
theorem d_R_wrapInto_66 : decode c_R_wrapInto 66 = .ok (.iload 8, 2) := by decide +kernel
theorem d_R_wrapInto_68 : decode c_R_wrapInto 68 = .ok (.bipush 80, 2) := by decide +kernel
theorem d_R_wrapInto_70 : decode c_R_wrapInto 70 = .ok (.if_icmp .ge 22, 3) := by decide +kernel
theorem d_R_wrapInto_73 : decode c_R_wrapInto 73 = .ok (.aload_n 0, 1) := by decide +kernel
theorem d_R_wrapInto_74 : decode c_R_wrapInto 74 = .ok (.getfield 63, 3) := by decide +kernel
theorem d_R_wrapInto_77 : decode c_R_wrapInto 77 = .ok (.iload 8, 2) := by decide +kernel
theorem d_R_wrapInto_79 : decode c_R_wrapInto 79 = .ok (.aload_n 0, 1) := by decide +kernel
theorem d_R_wrapInto_80 : decode c_R_wrapInto 80 = .ok (.iload 8, 2) := by decide +kernel
theorem d_R_wrapInto_82 : decode c_R_wrapInto 82 = .ok (.invokevirtual 122, 3) := by decide +kernel
theorem d_R_wrapInto_85 : decode c_R_wrapInto 85 = .ok (.iastore, 1) := by decide +kernel
theorem d_R_wrapInto_86 : decode c_R_wrapInto 86 = .ok (.iinc 8 1, 3) := by decide +kernel
theorem d_R_wrapInto_89 : decode c_R_wrapInto 89 = .ok (.goto (-23), 3) := by decide +kernel
theorem d_R_wrapInto_92 : decode c_R_wrapInto 92 = .ok (.iconst 0, 1) := by decide +kernel
theorem d_R_wrapInto_93 : decode c_R_wrapInto 93 = .ok (.istore 8, 2) := by decide +kernel
theorem d_R_wrapInto_95 : decode c_R_wrapInto 95 = .ok (.iload 8, 2) := by decide +kernel
theorem d_R_wrapInto_97 : decode c_R_wrapInto 97 = .ok (.bipush 32, 2) := by decide +kernel
theorem d_R_wrapInto_99 : decode c_R_wrapInto 99 = .ok (.if_icmp .ge 92, 3) := by decide +kernel
theorem d_R_wrapInto_102 : decode c_R_wrapInto 102 = .ok (.aload_n 0, 1) := by decide +kernel
theorem d_R_wrapInto_103 : decode c_R_wrapInto 103 = .ok (.getfield 63, 3) := by decide +kernel
theorem d_R_wrapInto_106 : decode c_R_wrapInto 106 = .ok (.bipush 32, 2) := by decide +kernel
theorem d_R_wrapInto_108 : decode c_R_wrapInto 108 = .ok (.iload 8, 2) := by decide +kernel
theorem d_R_wrapInto_110 : decode c_R_wrapInto 110 = .ok (.iadd, 1) := by decide +kernel
theorem d_R_wrapInto_111 : decode c_R_wrapInto 111 = .ok (.iaload, 1) := by decide +kernel
theorem d_R_wrapInto_112 : decode c_R_wrapInto 112 = .ok (.istore 9, 2) := by decide +kernel
theorem d_R_wrapInto_114 : decode c_R_wrapInto 114 = .ok (.iconst 0, 1) := by decide +kernel
theorem d_R_wrapInto_115 : decode c_R_wrapInto 115 = .ok (.istore 10, 2) := by decide +kernel
theorem d_R_wrapInto_117 : decode c_R_wrapInto 117 = .ok (.iload 10, 2) := by decide +kernel
theorem d_R_wrapInto_119 : decode c_R_wrapInto 119 = .ok (.bipush 8, 2) := by decide +kernel
theorem d_R_wrapInto_121 : decode c_R_wrapInto 121 = .ok (.if_icmp .ge 55, 3) := by decide +kernel
theorem d_R_wrapInto_124 : decode c_R_wrapInto 124 = .ok (.iload 9, 2) := by decide +kernel
theorem d_R_wrapInto_126 : decode c_R_wrapInto 126 = .ok (.aload_n 0, 1) := by decide +kernel
theorem d_R_wrapInto_127 : decode c_R_wrapInto 127 = .ok (.getfield 63, 3) := by decide +kernel
theorem d_R_wrapInto_130 : decode c_R_wrapInto 130 = .ok (.bipush 8, 2) := by decide +kernel
theorem d_R_wrapInto_132 : decode c_R_wrapInto 132 = .ok (.iload 8, 2) := by decide +kernel
theorem d_R_wrapInto_134 : decode c_R_wrapInto 134 = .ok (.bipush 8, 2) := by decide +kernel
theorem d_R_wrapInto_136 : decode c_R_wrapInto 136 = .ok (.idiv, 1) := by decide +kernel
theorem d_R_wrapInto_137 : decode c_R_wrapInto 137 = .ok (.imul, 1) := by decide +kernel
theorem d_R_wrapInto_138 : decode c_R_wrapInto 138 = .ok (.iload 10, 2) := by decide +kernel
theorem d_R_wrapInto_140 : decode c_R_wrapInto 140 = .ok (.iadd, 1) := by decide +kernel
theorem d_R_wrapInto_141 : decode c_R_wrapInto 141 = .ok (.iaload, 1) := by decide +kernel
theorem d_R_wrapInto_142 : decode c_R_wrapInto 142 = .ok (.aload_n 0, 1) := by decide +kernel
theorem d_R_wrapInto_143 : decode c_R_wrapInto 143 = .ok (.getfield 45, 3) := by decide +kernel
theorem d_R_wrapInto_146 : decode c_R_wrapInto 146 = .ok (.bipush 64, 2) := by decide +kernel
theorem d_R_wrapInto_148 : decode c_R_wrapInto 148 = .ok (.iload_n 2, 1) := by decide +kernel
theorem d_R_wrapInto_149 : decode c_R_wrapInto 149 = .ok (.imul, 1) := by decide +kernel
theorem d_R_wrapInto_150 : decode c_R_wrapInto 150 = .ok (.bipush 8, 2) := by decide +kernel
theorem d_R_wrapInto_152 : decode c_R_wrapInto 152 = .ok (.iload 10, 2) := by decide +kernel
theorem d_R_wrapInto_154 : decode c_R_wrapInto 154 = .ok (.imul, 1) := by decide +kernel
theorem d_R_wrapInto_155 : decode c_R_wrapInto 155 = .ok (.iadd, 1) := by decide +kernel
theorem d_R_wrapInto_156 : decode c_R_wrapInto 156 = .ok (.iload 8, 2) := by decide +kernel
theorem d_R_wrapInto_158 : decode c_R_wrapInto 158 = .ok (.bipush 8, 2) := by decide +kernel
theorem d_R_wrapInto_160 : decode c_R_wrapInto 160 = .ok (.irem, 1) := by decide +kernel
theorem d_R_wrapInto_161 : decode c_R_wrapInto 161 = .ok (.iadd, 1) := by decide +kernel
theorem d_R_wrapInto_162 : decode c_R_wrapInto 162 = .ok (.iaload, 1) := by decide +kernel
theorem d_R_wrapInto_163 : decode c_R_wrapInto 163 = .ok (.imul, 1) := by decide +kernel
theorem d_R_wrapInto_164 : decode c_R_wrapInto 164 = .ok (.iadd, 1) := by decide +kernel
theorem d_R_wrapInto_165 : decode c_R_wrapInto 165 = .ok (.ldc 104, 2) := by decide +kernel
theorem d_R_wrapInto_167 : decode c_R_wrapInto 167 = .ok (.irem, 1) := by decide +kernel
theorem d_R_wrapInto_168 : decode c_R_wrapInto 168 = .ok (.istore 9, 2) := by decide +kernel
theorem d_R_wrapInto_170 : decode c_R_wrapInto 170 = .ok (.iinc 10 1, 3) := by decide +kernel
theorem d_R_wrapInto_173 : decode c_R_wrapInto 173 = .ok (.goto (-56), 3) := by decide +kernel
theorem d_R_wrapInto_176 : decode c_R_wrapInto 176 = .ok (.aload_n 0, 1) := by decide +kernel
theorem d_R_wrapInto_177 : decode c_R_wrapInto 177 = .ok (.getfield 66, 3) := by decide +kernel
theorem d_R_wrapInto_180 : decode c_R_wrapInto 180 = .ok (.iload 8, 2) := by decide +kernel
theorem d_R_wrapInto_182 : decode c_R_wrapInto 182 = .ok (.iload 9, 2) := by decide +kernel
theorem d_R_wrapInto_184 : decode c_R_wrapInto 184 = .ok (.iastore, 1) := by decide +kernel
theorem d_R_wrapInto_185 : decode c_R_wrapInto 185 = .ok (.iinc 8 1, 3) := by decide +kernel
theorem d_R_wrapInto_188 : decode c_R_wrapInto 188 = .ok (.goto (-93), 3) := by decide +kernel
theorem d_R_wrapInto_191 : decode c_R_wrapInto 191 = .ok (.iconst 0, 1) := by decide +kernel
theorem d_R_wrapInto_192 : decode c_R_wrapInto 192 = .ok (.istore 8, 2) := by decide +kernel
theorem d_R_wrapInto_194 : decode c_R_wrapInto 194 = .ok (.iload 8, 2) := by decide +kernel
theorem d_R_wrapInto_196 : decode c_R_wrapInto 196 = .ok (.bipush 16, 2) := by decide +kernel
theorem d_R_wrapInto_198 : decode c_R_wrapInto 198 = .ok (.if_icmp .ge 105, 3) := by decide +kernel
theorem d_R_wrapInto_201 : decode c_R_wrapInto 201 = .ok (.aload_n 0, 1) := by decide +kernel
theorem d_R_wrapInto_202 : decode c_R_wrapInto 202 = .ok (.getfield 63, 3) := by decide +kernel
theorem d_R_wrapInto_205 : decode c_R_wrapInto 205 = .ok (.bipush 64, 2) := by decide +kernel
theorem d_R_wrapInto_207 : decode c_R_wrapInto 207 = .ok (.iload 8, 2) := by decide +kernel
theorem d_R_wrapInto_209 : decode c_R_wrapInto 209 = .ok (.iadd, 1) := by decide +kernel
theorem d_R_wrapInto_210 : decode c_R_wrapInto 210 = .ok (.iaload, 1) := by decide +kernel
theorem d_R_wrapInto_211 : decode c_R_wrapInto 211 = .ok (.sipush 8192, 3) := by decide +kernel
theorem d_R_wrapInto_214 : decode c_R_wrapInto 214 = .ok (.iload_n 3, 1) := by decide +kernel
theorem d_R_wrapInto_215 : decode c_R_wrapInto 215 = .ok (.iconst 2, 1) := by decide +kernel
theorem d_R_wrapInto_216 : decode c_R_wrapInto 216 = .ok (.iload 8, 2) := by decide +kernel
theorem d_R_wrapInto_218 : decode c_R_wrapInto 218 = .ok (.imul, 1) := by decide +kernel
theorem d_R_wrapInto_219 : decode c_R_wrapInto 219 = .ok (.iushr, 1) := by decide +kernel
theorem d_R_wrapInto_220 : decode c_R_wrapInto 220 = .ok (.iconst 3, 1) := by decide +kernel
theorem d_R_wrapInto_221 : decode c_R_wrapInto 221 = .ok (.iand, 1) := by decide +kernel
theorem d_R_wrapInto_222 : decode c_R_wrapInto 222 = .ok (.imul, 1) := by decide +kernel
theorem d_R_wrapInto_223 : decode c_R_wrapInto 223 = .ok (.iadd, 1) := by decide +kernel
theorem d_R_wrapInto_224 : decode c_R_wrapInto 224 = .ok (.istore 9, 2) := by decide +kernel
theorem d_R_wrapInto_226 : decode c_R_wrapInto 226 = .ok (.iconst 0, 1) := by decide +kernel
theorem d_R_wrapInto_227 : decode c_R_wrapInto 227 = .ok (.istore 10, 2) := by decide +kernel
theorem d_R_wrapInto_229 : decode c_R_wrapInto 229 = .ok (.iload 10, 2) := by decide +kernel
theorem d_R_wrapInto_231 : decode c_R_wrapInto 231 = .ok (.bipush 8, 2) := by decide +kernel
theorem d_R_wrapInto_233 : decode c_R_wrapInto 233 = .ok (.if_icmp .ge 52, 3) := by decide +kernel
theorem d_R_wrapInto_236 : decode c_R_wrapInto 236 = .ok (.iload 9, 2) := by decide +kernel
theorem d_R_wrapInto_238 : decode c_R_wrapInto 238 = .ok (.aload_n 0, 1) := by decide +kernel
theorem d_R_wrapInto_239 : decode c_R_wrapInto 239 = .ok (.getfield 63, 3) := by decide +kernel
theorem d_R_wrapInto_242 : decode c_R_wrapInto 242 = .ok (.bipush 8, 2) := by decide +kernel
theorem d_R_wrapInto_244 : decode c_R_wrapInto 244 = .ok (.iload 8, 2) := by decide +kernel
theorem d_R_wrapInto_246 : decode c_R_wrapInto 246 = .ok (.iconst 4, 1) := by decide +kernel
theorem d_R_wrapInto_247 : decode c_R_wrapInto 247 = .ok (.idiv, 1) := by decide +kernel
theorem d_R_wrapInto_248 : decode c_R_wrapInto 248 = .ok (.imul, 1) := by decide +kernel
theorem d_R_wrapInto_249 : decode c_R_wrapInto 249 = .ok (.iload 10, 2) := by decide +kernel
theorem d_R_wrapInto_251 : decode c_R_wrapInto 251 = .ok (.iadd, 1) := by decide +kernel
theorem d_R_wrapInto_252 : decode c_R_wrapInto 252 = .ok (.iaload, 1) := by decide +kernel
theorem d_R_wrapInto_253 : decode c_R_wrapInto 253 = .ok (.aload_n 0, 1) := by decide +kernel
theorem d_R_wrapInto_254 : decode c_R_wrapInto 254 = .ok (.getfield 51, 3) := by decide +kernel
theorem d_R_wrapInto_257 : decode c_R_wrapInto 257 = .ok (.bipush 32, 2) := by decide +kernel
theorem d_R_wrapInto_259 : decode c_R_wrapInto 259 = .ok (.iload_n 2, 1) := by decide +kernel
theorem d_R_wrapInto_260 : decode c_R_wrapInto 260 = .ok (.imul, 1) := by decide +kernel
theorem d_R_wrapInto_261 : decode c_R_wrapInto 261 = .ok (.iconst 4, 1) := by decide +kernel
theorem d_R_wrapInto_262 : decode c_R_wrapInto 262 = .ok (.iload 10, 2) := by decide +kernel
theorem d_R_wrapInto_264 : decode c_R_wrapInto 264 = .ok (.imul, 1) := by decide +kernel
theorem d_R_wrapInto_265 : decode c_R_wrapInto 265 = .ok (.iadd, 1) := by decide +kernel
theorem d_R_wrapInto_266 : decode c_R_wrapInto 266 = .ok (.iload 8, 2) := by decide +kernel
theorem d_R_wrapInto_268 : decode c_R_wrapInto 268 = .ok (.iconst 4, 1) := by decide +kernel
theorem d_R_wrapInto_269 : decode c_R_wrapInto 269 = .ok (.irem, 1) := by decide +kernel
theorem d_R_wrapInto_270 : decode c_R_wrapInto 270 = .ok (.iadd, 1) := by decide +kernel
theorem d_R_wrapInto_271 : decode c_R_wrapInto 271 = .ok (.iaload, 1) := by decide +kernel
theorem d_R_wrapInto_272 : decode c_R_wrapInto 272 = .ok (.imul, 1) := by decide +kernel
theorem d_R_wrapInto_273 : decode c_R_wrapInto 273 = .ok (.iadd, 1) := by decide +kernel
theorem d_R_wrapInto_274 : decode c_R_wrapInto 274 = .ok (.ldc 104, 2) := by decide +kernel
theorem d_R_wrapInto_276 : decode c_R_wrapInto 276 = .ok (.irem, 1) := by decide +kernel
theorem d_R_wrapInto_277 : decode c_R_wrapInto 277 = .ok (.istore 9, 2) := by decide +kernel
theorem d_R_wrapInto_279 : decode c_R_wrapInto 279 = .ok (.iinc 10 1, 3) := by decide +kernel
theorem d_R_wrapInto_282 : decode c_R_wrapInto 282 = .ok (.goto (-53), 3) := by decide +kernel
theorem d_R_wrapInto_285 : decode c_R_wrapInto 285 = .ok (.aload_n 0, 1) := by decide +kernel
theorem d_R_wrapInto_286 : decode c_R_wrapInto 286 = .ok (.getfield 69, 3) := by decide +kernel
theorem d_R_wrapInto_289 : decode c_R_wrapInto 289 = .ok (.iload 8, 2) := by decide +kernel
theorem d_R_wrapInto_291 : decode c_R_wrapInto 291 = .ok (.iload 9, 2) := by decide +kernel
theorem d_R_wrapInto_293 : decode c_R_wrapInto 293 = .ok (.ldc 104, 2) := by decide +kernel
theorem d_R_wrapInto_295 : decode c_R_wrapInto 295 = .ok (.irem, 1) := by decide +kernel
theorem d_R_wrapInto_296 : decode c_R_wrapInto 296 = .ok (.iastore, 1) := by decide +kernel
theorem d_R_wrapInto_297 : decode c_R_wrapInto 297 = .ok (.iinc 8 1, 3) := by decide +kernel
theorem d_R_wrapInto_300 : decode c_R_wrapInto 300 = .ok (.goto (-106), 3) := by decide +kernel
theorem d_R_wrapInto_303 : decode c_R_wrapInto 303 = .ok (.iconst 0, 1) := by decide +kernel
theorem d_R_wrapInto_304 : decode c_R_wrapInto 304 = .ok (.istore 8, 2) := by decide +kernel
theorem d_R_wrapInto_306 : decode c_R_wrapInto 306 = .ok (.iload 8, 2) := by decide +kernel
theorem d_R_wrapInto_308 : decode c_R_wrapInto 308 = .ok (.bipush 90, 2) := by decide +kernel
theorem d_R_wrapInto_310 : decode c_R_wrapInto 310 = .ok (.if_icmp .ge 54, 3) := by decide +kernel
theorem d_R_wrapInto_313 : decode c_R_wrapInto 313 = .ok (.aload_n 0, 1) := by decide +kernel
theorem d_R_wrapInto_314 : decode c_R_wrapInto 314 = .ok (.getfield 60, 3) := by decide +kernel
theorem d_R_wrapInto_317 : decode c_R_wrapInto 317 = .ok (.bipush 90, 2) := by decide +kernel
theorem d_R_wrapInto_319 : decode c_R_wrapInto 319 = .ok (.iload_n 1, 1) := by decide +kernel
theorem d_R_wrapInto_320 : decode c_R_wrapInto 320 = .ok (.imul, 1) := by decide +kernel
theorem d_R_wrapInto_321 : decode c_R_wrapInto 321 = .ok (.iload 8, 2) := by decide +kernel
theorem d_R_wrapInto_323 : decode c_R_wrapInto 323 = .ok (.iadd, 1) := by decide +kernel
theorem d_R_wrapInto_324 : decode c_R_wrapInto 324 = .ok (.iload 8, 2) := by decide +kernel
theorem d_R_wrapInto_326 : decode c_R_wrapInto 326 = .ok (.bipush 60, 2) := by decide +kernel
theorem d_R_wrapInto_328 : decode c_R_wrapInto 328 = .ok (.if_icmp .ge 16, 3) := by decide +kernel
theorem d_R_wrapInto_331 : decode c_R_wrapInto 331 = .ok (.aload_n 0, 1) := by decide +kernel
theorem d_R_wrapInto_332 : decode c_R_wrapInto 332 = .ok (.getfield 66, 3) := by decide +kernel
theorem d_R_wrapInto_335 : decode c_R_wrapInto 335 = .ok (.iconst 0, 1) := by decide +kernel
theorem d_R_wrapInto_336 : decode c_R_wrapInto 336 = .ok (.iload 8, 2) := by decide +kernel
theorem d_R_wrapInto_338 : decode c_R_wrapInto 338 = .ok (.invokestatic 105, 3) := by decide +kernel
theorem d_R_wrapInto_341 : decode c_R_wrapInto 341 = .ok (.goto 16, 3) := by decide +kernel
theorem d_R_wrapInto_344 : decode c_R_wrapInto 344 = .ok (.aload_n 0, 1) := by decide +kernel
theorem d_R_wrapInto_345 : decode c_R_wrapInto 345 = .ok (.getfield 69, 3) := by decide +kernel
theorem d_R_wrapInto_348 : decode c_R_wrapInto 348 = .ok (.iconst 0, 1) := by decide +kernel
theorem d_R_wrapInto_349 : decode c_R_wrapInto 349 = .ok (.iload 8, 2) := by decide +kernel
theorem d_R_wrapInto_351 : decode c_R_wrapInto 351 = .ok (.bipush 60, 2) := by decide +kernel
theorem d_R_wrapInto_353 : decode c_R_wrapInto 353 = .ok (.isub, 1) := by decide +kernel
theorem d_R_wrapInto_354 : decode c_R_wrapInto 354 = .ok (.invokestatic 105, 3) := by decide +kernel
theorem d_R_wrapInto_357 : decode c_R_wrapInto 357 = .ok (.iastore, 1) := by decide +kernel
theorem d_R_wrapInto_358 : decode c_R_wrapInto 358 = .ok (.iinc 8 1, 3) := by decide +kernel
theorem d_R_wrapInto_361 : decode c_R_wrapInto 361 = .ok (.goto (-55), 3) := by decide +kernel
theorem d_R_wrapInto_364 : decode c_R_wrapInto 364 = .ok (.aload_n 0, 1) := by decide +kernel
theorem d_R_wrapInto_365 : decode c_R_wrapInto 365 = .ok (.iload_n 1, 1) := by decide +kernel
theorem d_R_wrapInto_366 : decode c_R_wrapInto 366 = .ok (.invokevirtual 133, 3) := by decide +kernel
theorem d_R_wrapInto_369 : decode c_R_wrapInto 369 = .ok (.aload_n 0, 1) := by decide +kernel
theorem d_R_wrapInto_370 : decode c_R_wrapInto 370 = .ok (.lload 6, 2) := by decide +kernel
theorem d_R_wrapInto_372 : decode c_R_wrapInto 372 = .ok (.bipush 8, 2) := by decide +kernel
theorem d_R_wrapInto_374 : decode c_R_wrapInto 374 = .ok (.invokevirtual 87, 3) := by decide +kernel
theorem d_R_wrapInto_377 : decode c_R_wrapInto 377 = .ok (.aload_n 0, 1) := by decide +kernel
theorem d_R_wrapInto_378 : decode c_R_wrapInto 378 = .ok (.bipush 8, 2) := by decide +kernel
theorem d_R_wrapInto_380 : decode c_R_wrapInto 380 = .ok (.invokevirtual 109, 3) := by decide +kernel
theorem d_R_wrapInto_383 : decode c_R_wrapInto 383 = .ok (.aload_n 0, 1) := by decide +kernel
theorem d_R_wrapInto_384 : decode c_R_wrapInto 384 = .ok (.iconst 0, 1) := by decide +kernel
theorem d_R_wrapInto_385 : decode c_R_wrapInto 385 = .ok (.invokevirtual 116, 3) := by decide +kernel
theorem d_R_wrapInto_388 : decode c_R_wrapInto 388 = .ok (.lreturn, 1) := by decide +kernel
theorem d_R_addWrap_0 : decode c_R_addWrap 0 = .ok (.iconst 0, 1) := by decide +kernel
theorem d_R_addWrap_1 : decode c_R_addWrap 1 = .ok (.istore_n 2, 1) := by decide +kernel
theorem d_R_addWrap_2 : decode c_R_addWrap 2 = .ok (.iload_n 2, 1) := by decide +kernel
theorem d_R_addWrap_3 : decode c_R_addWrap 3 = .ok (.bipush 90, 2) := by decide +kernel
theorem d_R_addWrap_5 : decode c_R_addWrap 5 = .ok (.if_icmp .ge 26, 3) := by decide +kernel
theorem d_R_addWrap_8 : decode c_R_addWrap 8 = .ok (.aload_n 0, 1) := by decide +kernel
theorem d_R_addWrap_9 : decode c_R_addWrap 9 = .ok (.aload_n 0, 1) := by decide +kernel
theorem d_R_addWrap_10 : decode c_R_addWrap 10 = .ok (.getfield 60, 3) := by decide +kernel
theorem d_R_addWrap_13 : decode c_R_addWrap 13 = .ok (.bipush 90, 2) := by decide +kernel
theorem d_R_addWrap_15 : decode c_R_addWrap 15 = .ok (.iload_n 1, 1) := by decide +kernel
theorem d_R_addWrap_16 : decode c_R_addWrap 16 = .ok (.imul, 1) := by decide +kernel
theorem d_R_addWrap_17 : decode c_R_addWrap 17 = .ok (.iload_n 2, 1) := by decide +kernel
theorem d_R_addWrap_18 : decode c_R_addWrap 18 = .ok (.iadd, 1) := by decide +kernel
theorem d_R_addWrap_19 : decode c_R_addWrap 19 = .ok (.iaload, 1) := by decide +kernel
theorem d_R_addWrap_20 : decode c_R_addWrap 20 = .ok (.i2l, 1) := by decide +kernel
theorem d_R_addWrap_21 : decode c_R_addWrap 21 = .ok (.iconst 1, 1) := by decide +kernel
theorem d_R_addWrap_22 : decode c_R_addWrap 22 = .ok (.invokevirtual 87, 3) := by decide +kernel
theorem d_R_addWrap_25 : decode c_R_addWrap 25 = .ok (.iinc 2 1, 3) := by decide +kernel
theorem d_R_addWrap_28 : decode c_R_addWrap 28 = .ok (.goto (-26), 3) := by decide +kernel
theorem d_R_addWrap_31 : decode c_R_addWrap 31 = .ok (.return_, 1) := by decide +kernel
theorem d_R_unwrap_0 : decode c_R_unwrap 0 = .ok (.aload_n 0, 1) := by decide +kernel
theorem d_R_unwrap_1 : decode c_R_unwrap 1 = .ok (.aload_n 0, 1) := by decide +kernel
theorem d_R_unwrap_2 : decode c_R_unwrap 2 = .ok (.iload_n 1, 1) := by decide +kernel
theorem d_R_unwrap_3 : decode c_R_unwrap 3 = .ok (.iload_n 2, 1) := by decide +kernel
theorem d_R_unwrap_4 : decode c_R_unwrap 4 = .ok (.invokevirtual 148, 3) := by decide +kernel
theorem d_R_unwrap_7 : decode c_R_unwrap 7 = .ok (.putfield 72, 3) := by decide +kernel
theorem d_R_unwrap_10 : decode c_R_unwrap 10 = .ok (.aload_n 0, 1) := by decide +kernel
theorem d_R_unwrap_11 : decode c_R_unwrap 11 = .ok (.getfield 72, 3) := by decide +kernel
theorem d_R_unwrap_14 : decode c_R_unwrap 14 = .ok (.ifCond .le 5, 3) := by decide +kernel
theorem d_R_unwrap_17 : decode c_R_unwrap 17 = .ok (.lconst 0, 1) := by decide +kernel
theorem d_R_unwrap_18 : decode c_R_unwrap 18 = .ok (.lreturn, 1) := by decide +kernel
theorem d_R_unwrap_19 : decode c_R_unwrap 19 = .ok (.aload_n 0, 1) := by decide +kernel
theorem d_R_unwrap_20 : decode c_R_unwrap 20 = .ok (.iconst 4, 1) := by decide +kernel
theorem d_R_unwrap_21 : decode c_R_unwrap 21 = .ok (.iload_n 2, 1) := by decide +kernel
theorem d_R_unwrap_22 : decode c_R_unwrap 22 = .ok (.aload_n 0, 1) := by decide +kernel
theorem d_R_unwrap_23 : decode c_R_unwrap 23 = .ok (.iload_n 1, 1) := by decide +kernel
theorem d_R_unwrap_24 : decode c_R_unwrap 24 = .ok (.iload_n 2, 1) := by decide +kernel
theorem d_R_unwrap_25 : decode c_R_unwrap 25 = .ok (.invokevirtual 151, 3) := by decide +kernel
theorem d_R_unwrap_28 : decode c_R_unwrap 28 = .ok (.invokevirtual 144, 3) := by decide +kernel
theorem d_R_unwrap_31 : decode c_R_unwrap 31 = .ok (.lstore_n 3, 1) := by decide +kernel
theorem d_R_unwrap_32 : decode c_R_unwrap 32 = .ok (.iconst 1, 1) := by decide +kernel
theorem d_R_unwrap_33 : decode c_R_unwrap 33 = .ok (.istore 5, 2) := by decide +kernel
theorem d_R_unwrap_35 : decode c_R_unwrap 35 = .ok (.iconst 0, 1) := by decide +kernel
theorem d_R_unwrap_36 : decode c_R_unwrap 36 = .ok (.istore 6, 2) := by decide +kernel
theorem d_R_unwrap_38 : decode c_R_unwrap 38 = .ok (.iload 6, 2) := by decide +kernel
theorem d_R_unwrap_40 : decode c_R_unwrap 40 = .ok (.bipush 90, 2) := by decide +kernel
theorem d_R_unwrap_42 : decode c_R_unwrap 42 = .ok (.if_icmp .ge 47, 3) := by decide +kernel
theorem d_R_unwrap_45 : decode c_R_unwrap 45 = .ok (.iload 5, 2) := by decide +kernel
theorem d_R_unwrap_47 : decode c_R_unwrap 47 = .ok (.ifCond .eq 33, 3) := by decide +kernel
theorem d_R_unwrap_50 : decode c_R_unwrap 50 = .ok (.aload_n 0, 1) := by decide +kernel
theorem d_R_unwrap_51 : decode c_R_unwrap 51 = .ok (.getfield 60, 3) := by decide +kernel
theorem d_R_unwrap_54 : decode c_R_unwrap 54 = .ok (.sipush 360, 3) := by decide +kernel
theorem d_R_unwrap_57 : decode c_R_unwrap 57 = .ok (.iload 6, 2) := by decide +kernel
theorem d_R_unwrap_59 : decode c_R_unwrap 59 = .ok (.iadd, 1) := by decide +kernel
theorem d_R_unwrap_60 : decode c_R_unwrap 60 = .ok (.iaload, 1) := by decide +kernel
theorem d_R_unwrap_61 : decode c_R_unwrap 61 = .ok (.aload_n 0, 1) := by decide +kernel
theorem d_R_unwrap_62 : decode c_R_unwrap 62 = .ok (.getfield 60, 3) := by decide +kernel
theorem d_R_unwrap_65 : decode c_R_unwrap 65 = .ok (.bipush 90, 2) := by decide +kernel
theorem d_R_unwrap_67 : decode c_R_unwrap 67 = .ok (.iload_n 1, 1) := by decide +kernel
theorem d_R_unwrap_68 : decode c_R_unwrap 68 = .ok (.imul, 1) := by decide +kernel
theorem d_R_unwrap_69 : decode c_R_unwrap 69 = .ok (.iload 6, 2) := by decide +kernel
theorem d_R_unwrap_71 : decode c_R_unwrap 71 = .ok (.iadd, 1) := by decide +kernel
theorem d_R_unwrap_72 : decode c_R_unwrap 72 = .ok (.iaload, 1) := by decide +kernel
theorem d_R_unwrap_73 : decode c_R_unwrap 73 = .ok (.if_icmp .ne 7, 3) := by decide +kernel
theorem d_R_unwrap_76 : decode c_R_unwrap 76 = .ok (.iconst 1, 1) := by decide +kernel
theorem d_R_unwrap_77 : decode c_R_unwrap 77 = .ok (.goto 4, 3) := by decide +kernel
theorem d_R_unwrap_80 : decode c_R_unwrap 80 = .ok (.iconst 0, 1) := by decide +kernel
theorem d_R_unwrap_81 : decode c_R_unwrap 81 = .ok (.istore 5, 2) := by decide +kernel
theorem d_R_unwrap_83 : decode c_R_unwrap 83 = .ok (.iinc 6 1, 3) := by decide +kernel
theorem d_R_unwrap_86 : decode c_R_unwrap 86 = .ok (.goto (-48), 3) := by decide +kernel
theorem d_R_unwrap_89 : decode c_R_unwrap 89 = .ok (.iload 5, 2) := by decide +kernel
theorem d_R_unwrap_91 : decode c_R_unwrap 91 = .ok (.ifCond .eq 5, 3) := by decide +kernel
theorem d_R_unwrap_94 : decode c_R_unwrap 94 = .ok (.lload_n 3, 1) := by decide +kernel
theorem d_R_unwrap_95 : decode c_R_unwrap 95 = .ok (.lreturn, 1) := by decide +kernel
theorem d_R_unwrap_96 : decode c_R_unwrap 96 = .ok (.aload_n 0, 1) := by decide +kernel
theorem d_R_unwrap_97 : decode c_R_unwrap 97 = .ok (.iload_n 1, 1) := by decide +kernel
theorem d_R_unwrap_98 : decode c_R_unwrap 98 = .ok (.invokevirtual 133, 3) := by decide +kernel
theorem d_R_unwrap_101 : decode c_R_unwrap 101 = .ok (.aload_n 0, 1) := by decide +kernel
theorem d_R_unwrap_102 : decode c_R_unwrap 102 = .ok (.aload_n 0, 1) := by decide +kernel
theorem d_R_unwrap_103 : decode c_R_unwrap 103 = .ok (.getfield 39, 3) := by decide +kernel
theorem d_R_unwrap_106 : decode c_R_unwrap 106 = .ok (.iload_n 2, 1) := by decide +kernel
theorem d_R_unwrap_107 : decode c_R_unwrap 107 = .ok (.laload, 1) := by decide +kernel
theorem d_R_unwrap_108 : decode c_R_unwrap 108 = .ok (.bipush 8, 2) := by decide +kernel
theorem d_R_unwrap_110 : decode c_R_unwrap 110 = .ok (.invokevirtual 87, 3) := by decide +kernel
theorem d_R_unwrap_113 : decode c_R_unwrap 113 = .ok (.aload_n 0, 1) := by decide +kernel
theorem d_R_unwrap_114 : decode c_R_unwrap 114 = .ok (.bipush 8, 2) := by decide +kernel
theorem d_R_unwrap_116 : decode c_R_unwrap 116 = .ok (.invokevirtual 109, 3) := by decide +kernel
theorem d_R_unwrap_119 : decode c_R_unwrap 119 = .ok (.aload_n 0, 1) := by decide +kernel
theorem d_R_unwrap_120 : decode c_R_unwrap 120 = .ok (.iconst 0, 1) := by decide +kernel
theorem d_R_unwrap_121 : decode c_R_unwrap 121 = .ok (.invokevirtual 116, 3) := by decide +kernel
theorem d_R_unwrap_124 : decode c_R_unwrap 124 = .ok (.lreturn, 1) := by decide +kernel
theorem d_R_refusal_0 : decode c_R_refusal 0 = .ok (.iload_n 1, 1) := by decide +kernel
theorem d_R_refusal_1 : decode c_R_refusal 1 = .ok (.invokestatic 112, 3) := by decide +kernel
theorem d_R_refusal_4 : decode c_R_refusal 4 = .ok (.ifCond .eq 10, 3) := by decide +kernel
theorem d_R_refusal_7 : decode c_R_refusal 7 = .ok (.iload_n 2, 1) := by decide +kernel
theorem d_R_refusal_8 : decode c_R_refusal 8 = .ok (.invokestatic 112, 3) := by decide +kernel
theorem d_R_refusal_11 : decode c_R_refusal 11 = .ok (.ifCond .ne 7, 3) := by decide +kernel
theorem d_R_refusal_14 : decode c_R_refusal 14 = .ok (.iconst 1, 1) := by decide +kernel
theorem d_R_refusal_15 : decode c_R_refusal 15 = .ok (.goto 26, 3) := by decide +kernel
theorem d_R_refusal_18 : decode c_R_refusal 18 = .ok (.aload_n 0, 1) := by decide +kernel
theorem d_R_refusal_19 : decode c_R_refusal 19 = .ok (.getfield 33, 3) := by decide +kernel
theorem d_R_refusal_22 : decode c_R_refusal 22 = .ok (.iload_n 2, 1) := by decide +kernel
theorem d_R_refusal_23 : decode c_R_refusal 23 = .ok (.baload, 1) := by decide +kernel
theorem d_R_refusal_24 : decode c_R_refusal 24 = .ok (.ifCond .eq 12, 3) := by decide +kernel
theorem d_R_refusal_27 : decode c_R_refusal 27 = .ok (.aload_n 0, 1) := by decide +kernel
theorem d_R_refusal_28 : decode c_R_refusal 28 = .ok (.getfield 57, 3) := by decide +kernel
theorem d_R_refusal_31 : decode c_R_refusal 31 = .ok (.iload_n 1, 1) := by decide +kernel
theorem d_R_refusal_32 : decode c_R_refusal 32 = .ok (.baload, 1) := by decide +kernel
theorem d_R_refusal_33 : decode c_R_refusal 33 = .ok (.ifCond .ne 7, 3) := by decide +kernel
theorem d_R_refusal_36 : decode c_R_refusal 36 = .ok (.iconst 2, 1) := by decide +kernel
theorem d_R_refusal_37 : decode c_R_refusal 37 = .ok (.goto 4, 3) := by decide +kernel
theorem d_R_refusal_40 : decode c_R_refusal 40 = .ok (.iconst 0, 1) := by decide +kernel
theorem d_R_refusal_41 : decode c_R_refusal 41 = .ok (.ireturn, 1) := by decide +kernel
theorem d_R_readFrom_0 : decode c_R_readFrom 0 = .ok (.iconst 0, 1) := by decide +kernel
theorem d_R_readFrom_1 : decode c_R_readFrom 1 = .ok (.istore_n 3, 1) := by decide +kernel
theorem d_R_readFrom_2 : decode c_R_readFrom 2 = .ok (.bipush 15, 2) := by decide +kernel
theorem d_R_readFrom_4 : decode c_R_readFrom 4 = .ok (.istore 4, 2) := by decide +kernel
theorem d_R_readFrom_6 : decode c_R_readFrom 6 = .ok (.iload 4, 2) := by decide +kernel
theorem d_R_readFrom_8 : decode c_R_readFrom 8 = .ok (.ifCond .lt 32, 3) := by decide +kernel
theorem d_R_readFrom_11 : decode c_R_readFrom 11 = .ok (.iload_n 3, 1) := by decide +kernel
theorem d_R_readFrom_12 : decode c_R_readFrom 12 = .ok (.iconst 2, 1) := by decide +kernel
theorem d_R_readFrom_13 : decode c_R_readFrom 13 = .ok (.ishl, 1) := by decide +kernel
theorem d_R_readFrom_14 : decode c_R_readFrom 14 = .ok (.aload_n 0, 1) := by decide +kernel
theorem d_R_readFrom_15 : decode c_R_readFrom 15 = .ok (.iload_n 1, 1) := by decide +kernel
theorem d_R_readFrom_16 : decode c_R_readFrom 16 = .ok (.iload_n 2, 1) := by decide +kernel
theorem d_R_readFrom_17 : decode c_R_readFrom 17 = .ok (.iload 4, 2) := by decide +kernel
theorem d_R_readFrom_19 : decode c_R_readFrom 19 = .ok (.iconst 4, 1) := by decide +kernel
theorem d_R_readFrom_20 : decode c_R_readFrom 20 = .ok (.idiv, 1) := by decide +kernel
theorem d_R_readFrom_21 : decode c_R_readFrom 21 = .ok (.iload 4, 2) := by decide +kernel
theorem d_R_readFrom_23 : decode c_R_readFrom 23 = .ok (.iconst 4, 1) := by decide +kernel
theorem d_R_readFrom_24 : decode c_R_readFrom 24 = .ok (.irem, 1) := by decide +kernel
theorem d_R_readFrom_25 : decode c_R_readFrom 25 = .ok (.invokevirtual 140, 3) := by decide +kernel
theorem d_R_readFrom_28 : decode c_R_readFrom 28 = .ok (.sipush 8192, 3) := by decide +kernel
theorem d_R_readFrom_31 : decode c_R_readFrom 31 = .ok (.idiv, 1) := by decide +kernel
theorem d_R_readFrom_32 : decode c_R_readFrom 32 = .ok (.ior, 1) := by decide +kernel
theorem d_R_readFrom_33 : decode c_R_readFrom 33 = .ok (.istore_n 3, 1) := by decide +kernel
theorem d_R_readFrom_34 : decode c_R_readFrom 34 = .ok (.iinc 4 (-1), 3) := by decide +kernel
theorem d_R_readFrom_37 : decode c_R_readFrom 37 = .ok (.goto (-31), 3) := by decide +kernel
theorem d_R_readFrom_40 : decode c_R_readFrom 40 = .ok (.iload_n 3, 1) := by decide +kernel
theorem d_R_readFrom_41 : decode c_R_readFrom 41 = .ok (.ireturn, 1) := by decide +kernel
theorem d_R_shifted_0 : decode c_R_shifted 0 = .ok (.aload_n 0, 1) := by decide +kernel
theorem d_R_shifted_1 : decode c_R_shifted 1 = .ok (.iload_n 1, 1) := by decide +kernel
theorem d_R_shifted_2 : decode c_R_shifted 2 = .ok (.bipush 32, 2) := by decide +kernel
theorem d_R_shifted_4 : decode c_R_shifted 4 = .ok (.iconst 4, 1) := by decide +kernel
theorem d_R_shifted_5 : decode c_R_shifted 5 = .ok (.iload_n 3, 1) := by decide +kernel
theorem d_R_shifted_6 : decode c_R_shifted 6 = .ok (.imul, 1) := by decide +kernel
theorem d_R_shifted_7 : decode c_R_shifted 7 = .ok (.iadd, 1) := by decide +kernel
theorem d_R_shifted_8 : decode c_R_shifted 8 = .ok (.iload 4, 2) := by decide +kernel
theorem d_R_shifted_10 : decode c_R_shifted 10 = .ok (.iadd, 1) := by decide +kernel
theorem d_R_shifted_11 : decode c_R_shifted 11 = .ok (.invokevirtual 136, 3) := by decide +kernel
theorem d_R_shifted_14 : decode c_R_shifted 14 = .ok (.sipush 4096, 3) := by decide +kernel
theorem d_R_shifted_17 : decode c_R_shifted 17 = .ok (.iadd, 1) := by decide +kernel
theorem d_R_shifted_18 : decode c_R_shifted 18 = .ok (.istore 5, 2) := by decide +kernel
theorem d_R_shifted_20 : decode c_R_shifted 20 = .ok (.iconst 0, 1) := by decide +kernel
theorem d_R_shifted_21 : decode c_R_shifted 21 = .ok (.istore 6, 2) := by decide +kernel
theorem d_R_shifted_23 : decode c_R_shifted 23 = .ok (.iload 6, 2) := by decide +kernel
theorem d_R_shifted_25 : decode c_R_shifted 25 = .ok (.bipush 8, 2) := by decide +kernel
theorem d_R_shifted_27 : decode c_R_shifted 27 = .ok (.if_icmp .ge 50, 3) := by decide +kernel
theorem d_R_shifted_30 : decode c_R_shifted 30 = .ok (.iload 5, 2) := by decide +kernel
theorem d_R_shifted_32 : decode c_R_shifted 32 = .ok (.aload_n 0, 1) := by decide +kernel
theorem d_R_shifted_33 : decode c_R_shifted 33 = .ok (.iload_n 1, 1) := by decide +kernel
theorem d_R_shifted_34 : decode c_R_shifted 34 = .ok (.bipush 8, 2) := by decide +kernel
theorem d_R_shifted_36 : decode c_R_shifted 36 = .ok (.iload_n 3, 1) := by decide +kernel
theorem d_R_shifted_37 : decode c_R_shifted 37 = .ok (.imul, 1) := by decide +kernel
theorem d_R_shifted_38 : decode c_R_shifted 38 = .ok (.iload 6, 2) := by decide +kernel
theorem d_R_shifted_40 : decode c_R_shifted 40 = .ok (.iadd, 1) := by decide +kernel
theorem d_R_shifted_41 : decode c_R_shifted 41 = .ok (.invokevirtual 136, 3) := by decide +kernel
theorem d_R_shifted_44 : decode c_R_shifted 44 = .ok (.ldc 104, 2) := by decide +kernel
theorem d_R_shifted_46 : decode c_R_shifted 46 = .ok (.aload_n 0, 1) := by decide +kernel
theorem d_R_shifted_47 : decode c_R_shifted 47 = .ok (.getfield 48, 3) := by decide +kernel
theorem d_R_shifted_50 : decode c_R_shifted 50 = .ok (.bipush 32, 2) := by decide +kernel
theorem d_R_shifted_52 : decode c_R_shifted 52 = .ok (.iload_n 2, 1) := by decide +kernel
theorem d_R_shifted_53 : decode c_R_shifted 53 = .ok (.imul, 1) := by decide +kernel
theorem d_R_shifted_54 : decode c_R_shifted 54 = .ok (.iconst 4, 1) := by decide +kernel
theorem d_R_shifted_55 : decode c_R_shifted 55 = .ok (.iload 6, 2) := by decide +kernel
theorem d_R_shifted_57 : decode c_R_shifted 57 = .ok (.imul, 1) := by decide +kernel
theorem d_R_shifted_58 : decode c_R_shifted 58 = .ok (.iadd, 1) := by decide +kernel
theorem d_R_shifted_59 : decode c_R_shifted 59 = .ok (.iload 4, 2) := by decide +kernel
theorem d_R_shifted_61 : decode c_R_shifted 61 = .ok (.iadd, 1) := by decide +kernel
theorem d_R_shifted_62 : decode c_R_shifted 62 = .ok (.iaload, 1) := by decide +kernel
theorem d_R_shifted_63 : decode c_R_shifted 63 = .ok (.isub, 1) := by decide +kernel
theorem d_R_shifted_64 : decode c_R_shifted 64 = .ok (.imul, 1) := by decide +kernel
theorem d_R_shifted_65 : decode c_R_shifted 65 = .ok (.iadd, 1) := by decide +kernel
theorem d_R_shifted_66 : decode c_R_shifted 66 = .ok (.ldc 104, 2) := by decide +kernel
theorem d_R_shifted_68 : decode c_R_shifted 68 = .ok (.irem, 1) := by decide +kernel
theorem d_R_shifted_69 : decode c_R_shifted 69 = .ok (.istore 5, 2) := by decide +kernel
theorem d_R_shifted_71 : decode c_R_shifted 71 = .ok (.iinc 6 1, 3) := by decide +kernel
theorem d_R_shifted_74 : decode c_R_shifted 74 = .ok (.goto (-51), 3) := by decide +kernel
theorem d_R_shifted_77 : decode c_R_shifted 77 = .ok (.iload 5, 2) := by decide +kernel
theorem d_R_shifted_79 : decode c_R_shifted 79 = .ok (.ldc 104, 2) := by decide +kernel
theorem d_R_shifted_81 : decode c_R_shifted 81 = .ok (.irem, 1) := by decide +kernel
theorem d_R_shifted_82 : decode c_R_shifted 82 = .ok (.ireturn, 1) := by decide +kernel
theorem d_R_wrapEntry_0 : decode c_R_wrapEntry 0 = .ok (.iconst 0, 1) := by decide +kernel
theorem d_R_wrapEntry_1 : decode c_R_wrapEntry 1 = .ok (.istore_n 3, 1) := by decide +kernel
theorem d_R_wrapEntry_2 : decode c_R_wrapEntry 2 = .ok (.bipush 15, 2) := by decide +kernel
theorem d_R_wrapEntry_4 : decode c_R_wrapEntry 4 = .ok (.iload_n 2, 1) := by decide +kernel
theorem d_R_wrapEntry_5 : decode c_R_wrapEntry 5 = .ok (.imul, 1) := by decide +kernel
theorem d_R_wrapEntry_6 : decode c_R_wrapEntry 6 = .ok (.istore 4, 2) := by decide +kernel
theorem d_R_wrapEntry_8 : decode c_R_wrapEntry 8 = .ok (.iload 4, 2) := by decide +kernel
theorem d_R_wrapEntry_10 : decode c_R_wrapEntry 10 = .ok (.bipush 15, 2) := by decide +kernel
theorem d_R_wrapEntry_12 : decode c_R_wrapEntry 12 = .ok (.iload_n 2, 1) := by decide +kernel
theorem d_R_wrapEntry_13 : decode c_R_wrapEntry 13 = .ok (.imul, 1) := by decide +kernel
theorem d_R_wrapEntry_14 : decode c_R_wrapEntry 14 = .ok (.bipush 15, 2) := by decide +kernel
theorem d_R_wrapEntry_16 : decode c_R_wrapEntry 16 = .ok (.iadd, 1) := by decide +kernel
theorem d_R_wrapEntry_17 : decode c_R_wrapEntry 17 = .ok (.if_icmp .ge 40, 3) := by decide +kernel
theorem d_R_wrapEntry_20 : decode c_R_wrapEntry 20 = .ok (.iconst 2, 1) := by decide +kernel
theorem d_R_wrapEntry_21 : decode c_R_wrapEntry 21 = .ok (.iload_n 3, 1) := by decide +kernel
theorem d_R_wrapEntry_22 : decode c_R_wrapEntry 22 = .ok (.imul, 1) := by decide +kernel
theorem d_R_wrapEntry_23 : decode c_R_wrapEntry 23 = .ok (.aload_n 0, 1) := by decide +kernel
theorem d_R_wrapEntry_24 : decode c_R_wrapEntry 24 = .ok (.getfield 60, 3) := by decide +kernel
theorem d_R_wrapEntry_27 : decode c_R_wrapEntry 27 = .ok (.bipush 90, 2) := by decide +kernel
theorem d_R_wrapEntry_29 : decode c_R_wrapEntry 29 = .ok (.iload_n 1, 1) := by decide +kernel
theorem d_R_wrapEntry_30 : decode c_R_wrapEntry 30 = .ok (.imul, 1) := by decide +kernel
theorem d_R_wrapEntry_31 : decode c_R_wrapEntry 31 = .ok (.iload 4, 2) := by decide +kernel
theorem d_R_wrapEntry_33 : decode c_R_wrapEntry 33 = .ok (.bipush 8, 2) := by decide +kernel
theorem d_R_wrapEntry_35 : decode c_R_wrapEntry 35 = .ok (.idiv, 1) := by decide +kernel
theorem d_R_wrapEntry_36 : decode c_R_wrapEntry 36 = .ok (.iadd, 1) := by decide +kernel
theorem d_R_wrapEntry_37 : decode c_R_wrapEntry 37 = .ok (.iaload, 1) := by decide +kernel
theorem d_R_wrapEntry_38 : decode c_R_wrapEntry 38 = .ok (.bipush 7, 2) := by decide +kernel
theorem d_R_wrapEntry_40 : decode c_R_wrapEntry 40 = .ok (.iload 4, 2) := by decide +kernel
theorem d_R_wrapEntry_42 : decode c_R_wrapEntry 42 = .ok (.bipush 8, 2) := by decide +kernel
theorem d_R_wrapEntry_44 : decode c_R_wrapEntry 44 = .ok (.irem, 1) := by decide +kernel
theorem d_R_wrapEntry_45 : decode c_R_wrapEntry 45 = .ok (.isub, 1) := by decide +kernel
theorem d_R_wrapEntry_46 : decode c_R_wrapEntry 46 = .ok (.ishr, 1) := by decide +kernel
theorem d_R_wrapEntry_47 : decode c_R_wrapEntry 47 = .ok (.iconst 1, 1) := by decide +kernel
theorem d_R_wrapEntry_48 : decode c_R_wrapEntry 48 = .ok (.iand, 1) := by decide +kernel
theorem d_R_wrapEntry_49 : decode c_R_wrapEntry 49 = .ok (.iadd, 1) := by decide +kernel
theorem d_R_wrapEntry_50 : decode c_R_wrapEntry 50 = .ok (.istore_n 3, 1) := by decide +kernel
theorem d_R_wrapEntry_51 : decode c_R_wrapEntry 51 = .ok (.iinc 4 1, 3) := by decide +kernel
theorem d_R_wrapEntry_54 : decode c_R_wrapEntry 54 = .ok (.goto (-46), 3) := by decide +kernel
theorem d_R_wrapEntry_57 : decode c_R_wrapEntry 57 = .ok (.iload_n 3, 1) := by decide +kernel
theorem d_R_wrapEntry_58 : decode c_R_wrapEntry 58 = .ok (.ireturn, 1) := by decide +kernel
theorem d_R_change_0 : decode c_R_change 0 = .ok (.aload_n 0, 1) := by decide +kernel
theorem d_R_change_1 : decode c_R_change 1 = .ok (.aload_n 0, 1) := by decide +kernel
theorem d_R_change_2 : decode c_R_change 2 = .ok (.iload_n 1, 1) := by decide +kernel
theorem d_R_change_3 : decode c_R_change 3 = .ok (.iload_n 2, 1) := by decide +kernel
theorem d_R_change_4 : decode c_R_change 4 = .ok (.invokevirtual 154, 3) := by decide +kernel
theorem d_R_change_7 : decode c_R_change 7 = .ok (.putfield 72, 3) := by decide +kernel
theorem d_R_change_10 : decode c_R_change 10 = .ok (.aload_n 0, 1) := by decide +kernel
theorem d_R_change_11 : decode c_R_change 11 = .ok (.getfield 72, 3) := by decide +kernel
theorem d_R_change_14 : decode c_R_change 14 = .ok (.ifCond .le 5, 3) := by decide +kernel
theorem d_R_change_17 : decode c_R_change 17 = .ok (.iconst 0, 1) := by decide +kernel
theorem d_R_change_18 : decode c_R_change 18 = .ok (.ireturn, 1) := by decide +kernel
theorem d_R_change_19 : decode c_R_change 19 = .ok (.aload_n 0, 1) := by decide +kernel
theorem d_R_change_20 : decode c_R_change 20 = .ok (.getfield 60, 3) := by decide +kernel
theorem d_R_change_23 : decode c_R_change 23 = .ok (.bipush 90, 2) := by decide +kernel
theorem d_R_change_25 : decode c_R_change 25 = .ok (.iload_n 1, 1) := by decide +kernel
theorem d_R_change_26 : decode c_R_change 26 = .ok (.imul, 1) := by decide +kernel
theorem d_R_change_27 : decode c_R_change 27 = .ok (.iload_n 2, 1) := by decide +kernel
theorem d_R_change_28 : decode c_R_change 28 = .ok (.iadd, 1) := by decide +kernel
theorem d_R_change_29 : decode c_R_change 29 = .ok (.aload_n 0, 1) := by decide +kernel
theorem d_R_change_30 : decode c_R_change 30 = .ok (.getfield 60, 3) := by decide +kernel
theorem d_R_change_33 : decode c_R_change 33 = .ok (.bipush 90, 2) := by decide +kernel
theorem d_R_change_35 : decode c_R_change 35 = .ok (.iload_n 1, 1) := by decide +kernel
theorem d_R_change_36 : decode c_R_change 36 = .ok (.imul, 1) := by decide +kernel
theorem d_R_change_37 : decode c_R_change 37 = .ok (.iload_n 2, 1) := by decide +kernel
theorem d_R_change_38 : decode c_R_change 38 = .ok (.iadd, 1) := by decide +kernel
theorem d_R_change_39 : decode c_R_change 39 = .ok (.iaload, 1) := by decide +kernel
theorem d_R_change_40 : decode c_R_change 40 = .ok (.iload_n 3, 1) := by decide +kernel
theorem d_R_change_41 : decode c_R_change 41 = .ok (.sipush 255, 3) := by decide +kernel
theorem d_R_change_44 : decode c_R_change 44 = .ok (.iand, 1) := by decide +kernel
theorem d_R_change_45 : decode c_R_change 45 = .ok (.ixor, 1) := by decide +kernel
theorem d_R_change_46 : decode c_R_change 46 = .ok (.iastore, 1) := by decide +kernel
theorem d_R_change_47 : decode c_R_change 47 = .ok (.aload_n 0, 1) := by decide +kernel
theorem d_R_change_48 : decode c_R_change 48 = .ok (.getfield 60, 3) := by decide +kernel
theorem d_R_change_51 : decode c_R_change 51 = .ok (.bipush 90, 2) := by decide +kernel
theorem d_R_change_53 : decode c_R_change 53 = .ok (.iload_n 1, 1) := by decide +kernel
theorem d_R_change_54 : decode c_R_change 54 = .ok (.imul, 1) := by decide +kernel
theorem d_R_change_55 : decode c_R_change 55 = .ok (.iload_n 2, 1) := by decide +kernel
theorem d_R_change_56 : decode c_R_change 56 = .ok (.iadd, 1) := by decide +kernel
theorem d_R_change_57 : decode c_R_change 57 = .ok (.iaload, 1) := by decide +kernel
theorem d_R_change_58 : decode c_R_change 58 = .ok (.ireturn, 1) := by decide +kernel
theorem d_R_byteRefusal_0 : decode c_R_byteRefusal 0 = .ok (.iload_n 1, 1) := by decide +kernel
theorem d_R_byteRefusal_1 : decode c_R_byteRefusal 1 = .ok (.invokestatic 112, 3) := by decide +kernel
theorem d_R_byteRefusal_4 : decode c_R_byteRefusal 4 = .ok (.ifCond .ne 7, 3) := by decide +kernel
theorem d_R_byteRefusal_7 : decode c_R_byteRefusal 7 = .ok (.iconst 1, 1) := by decide +kernel
theorem d_R_byteRefusal_8 : decode c_R_byteRefusal 8 = .ok (.goto 31, 3) := by decide +kernel
theorem d_R_byteRefusal_11 : decode c_R_byteRefusal 11 = .ok (.aload_n 0, 1) := by decide +kernel
theorem d_R_byteRefusal_12 : decode c_R_byteRefusal 12 = .ok (.getfield 57, 3) := by decide +kernel
theorem d_R_byteRefusal_15 : decode c_R_byteRefusal 15 = .ok (.iload_n 1, 1) := by decide +kernel
theorem d_R_byteRefusal_16 : decode c_R_byteRefusal 16 = .ok (.baload, 1) := by decide +kernel
theorem d_R_byteRefusal_17 : decode c_R_byteRefusal 17 = .ok (.ifCond .ne 7, 3) := by decide +kernel
theorem d_R_byteRefusal_20 : decode c_R_byteRefusal 20 = .ok (.iconst 2, 1) := by decide +kernel
theorem d_R_byteRefusal_21 : decode c_R_byteRefusal 21 = .ok (.goto 18, 3) := by decide +kernel
theorem d_R_byteRefusal_24 : decode c_R_byteRefusal 24 = .ok (.iload_n 2, 1) := by decide +kernel
theorem d_R_byteRefusal_25 : decode c_R_byteRefusal 25 = .ok (.ifCond .lt 9, 3) := by decide +kernel
theorem d_R_byteRefusal_28 : decode c_R_byteRefusal 28 = .ok (.iload_n 2, 1) := by decide +kernel
theorem d_R_byteRefusal_29 : decode c_R_byteRefusal 29 = .ok (.bipush 89, 2) := by decide +kernel
theorem d_R_byteRefusal_31 : decode c_R_byteRefusal 31 = .ok (.if_icmp .le 7, 3) := by decide +kernel
theorem d_R_byteRefusal_34 : decode c_R_byteRefusal 34 = .ok (.iconst 3, 1) := by decide +kernel
theorem d_R_byteRefusal_35 : decode c_R_byteRefusal 35 = .ok (.goto 4, 3) := by decide +kernel
theorem d_R_byteRefusal_38 : decode c_R_byteRefusal 38 = .ok (.iconst 0, 1) := by decide +kernel
theorem d_R_byteRefusal_39 : decode c_R_byteRefusal 39 = .ok (.ireturn, 1) := by decide +kernel
theorem d_R_copy_0 : decode c_R_copy 0 = .ok (.aload_n 0, 1) := by decide +kernel
theorem d_R_copy_1 : decode c_R_copy 1 = .ok (.iload_n 1, 1) := by decide +kernel
theorem d_R_copy_2 : decode c_R_copy 2 = .ok (.invokestatic 112, 3) := by decide +kernel
theorem d_R_copy_5 : decode c_R_copy 5 = .ok (.ifCond .eq 10, 3) := by decide +kernel
theorem d_R_copy_8 : decode c_R_copy 8 = .ok (.iload_n 2, 1) := by decide +kernel
theorem d_R_copy_9 : decode c_R_copy 9 = .ok (.invokestatic 112, 3) := by decide +kernel
theorem d_R_copy_12 : decode c_R_copy 12 = .ok (.ifCond .ne 7, 3) := by decide +kernel
theorem d_R_copy_15 : decode c_R_copy 15 = .ok (.iconst 1, 1) := by decide +kernel
theorem d_R_copy_16 : decode c_R_copy 16 = .ok (.goto 17, 3) := by decide +kernel
theorem d_R_copy_19 : decode c_R_copy 19 = .ok (.aload_n 0, 1) := by decide +kernel
theorem d_R_copy_20 : decode c_R_copy 20 = .ok (.getfield 57, 3) := by decide +kernel
theorem d_R_copy_23 : decode c_R_copy 23 = .ok (.iload_n 1, 1) := by decide +kernel
theorem d_R_copy_24 : decode c_R_copy 24 = .ok (.baload, 1) := by decide +kernel
theorem d_R_copy_25 : decode c_R_copy 25 = .ok (.ifCond .ne 7, 3) := by decide +kernel
theorem d_R_copy_28 : decode c_R_copy 28 = .ok (.iconst 2, 1) := by decide +kernel
theorem d_R_copy_29 : decode c_R_copy 29 = .ok (.goto 4, 3) := by decide +kernel
theorem d_R_copy_32 : decode c_R_copy 32 = .ok (.iconst 0, 1) := by decide +kernel
theorem d_R_copy_33 : decode c_R_copy 33 = .ok (.putfield 72, 3) := by decide +kernel
theorem d_R_copy_36 : decode c_R_copy 36 = .ok (.iconst 0, 1) := by decide +kernel
theorem d_R_copy_37 : decode c_R_copy 37 = .ok (.istore_n 3, 1) := by decide +kernel
theorem d_R_copy_38 : decode c_R_copy 38 = .ok (.iload_n 3, 1) := by decide +kernel
theorem d_R_copy_39 : decode c_R_copy 39 = .ok (.bipush 90, 2) := by decide +kernel
theorem d_R_copy_41 : decode c_R_copy 41 = .ok (.if_icmp .ge 45, 3) := by decide +kernel
theorem d_R_copy_44 : decode c_R_copy 44 = .ok (.aload_n 0, 1) := by decide +kernel
theorem d_R_copy_45 : decode c_R_copy 45 = .ok (.getfield 72, 3) := by decide +kernel
theorem d_R_copy_48 : decode c_R_copy 48 = .ok (.ifCond .ne 38, 3) := by decide +kernel
theorem d_R_copy_51 : decode c_R_copy 51 = .ok (.aload_n 0, 1) := by decide +kernel
theorem d_R_copy_52 : decode c_R_copy 52 = .ok (.getfield 60, 3) := by decide +kernel
theorem d_R_copy_55 : decode c_R_copy 55 = .ok (.bipush 90, 2) := by decide +kernel
theorem d_R_copy_57 : decode c_R_copy 57 = .ok (.iload_n 2, 1) := by decide +kernel
theorem d_R_copy_58 : decode c_R_copy 58 = .ok (.imul, 1) := by decide +kernel
theorem d_R_copy_59 : decode c_R_copy 59 = .ok (.iload_n 3, 1) := by decide +kernel
theorem d_R_copy_60 : decode c_R_copy 60 = .ok (.iadd, 1) := by decide +kernel
theorem d_R_copy_61 : decode c_R_copy 61 = .ok (.aload_n 0, 1) := by decide +kernel
theorem d_R_copy_62 : decode c_R_copy 62 = .ok (.getfield 60, 3) := by decide +kernel
theorem d_R_copy_65 : decode c_R_copy 65 = .ok (.bipush 90, 2) := by decide +kernel
theorem d_R_copy_67 : decode c_R_copy 67 = .ok (.iload_n 1, 1) := by decide +kernel
theorem d_R_copy_68 : decode c_R_copy 68 = .ok (.imul, 1) := by decide +kernel
theorem d_R_copy_69 : decode c_R_copy 69 = .ok (.iload_n 3, 1) := by decide +kernel
theorem d_R_copy_70 : decode c_R_copy 70 = .ok (.iadd, 1) := by decide +kernel
theorem d_R_copy_71 : decode c_R_copy 71 = .ok (.iaload, 1) := by decide +kernel
theorem d_R_copy_72 : decode c_R_copy 72 = .ok (.iastore, 1) := by decide +kernel
theorem d_R_copy_73 : decode c_R_copy 73 = .ok (.aload_n 0, 1) := by decide +kernel
theorem d_R_copy_74 : decode c_R_copy 74 = .ok (.getfield 57, 3) := by decide +kernel
theorem d_R_copy_77 : decode c_R_copy 77 = .ok (.iload_n 2, 1) := by decide +kernel
theorem d_R_copy_78 : decode c_R_copy 78 = .ok (.iconst 1, 1) := by decide +kernel
theorem d_R_copy_79 : decode c_R_copy 79 = .ok (.bastore, 1) := by decide +kernel
theorem d_R_copy_80 : decode c_R_copy 80 = .ok (.iinc 3 1, 3) := by decide +kernel
theorem d_R_copy_83 : decode c_R_copy 83 = .ok (.goto (-45), 3) := by decide +kernel
theorem d_R_copy_86 : decode c_R_copy 86 = .ok (.return_, 1) := by decide +kernel
theorem d_R_forget_0 : decode c_R_forget 0 = .ok (.aload_n 0, 1) := by decide +kernel
theorem d_R_forget_1 : decode c_R_forget 1 = .ok (.iload_n 2, 1) := by decide +kernel
theorem d_R_forget_2 : decode c_R_forget 2 = .ok (.invokestatic 112, 3) := by decide +kernel
theorem d_R_forget_5 : decode c_R_forget 5 = .ok (.ifCond .eq 7, 3) := by decide +kernel
theorem d_R_forget_8 : decode c_R_forget 8 = .ok (.iconst 0, 1) := by decide +kernel
theorem d_R_forget_9 : decode c_R_forget 9 = .ok (.goto 4, 3) := by decide +kernel
theorem d_R_forget_12 : decode c_R_forget 12 = .ok (.iconst 1, 1) := by decide +kernel
theorem d_R_forget_13 : decode c_R_forget 13 = .ok (.putfield 72, 3) := by decide +kernel
theorem d_R_forget_16 : decode c_R_forget 16 = .ok (.aload_n 0, 1) := by decide +kernel
theorem d_R_forget_17 : decode c_R_forget 17 = .ok (.getfield 72, 3) := by decide +kernel
theorem d_R_forget_20 : decode c_R_forget 20 = .ok (.ifCond .le 5, 3) := by decide +kernel
theorem d_R_forget_23 : decode c_R_forget 23 = .ok (.iconst 0, 1) := by decide +kernel
theorem d_R_forget_24 : decode c_R_forget 24 = .ok (.ireturn, 1) := by decide +kernel
theorem d_R_forget_25 : decode c_R_forget 25 = .ok (.iload_n 1, 1) := by decide +kernel
theorem d_R_forget_26 : decode c_R_forget 26 = .ok (.ifCond .eq 12, 3) := by decide +kernel
theorem d_R_forget_29 : decode c_R_forget 29 = .ok (.aload_n 0, 1) := by decide +kernel
theorem d_R_forget_30 : decode c_R_forget 30 = .ok (.getfield 33, 3) := by decide +kernel
theorem d_R_forget_33 : decode c_R_forget 33 = .ok (.iload_n 2, 1) := by decide +kernel
theorem d_R_forget_34 : decode c_R_forget 34 = .ok (.baload, 1) := by decide +kernel
theorem d_R_forget_35 : decode c_R_forget 35 = .ok (.goto 9, 3) := by decide +kernel
theorem d_R_forget_38 : decode c_R_forget 38 = .ok (.aload_n 0, 1) := by decide +kernel
theorem d_R_forget_39 : decode c_R_forget 39 = .ok (.getfield 57, 3) := by decide +kernel
theorem d_R_forget_42 : decode c_R_forget 42 = .ok (.iload_n 2, 1) := by decide +kernel
theorem d_R_forget_43 : decode c_R_forget 43 = .ok (.baload, 1) := by decide +kernel
theorem d_R_forget_44 : decode c_R_forget 44 = .ok (.istore_n 3, 1) := by decide +kernel
theorem d_R_forget_45 : decode c_R_forget 45 = .ok (.iload_n 1, 1) := by decide +kernel
theorem d_R_forget_46 : decode c_R_forget 46 = .ok (.ifCond .eq 13, 3) := by decide +kernel
theorem d_R_forget_49 : decode c_R_forget 49 = .ok (.aload_n 0, 1) := by decide +kernel
theorem d_R_forget_50 : decode c_R_forget 50 = .ok (.getfield 33, 3) := by decide +kernel
theorem d_R_forget_53 : decode c_R_forget 53 = .ok (.iload_n 2, 1) := by decide +kernel
theorem d_R_forget_54 : decode c_R_forget 54 = .ok (.iconst 0, 1) := by decide +kernel
theorem d_R_forget_55 : decode c_R_forget 55 = .ok (.bastore, 1) := by decide +kernel
theorem d_R_forget_56 : decode c_R_forget 56 = .ok (.goto 10, 3) := by decide +kernel
theorem d_R_forget_59 : decode c_R_forget 59 = .ok (.aload_n 0, 1) := by decide +kernel
theorem d_R_forget_60 : decode c_R_forget 60 = .ok (.getfield 57, 3) := by decide +kernel
theorem d_R_forget_63 : decode c_R_forget 63 = .ok (.iload_n 2, 1) := by decide +kernel
theorem d_R_forget_64 : decode c_R_forget 64 = .ok (.iconst 0, 1) := by decide +kernel
theorem d_R_forget_65 : decode c_R_forget 65 = .ok (.bastore, 1) := by decide +kernel
theorem d_R_forget_66 : decode c_R_forget 66 = .ok (.iload_n 3, 1) := by decide +kernel
theorem d_R_forget_67 : decode c_R_forget 67 = .ok (.ireturn, 1) := by decide +kernel
theorem d_R_wrapByte_0 : decode c_R_wrapByte 0 = .ok (.aload_n 0, 1) := by decide +kernel
theorem d_R_wrapByte_1 : decode c_R_wrapByte 1 = .ok (.aload_n 0, 1) := by decide +kernel
theorem d_R_wrapByte_2 : decode c_R_wrapByte 2 = .ok (.iload_n 1, 1) := by decide +kernel
theorem d_R_wrapByte_3 : decode c_R_wrapByte 3 = .ok (.iload_n 2, 1) := by decide +kernel
theorem d_R_wrapByte_4 : decode c_R_wrapByte 4 = .ok (.invokevirtual 154, 3) := by decide +kernel
theorem d_R_wrapByte_7 : decode c_R_wrapByte 7 = .ok (.putfield 72, 3) := by decide +kernel
theorem d_R_wrapByte_10 : decode c_R_wrapByte 10 = .ok (.aload_n 0, 1) := by decide +kernel
theorem d_R_wrapByte_11 : decode c_R_wrapByte 11 = .ok (.getfield 72, 3) := by decide +kernel
theorem d_R_wrapByte_14 : decode c_R_wrapByte 14 = .ok (.ifCond .le 7, 3) := by decide +kernel
theorem d_R_wrapByte_17 : decode c_R_wrapByte 17 = .ok (.iconst 0, 1) := by decide +kernel
theorem d_R_wrapByte_18 : decode c_R_wrapByte 18 = .ok (.goto 14, 3) := by decide +kernel
theorem d_R_wrapByte_21 : decode c_R_wrapByte 21 = .ok (.aload_n 0, 1) := by decide +kernel
theorem d_R_wrapByte_22 : decode c_R_wrapByte 22 = .ok (.getfield 60, 3) := by decide +kernel
theorem d_R_wrapByte_25 : decode c_R_wrapByte 25 = .ok (.bipush 90, 2) := by decide +kernel
theorem d_R_wrapByte_27 : decode c_R_wrapByte 27 = .ok (.iload_n 1, 1) := by decide +kernel
theorem d_R_wrapByte_28 : decode c_R_wrapByte 28 = .ok (.imul, 1) := by decide +kernel
theorem d_R_wrapByte_29 : decode c_R_wrapByte 29 = .ok (.iload_n 2, 1) := by decide +kernel
theorem d_R_wrapByte_30 : decode c_R_wrapByte 30 = .ok (.iadd, 1) := by decide +kernel
theorem d_R_wrapByte_31 : decode c_R_wrapByte 31 = .ok (.iaload, 1) := by decide +kernel
theorem d_R_wrapByte_32 : decode c_R_wrapByte 32 = .ok (.ireturn, 1) := by decide +kernel
theorem d_R_publicByte_0 : decode c_R_publicByte 0 = .ok (.aload_n 0, 1) := by decide +kernel
theorem d_R_publicByte_1 : decode c_R_publicByte 1 = .ok (.iload_n 1, 1) := by decide +kernel
theorem d_R_publicByte_2 : decode c_R_publicByte 2 = .ok (.invokestatic 112, 3) := by decide +kernel
theorem d_R_publicByte_5 : decode c_R_publicByte 5 = .ok (.ifCond .ne 7, 3) := by decide +kernel
theorem d_R_publicByte_8 : decode c_R_publicByte 8 = .ok (.iconst 1, 1) := by decide +kernel
theorem d_R_publicByte_9 : decode c_R_publicByte 9 = .ok (.goto 31, 3) := by decide +kernel
theorem d_R_publicByte_12 : decode c_R_publicByte 12 = .ok (.aload_n 0, 1) := by decide +kernel
theorem d_R_publicByte_13 : decode c_R_publicByte 13 = .ok (.getfield 33, 3) := by decide +kernel
theorem d_R_publicByte_16 : decode c_R_publicByte 16 = .ok (.iload_n 1, 1) := by decide +kernel
theorem d_R_publicByte_17 : decode c_R_publicByte 17 = .ok (.baload, 1) := by decide +kernel
theorem d_R_publicByte_18 : decode c_R_publicByte 18 = .ok (.ifCond .ne 7, 3) := by decide +kernel
theorem d_R_publicByte_21 : decode c_R_publicByte 21 = .ok (.iconst 2, 1) := by decide +kernel
theorem d_R_publicByte_22 : decode c_R_publicByte 22 = .ok (.goto 18, 3) := by decide +kernel
theorem d_R_publicByte_25 : decode c_R_publicByte 25 = .ok (.iload_n 2, 1) := by decide +kernel
theorem d_R_publicByte_26 : decode c_R_publicByte 26 = .ok (.ifCond .lt 9, 3) := by decide +kernel
theorem d_R_publicByte_29 : decode c_R_publicByte 29 = .ok (.iload_n 2, 1) := by decide +kernel
theorem d_R_publicByte_30 : decode c_R_publicByte 30 = .ok (.bipush 67, 2) := by decide +kernel
theorem d_R_publicByte_32 : decode c_R_publicByte 32 = .ok (.if_icmp .le 7, 3) := by decide +kernel
theorem d_R_publicByte_35 : decode c_R_publicByte 35 = .ok (.iconst 3, 1) := by decide +kernel
theorem d_R_publicByte_36 : decode c_R_publicByte 36 = .ok (.goto 4, 3) := by decide +kernel
theorem d_R_publicByte_39 : decode c_R_publicByte 39 = .ok (.iconst 0, 1) := by decide +kernel
theorem d_R_publicByte_40 : decode c_R_publicByte 40 = .ok (.putfield 72, 3) := by decide +kernel
theorem d_R_publicByte_43 : decode c_R_publicByte 43 = .ok (.aload_n 0, 1) := by decide +kernel
theorem d_R_publicByte_44 : decode c_R_publicByte 44 = .ok (.getfield 72, 3) := by decide +kernel
theorem d_R_publicByte_47 : decode c_R_publicByte 47 = .ok (.ifCond .le 5, 3) := by decide +kernel
theorem d_R_publicByte_50 : decode c_R_publicByte 50 = .ok (.iconst 0, 1) := by decide +kernel
theorem d_R_publicByte_51 : decode c_R_publicByte 51 = .ok (.ireturn, 1) := by decide +kernel
theorem d_R_publicByte_52 : decode c_R_publicByte 52 = .ok (.iload_n 2, 1) := by decide +kernel
theorem d_R_publicByte_53 : decode c_R_publicByte 53 = .ok (.bipush 8, 2) := by decide +kernel
theorem d_R_publicByte_55 : decode c_R_publicByte 55 = .ok (.if_icmp .ge 22, 3) := by decide +kernel
theorem d_R_publicByte_58 : decode c_R_publicByte 58 = .ok (.aload_n 0, 1) := by decide +kernel
theorem d_R_publicByte_59 : decode c_R_publicByte 59 = .ok (.getfield 36, 3) := by decide +kernel
theorem d_R_publicByte_62 : decode c_R_publicByte 62 = .ok (.iload_n 1, 1) := by decide +kernel
theorem d_R_publicByte_63 : decode c_R_publicByte 63 = .ok (.laload, 1) := by decide +kernel
theorem d_R_publicByte_64 : decode c_R_publicByte 64 = .ok (.bipush 8, 2) := by decide +kernel
theorem d_R_publicByte_66 : decode c_R_publicByte 66 = .ok (.iload_n 2, 1) := by decide +kernel
theorem d_R_publicByte_67 : decode c_R_publicByte 67 = .ok (.imul, 1) := by decide +kernel
theorem d_R_publicByte_68 : decode c_R_publicByte 68 = .ok (.lushr, 1) := by decide +kernel
theorem d_R_publicByte_69 : decode c_R_publicByte 69 = .ok (.ldc2_w 85, 3) := by decide +kernel
theorem d_R_publicByte_72 : decode c_R_publicByte 72 = .ok (.land, 1) := by decide +kernel
theorem d_R_publicByte_73 : decode c_R_publicByte 73 = .ok (.l2i, 1) := by decide +kernel
theorem d_R_publicByte_74 : decode c_R_publicByte 74 = .ok (.goto 18, 3) := by decide +kernel
theorem d_R_publicByte_77 : decode c_R_publicByte 77 = .ok (.aload_n 0, 1) := by decide +kernel
theorem d_R_publicByte_78 : decode c_R_publicByte 78 = .ok (.getfield 51, 3) := by decide +kernel
theorem d_R_publicByte_81 : decode c_R_publicByte 81 = .ok (.bipush 32, 2) := by decide +kernel
theorem d_R_publicByte_83 : decode c_R_publicByte 83 = .ok (.iload_n 1, 1) := by decide +kernel
theorem d_R_publicByte_84 : decode c_R_publicByte 84 = .ok (.imul, 1) := by decide +kernel
theorem d_R_publicByte_85 : decode c_R_publicByte 85 = .ok (.iload_n 2, 1) := by decide +kernel
theorem d_R_publicByte_86 : decode c_R_publicByte 86 = .ok (.bipush 8, 2) := by decide +kernel
theorem d_R_publicByte_88 : decode c_R_publicByte 88 = .ok (.isub, 1) := by decide +kernel
theorem d_R_publicByte_89 : decode c_R_publicByte 89 = .ok (.invokestatic 105, 3) := by decide +kernel
theorem d_R_publicByte_92 : decode c_R_publicByte 92 = .ok (.ireturn, 1) := by decide +kernel
theorem d_R_entry_0 : decode c_R_entry 0 = .ok (.aload_n 0, 1) := by decide +kernel
theorem d_R_entry_1 : decode c_R_entry 1 = .ok (.iload_n 1, 1) := by decide +kernel
theorem d_R_entry_2 : decode c_R_entry 2 = .ok (.invokestatic 112, 3) := by decide +kernel
theorem d_R_entry_5 : decode c_R_entry 5 = .ok (.ifCond .eq 12, 3) := by decide +kernel
theorem d_R_entry_8 : decode c_R_entry 8 = .ok (.iload_n 2, 1) := by decide +kernel
theorem d_R_entry_9 : decode c_R_entry 9 = .ok (.ifCond .lt 8, 3) := by decide +kernel
theorem d_R_entry_12 : decode c_R_entry 12 = .ok (.iload_n 2, 1) := by decide +kernel
theorem d_R_entry_13 : decode c_R_entry 13 = .ok (.iconst 3, 1) := by decide +kernel
theorem d_R_entry_14 : decode c_R_entry 14 = .ok (.if_icmp .le 7, 3) := by decide +kernel
theorem d_R_entry_17 : decode c_R_entry 17 = .ok (.iconst 1, 1) := by decide +kernel
theorem d_R_entry_18 : decode c_R_entry 18 = .ok (.goto 51, 3) := by decide +kernel
theorem d_R_entry_21 : decode c_R_entry 21 = .ok (.aload_n 0, 1) := by decide +kernel
theorem d_R_entry_22 : decode c_R_entry 22 = .ok (.getfield 33, 3) := by decide +kernel
theorem d_R_entry_25 : decode c_R_entry 25 = .ok (.iload_n 1, 1) := by decide +kernel
theorem d_R_entry_26 : decode c_R_entry 26 = .ok (.baload, 1) := by decide +kernel
theorem d_R_entry_27 : decode c_R_entry 27 = .ok (.ifCond .ne 7, 3) := by decide +kernel
theorem d_R_entry_30 : decode c_R_entry 30 = .ok (.iconst 2, 1) := by decide +kernel
theorem d_R_entry_31 : decode c_R_entry 31 = .ok (.goto 38, 3) := by decide +kernel
theorem d_R_entry_34 : decode c_R_entry 34 = .ok (.iload_n 3, 1) := by decide +kernel
theorem d_R_entry_35 : decode c_R_entry 35 = .ok (.ifCond .lt 29, 3) := by decide +kernel
theorem d_R_entry_38 : decode c_R_entry 38 = .ok (.iload_n 3, 1) := by decide +kernel
theorem d_R_entry_39 : decode c_R_entry 39 = .ok (.bipush 7, 2) := by decide +kernel
theorem d_R_entry_41 : decode c_R_entry 41 = .ok (.if_icmp .gt 23, 3) := by decide +kernel
theorem d_R_entry_44 : decode c_R_entry 44 = .ok (.iload 4, 2) := by decide +kernel
theorem d_R_entry_46 : decode c_R_entry 46 = .ok (.ifCond .lt 18, 3) := by decide +kernel
theorem d_R_entry_49 : decode c_R_entry 49 = .ok (.iload 4, 2) := by decide +kernel
theorem d_R_entry_51 : decode c_R_entry 51 = .ok (.iload_n 2, 1) := by decide +kernel
theorem d_R_entry_52 : decode c_R_entry 52 = .ok (.ifCond .ne 8, 3) := by decide +kernel
theorem d_R_entry_55 : decode c_R_entry 55 = .ok (.bipush 7, 2) := by decide +kernel
theorem d_R_entry_57 : decode c_R_entry 57 = .ok (.goto 4, 3) := by decide +kernel
theorem d_R_entry_60 : decode c_R_entry 60 = .ok (.iconst 3, 1) := by decide +kernel
theorem d_R_entry_61 : decode c_R_entry 61 = .ok (.if_icmp .le 7, 3) := by decide +kernel
theorem d_R_entry_64 : decode c_R_entry 64 = .ok (.iconst 3, 1) := by decide +kernel
theorem d_R_entry_65 : decode c_R_entry 65 = .ok (.goto 4, 3) := by decide +kernel
theorem d_R_entry_68 : decode c_R_entry 68 = .ok (.iconst 0, 1) := by decide +kernel
theorem d_R_entry_69 : decode c_R_entry 69 = .ok (.putfield 72, 3) := by decide +kernel
theorem d_R_entry_72 : decode c_R_entry 72 = .ok (.aload_n 0, 1) := by decide +kernel
theorem d_R_entry_73 : decode c_R_entry 73 = .ok (.getfield 72, 3) := by decide +kernel
theorem d_R_entry_76 : decode c_R_entry 76 = .ok (.ifCond .le 5, 3) := by decide +kernel
theorem d_R_entry_79 : decode c_R_entry 79 = .ok (.iconst 0, 1) := by decide +kernel
theorem d_R_entry_80 : decode c_R_entry 80 = .ok (.ireturn, 1) := by decide +kernel
theorem d_R_entry_81 : decode c_R_entry 81 = .ok (.bipush 32, 2) := by decide +kernel
theorem d_R_entry_83 : decode c_R_entry 83 = .ok (.iload_n 1, 1) := by decide +kernel
theorem d_R_entry_84 : decode c_R_entry 84 = .ok (.imul, 1) := by decide +kernel
theorem d_R_entry_85 : decode c_R_entry 85 = .ok (.iconst 4, 1) := by decide +kernel
theorem d_R_entry_86 : decode c_R_entry 86 = .ok (.iload_n 3, 1) := by decide +kernel
theorem d_R_entry_87 : decode c_R_entry 87 = .ok (.imul, 1) := by decide +kernel
theorem d_R_entry_88 : decode c_R_entry 88 = .ok (.iadd, 1) := by decide +kernel
theorem d_R_entry_89 : decode c_R_entry 89 = .ok (.iload 4, 2) := by decide +kernel
theorem d_R_entry_91 : decode c_R_entry 91 = .ok (.iadd, 1) := by decide +kernel
theorem d_R_entry_92 : decode c_R_entry 92 = .ok (.istore 5, 2) := by decide +kernel
theorem d_R_entry_94 : decode c_R_entry 94 = .ok (.iload_n 2, 1) := by decide +kernel
theorem d_R_entry_95 : decode c_R_entry 95 = .ok (.ifCond .ne 23, 3) := by decide +kernel
theorem d_R_entry_98 : decode c_R_entry 98 = .ok (.aload_n 0, 1) := by decide +kernel
theorem d_R_entry_99 : decode c_R_entry 99 = .ok (.getfield 45, 3) := by decide +kernel
theorem d_R_entry_102 : decode c_R_entry 102 = .ok (.bipush 64, 2) := by decide +kernel
theorem d_R_entry_104 : decode c_R_entry 104 = .ok (.iload_n 1, 1) := by decide +kernel
theorem d_R_entry_105 : decode c_R_entry 105 = .ok (.imul, 1) := by decide +kernel
theorem d_R_entry_106 : decode c_R_entry 106 = .ok (.bipush 8, 2) := by decide +kernel
theorem d_R_entry_108 : decode c_R_entry 108 = .ok (.iload_n 3, 1) := by decide +kernel
theorem d_R_entry_109 : decode c_R_entry 109 = .ok (.imul, 1) := by decide +kernel
theorem d_R_entry_110 : decode c_R_entry 110 = .ok (.iadd, 1) := by decide +kernel
theorem d_R_entry_111 : decode c_R_entry 111 = .ok (.iload 4, 2) := by decide +kernel
theorem d_R_entry_113 : decode c_R_entry 113 = .ok (.iadd, 1) := by decide +kernel
theorem d_R_entry_114 : decode c_R_entry 114 = .ok (.iaload, 1) := by decide +kernel
theorem d_R_entry_115 : decode c_R_entry 115 = .ok (.goto 40, 3) := by decide +kernel
theorem d_R_entry_118 : decode c_R_entry 118 = .ok (.iload_n 2, 1) := by decide +kernel
theorem d_R_entry_119 : decode c_R_entry 119 = .ok (.iconst 1, 1) := by decide +kernel
theorem d_R_entry_120 : decode c_R_entry 120 = .ok (.if_icmp .ne 13, 3) := by decide +kernel
theorem d_R_entry_123 : decode c_R_entry 123 = .ok (.aload_n 0, 1) := by decide +kernel
theorem d_R_entry_124 : decode c_R_entry 124 = .ok (.getfield 48, 3) := by decide +kernel
theorem d_R_entry_127 : decode c_R_entry 127 = .ok (.iload 5, 2) := by decide +kernel
theorem d_R_entry_129 : decode c_R_entry 129 = .ok (.iaload, 1) := by decide +kernel
theorem d_R_entry_130 : decode c_R_entry 130 = .ok (.goto 25, 3) := by decide +kernel
theorem d_R_entry_133 : decode c_R_entry 133 = .ok (.iload_n 2, 1) := by decide +kernel
theorem d_R_entry_134 : decode c_R_entry 134 = .ok (.iconst 2, 1) := by decide +kernel
theorem d_R_entry_135 : decode c_R_entry 135 = .ok (.if_icmp .ne 13, 3) := by decide +kernel
theorem d_R_entry_138 : decode c_R_entry 138 = .ok (.aload_n 0, 1) := by decide +kernel
theorem d_R_entry_139 : decode c_R_entry 139 = .ok (.getfield 51, 3) := by decide +kernel
theorem d_R_entry_142 : decode c_R_entry 142 = .ok (.iload 5, 2) := by decide +kernel
theorem d_R_entry_144 : decode c_R_entry 144 = .ok (.iaload, 1) := by decide +kernel
theorem d_R_entry_145 : decode c_R_entry 145 = .ok (.goto 10, 3) := by decide +kernel
theorem d_R_entry_148 : decode c_R_entry 148 = .ok (.aload_n 0, 1) := by decide +kernel
theorem d_R_entry_149 : decode c_R_entry 149 = .ok (.getfield 54, 3) := by decide +kernel
theorem d_R_entry_152 : decode c_R_entry 152 = .ok (.iload 5, 2) := by decide +kernel
theorem d_R_entry_154 : decode c_R_entry 154 = .ok (.iaload, 1) := by decide +kernel
theorem d_R_entry_155 : decode c_R_entry 155 = .ok (.ireturn, 1) := by decide +kernel
theorem d_R_noise_0 : decode c_R_noise 0 = .ok (.aload_n 0, 1) := by decide +kernel
theorem d_R_noise_1 : decode c_R_noise 1 = .ok (.aload_n 0, 1) := by decide +kernel
theorem d_R_noise_2 : decode c_R_noise 2 = .ok (.iload_n 1, 1) := by decide +kernel
theorem d_R_noise_3 : decode c_R_noise 3 = .ok (.iload_n 2, 1) := by decide +kernel
theorem d_R_noise_4 : decode c_R_noise 4 = .ok (.invokevirtual 148, 3) := by decide +kernel
theorem d_R_noise_7 : decode c_R_noise 7 = .ok (.putfield 72, 3) := by decide +kernel
theorem d_R_noise_10 : decode c_R_noise 10 = .ok (.aload_n 0, 1) := by decide +kernel
theorem d_R_noise_11 : decode c_R_noise 11 = .ok (.aload_n 0, 1) := by decide +kernel
theorem d_R_noise_12 : decode c_R_noise 12 = .ok (.getfield 72, 3) := by decide +kernel
theorem d_R_noise_15 : decode c_R_noise 15 = .ok (.ifCond .ne 27, 3) := by decide +kernel
theorem d_R_noise_18 : decode c_R_noise 18 = .ok (.iload_n 3, 1) := by decide +kernel
theorem d_R_noise_19 : decode c_R_noise 19 = .ok (.ifCond .lt 19, 3) := by decide +kernel
theorem d_R_noise_22 : decode c_R_noise 22 = .ok (.iload_n 3, 1) := by decide +kernel
theorem d_R_noise_23 : decode c_R_noise 23 = .ok (.iconst 3, 1) := by decide +kernel
theorem d_R_noise_24 : decode c_R_noise 24 = .ok (.if_icmp .gt 14, 3) := by decide +kernel
theorem d_R_noise_27 : decode c_R_noise 27 = .ok (.iload 4, 2) := by decide +kernel
theorem d_R_noise_29 : decode c_R_noise 29 = .ok (.ifCond .lt 9, 3) := by decide +kernel
theorem d_R_noise_32 : decode c_R_noise 32 = .ok (.iload 4, 2) := by decide +kernel
theorem d_R_noise_34 : decode c_R_noise 34 = .ok (.iconst 3, 1) := by decide +kernel
theorem d_R_noise_35 : decode c_R_noise 35 = .ok (.if_icmp .le 7, 3) := by decide +kernel
theorem d_R_noise_38 : decode c_R_noise 38 = .ok (.iconst 3, 1) := by decide +kernel
theorem d_R_noise_39 : decode c_R_noise 39 = .ok (.goto 7, 3) := by decide +kernel
theorem d_R_noise_42 : decode c_R_noise 42 = .ok (.aload_n 0, 1) := by decide +kernel
theorem d_R_noise_43 : decode c_R_noise 43 = .ok (.getfield 72, 3) := by decide +kernel
theorem d_R_noise_46 : decode c_R_noise 46 = .ok (.putfield 72, 3) := by decide +kernel
theorem d_R_noise_49 : decode c_R_noise 49 = .ok (.aload_n 0, 1) := by decide +kernel
theorem d_R_noise_50 : decode c_R_noise 50 = .ok (.getfield 72, 3) := by decide +kernel
theorem d_R_noise_53 : decode c_R_noise 53 = .ok (.ifCond .le 7, 3) := by decide +kernel
theorem d_R_noise_56 : decode c_R_noise 56 = .ok (.iconst 0, 1) := by decide +kernel
theorem d_R_noise_57 : decode c_R_noise 57 = .ok (.goto 20, 3) := by decide +kernel
theorem d_R_noise_60 : decode c_R_noise 60 = .ok (.aload_n 0, 1) := by decide +kernel
theorem d_R_noise_61 : decode c_R_noise 61 = .ok (.iload_n 1, 1) := by decide +kernel
theorem d_R_noise_62 : decode c_R_noise 62 = .ok (.iload_n 2, 1) := by decide +kernel
theorem d_R_noise_63 : decode c_R_noise 63 = .ok (.iload_n 3, 1) := by decide +kernel
theorem d_R_noise_64 : decode c_R_noise 64 = .ok (.iload 4, 2) := by decide +kernel
theorem d_R_noise_66 : decode c_R_noise 66 = .ok (.invokevirtual 140, 3) := by decide +kernel
theorem d_R_noise_69 : decode c_R_noise 69 = .ok (.sipush 8192, 3) := by decide +kernel
theorem d_R_noise_72 : decode c_R_noise 72 = .ok (.irem, 1) := by decide +kernel
theorem d_R_noise_73 : decode c_R_noise 73 = .ok (.sipush 4096, 3) := by decide +kernel
theorem d_R_noise_76 : decode c_R_noise 76 = .ok (.isub, 1) := by decide +kernel
theorem d_R_noise_77 : decode c_R_noise 77 = .ok (.ireturn, 1) := by decide +kernel
theorem d_R_read_0 : decode c_R_read 0 = .ok (.aload_n 0, 1) := by decide +kernel
theorem d_R_read_1 : decode c_R_read 1 = .ok (.aload_n 0, 1) := by decide +kernel
theorem d_R_read_2 : decode c_R_read 2 = .ok (.iload_n 1, 1) := by decide +kernel
theorem d_R_read_3 : decode c_R_read 3 = .ok (.iload_n 2, 1) := by decide +kernel
theorem d_R_read_4 : decode c_R_read 4 = .ok (.invokevirtual 148, 3) := by decide +kernel
theorem d_R_read_7 : decode c_R_read 7 = .ok (.putfield 72, 3) := by decide +kernel
theorem d_R_read_10 : decode c_R_read 10 = .ok (.aload_n 0, 1) := by decide +kernel
theorem d_R_read_11 : decode c_R_read 11 = .ok (.getfield 72, 3) := by decide +kernel
theorem d_R_read_14 : decode c_R_read 14 = .ok (.ifCond .le 7, 3) := by decide +kernel
theorem d_R_read_17 : decode c_R_read 17 = .ok (.iconst 0, 1) := by decide +kernel
theorem d_R_read_18 : decode c_R_read 18 = .ok (.goto 9, 3) := by decide +kernel
theorem d_R_read_21 : decode c_R_read 21 = .ok (.aload_n 0, 1) := by decide +kernel
theorem d_R_read_22 : decode c_R_read 22 = .ok (.iload_n 1, 1) := by decide +kernel
theorem d_R_read_23 : decode c_R_read 23 = .ok (.iload_n 2, 1) := by decide +kernel
theorem d_R_read_24 : decode c_R_read 24 = .ok (.invokevirtual 151, 3) := by decide +kernel
theorem d_R_read_27 : decode c_R_read 27 = .ok (.ireturn, 1) := by decide +kernel
theorem d_R_shake_0 : decode c_R_shake 0 = .ok (.aload_n 0, 1) := by decide +kernel
theorem d_R_shake_1 : decode c_R_shake 1 = .ok (.iload_n 1, 1) := by decide +kernel
theorem d_R_shake_2 : decode c_R_shake 2 = .ok (.ifCond .lt 9, 3) := by decide +kernel
theorem d_R_shake_5 : decode c_R_shake 5 = .ok (.iload_n 1, 1) := by decide +kernel
theorem d_R_shake_6 : decode c_R_shake 6 = .ok (.bipush 8, 2) := by decide +kernel
theorem d_R_shake_8 : decode c_R_shake 8 = .ok (.if_icmp .le 7, 3) := by decide +kernel
theorem d_R_shake_11 : decode c_R_shake 11 = .ok (.iconst 1, 1) := by decide +kernel
theorem d_R_shake_12 : decode c_R_shake 12 = .ok (.goto 4, 3) := by decide +kernel
theorem d_R_shake_15 : decode c_R_shake 15 = .ok (.iconst 0, 1) := by decide +kernel
theorem d_R_shake_16 : decode c_R_shake 16 = .ok (.putfield 72, 3) := by decide +kernel
theorem d_R_shake_19 : decode c_R_shake 19 = .ok (.aload_n 0, 1) := by decide +kernel
theorem d_R_shake_20 : decode c_R_shake 20 = .ok (.getfield 72, 3) := by decide +kernel
theorem d_R_shake_23 : decode c_R_shake 23 = .ok (.ifCond .le 5, 3) := by decide +kernel
theorem d_R_shake_26 : decode c_R_shake 26 = .ok (.lconst 0, 1) := by decide +kernel
theorem d_R_shake_27 : decode c_R_shake 27 = .ok (.lreturn, 1) := by decide +kernel
theorem d_R_shake_28 : decode c_R_shake 28 = .ok (.aload_n 0, 1) := by decide +kernel
theorem d_R_shake_29 : decode c_R_shake 29 = .ok (.lload_n 2, 1) := by decide +kernel
theorem d_R_shake_30 : decode c_R_shake 30 = .ok (.iload_n 1, 1) := by decide +kernel
theorem d_R_shake_31 : decode c_R_shake 31 = .ok (.invokevirtual 87, 3) := by decide +kernel
theorem d_R_shake_34 : decode c_R_shake 34 = .ok (.aload_n 0, 1) := by decide +kernel
theorem d_R_shake_35 : decode c_R_shake 35 = .ok (.bipush 8, 2) := by decide +kernel
theorem d_R_shake_37 : decode c_R_shake 37 = .ok (.invokevirtual 109, 3) := by decide +kernel
theorem d_R_shake_40 : decode c_R_shake 40 = .ok (.aload_n 0, 1) := by decide +kernel
theorem d_R_shake_41 : decode c_R_shake 41 = .ok (.iconst 0, 1) := by decide +kernel
theorem d_R_shake_42 : decode c_R_shake 42 = .ok (.invokevirtual 116, 3) := by decide +kernel
theorem d_R_shake_45 : decode c_R_shake 45 = .ok (.lreturn, 1) := by decide +kernel
end DC
