section DL0
theorem d_Q_law_0 : decode code 0 = .ok (.new 8, 3) := by decide +kernel
theorem d_Q_law_3 : decode code 3 = .ok (.dup, 1) := by decide +kernel
theorem d_Q_law_4 : decode code 4 = .ok (.invokespecial 60, 3) := by decide +kernel
theorem d_Q_law_7 : decode code 7 = .ok (.astore_n 1, 1) := by decide +kernel
theorem d_Q_law_8 : decode code 8 = .ok (.new 61, 3) := by decide +kernel
theorem d_Q_law_11 : decode code 11 = .ok (.dup, 1) := by decide +kernel
theorem d_Q_law_12 : decode code 12 = .ok (.invokespecial 63, 3) := by decide +kernel
theorem d_Q_law_15 : decode code 15 = .ok (.astore_n 2, 1) := by decide +kernel
theorem d_Q_law_16 : decode code 16 = .ok (.iconst 1, 1) := by decide +kernel
theorem d_Q_law_17 : decode code 17 = .ok (.newarray .long, 2) := by decide +kernel
theorem d_Q_law_19 : decode code 19 = .ok (.astore_n 3, 1) := by decide +kernel
theorem d_Q_law_20 : decode code 20 = .ok (.iconst 0, 1) := by decide +kernel
theorem d_Q_law_21 : decode code 21 = .ok (.istore 4, 2) := by decide +kernel
theorem d_Q_law_23 : decode code 23 = .ok (.iload 4, 2) := by decide +kernel
theorem d_Q_law_25 : decode code 25 = .ok (.aload_n 0, 1) := by decide +kernel
theorem d_Q_law_26 : decode code 26 = .ok (.arraylength, 1) := by decide +kernel
theorem d_Q_law_27 : decode code 27 = .ok (.bipush 8, 2) := by decide +kernel
theorem d_Q_law_29 : decode code 29 = .ok (.isub, 1) := by decide +kernel
theorem d_Q_law_30 : decode code 30 = .ok (.if_icmp .gt 1123, 3) := by decide +kernel
theorem d_Q_law_33 : decode code 33 = .ok (.aload_n 0, 1) := by decide +kernel
theorem d_Q_law_34 : decode code 34 = .ok (.iload 4, 2) := by decide +kernel
theorem d_Q_law_36 : decode code 36 = .ok (.iaload, 1) := by decide +kernel
theorem d_Q_law_37 : decode code 37 = .ok (.bipush 15, 2) := by decide +kernel
theorem d_Q_law_39 : decode code 39 = .ok (.iand, 1) := by decide +kernel
theorem d_Q_law_40 : decode code 40 = .ok (.tableswitch 1107 0 11 #[64, 255, 334, 401, 481, 529, 620, 688, 756, 848, 940, 1008], 64) := by decide +kernel
theorem d_Q_law_104 : decode code 104 = .ok (.aload_n 1, 1) := by decide +kernel
theorem d_Q_law_105 : decode code 105 = .ok (.aload_n 0, 1) := by decide +kernel
theorem d_Q_law_106 : decode code 106 = .ok (.iload 4, 2) := by decide +kernel
theorem d_Q_law_108 : decode code 108 = .ok (.iconst 1, 1) := by decide +kernel
theorem d_Q_law_109 : decode code 109 = .ok (.iadd, 1) := by decide +kernel
theorem d_Q_law_110 : decode code 110 = .ok (.iaload, 1) := by decide +kernel
theorem d_Q_law_111 : decode code 111 = .ok (.aload_n 0, 1) := by decide +kernel
theorem d_Q_law_112 : decode code 112 = .ok (.iload 4, 2) := by decide +kernel
theorem d_Q_law_114 : decode code 114 = .ok (.iconst 2, 1) := by decide +kernel
theorem d_Q_law_115 : decode code 115 = .ok (.iadd, 1) := by decide +kernel
theorem d_Q_law_116 : decode code 116 = .ok (.iaload, 1) := by decide +kernel
theorem d_Q_law_117 : decode code 117 = .ok (.i2l, 1) := by decide +kernel
theorem d_Q_law_118 : decode code 118 = .ok (.bipush 32, 2) := by decide +kernel
theorem d_Q_law_120 : decode code 120 = .ok (.lshl, 1) := by decide +kernel
theorem d_Q_law_121 : decode code 121 = .ok (.aload_n 0, 1) := by decide +kernel
theorem d_Q_law_122 : decode code 122 = .ok (.iload 4, 2) := by decide +kernel
theorem d_Q_law_124 : decode code 124 = .ok (.iconst 3, 1) := by decide +kernel
theorem d_Q_law_125 : decode code 125 = .ok (.iadd, 1) := by decide +kernel
theorem d_Q_law_126 : decode code 126 = .ok (.iaload, 1) := by decide +kernel
theorem d_Q_law_127 : decode code 127 = .ok (.i2l, 1) := by decide +kernel
theorem d_Q_law_128 : decode code 128 = .ok (.ldc2_w 64, 3) := by decide +kernel
theorem d_Q_law_131 : decode code 131 = .ok (.land, 1) := by decide +kernel
theorem d_Q_law_132 : decode code 132 = .ok (.lor, 1) := by decide +kernel
theorem d_Q_law_133 : decode code 133 = .ok (.aload_n 0, 1) := by decide +kernel
theorem d_Q_law_134 : decode code 134 = .ok (.iload 4, 2) := by decide +kernel
theorem d_Q_law_136 : decode code 136 = .ok (.iconst 4, 1) := by decide +kernel
theorem d_Q_law_137 : decode code 137 = .ok (.iadd, 1) := by decide +kernel
theorem d_Q_law_138 : decode code 138 = .ok (.iaload, 1) := by decide +kernel
theorem d_Q_law_139 : decode code 139 = .ok (.i2l, 1) := by decide +kernel
theorem d_Q_law_140 : decode code 140 = .ok (.bipush 32, 2) := by decide +kernel
theorem d_Q_law_142 : decode code 142 = .ok (.lshl, 1) := by decide +kernel
theorem d_Q_law_143 : decode code 143 = .ok (.aload_n 0, 1) := by decide +kernel
theorem d_Q_law_144 : decode code 144 = .ok (.iload 4, 2) := by decide +kernel
theorem d_Q_law_146 : decode code 146 = .ok (.iconst 5, 1) := by decide +kernel
theorem d_Q_law_147 : decode code 147 = .ok (.iadd, 1) := by decide +kernel
theorem d_Q_law_148 : decode code 148 = .ok (.iaload, 1) := by decide +kernel
theorem d_Q_law_149 : decode code 149 = .ok (.i2l, 1) := by decide +kernel
theorem d_Q_law_150 : decode code 150 = .ok (.ldc2_w 64, 3) := by decide +kernel
theorem d_Q_law_153 : decode code 153 = .ok (.land, 1) := by decide +kernel
theorem d_Q_law_154 : decode code 154 = .ok (.lor, 1) := by decide +kernel
theorem d_Q_law_155 : decode code 155 = .ok (.aload_n 0, 1) := by decide +kernel
theorem d_Q_law_156 : decode code 156 = .ok (.iload 4, 2) := by decide +kernel
theorem d_Q_law_158 : decode code 158 = .ok (.bipush 6, 2) := by decide +kernel
theorem d_Q_law_160 : decode code 160 = .ok (.iadd, 1) := by decide +kernel
theorem d_Q_law_161 : decode code 161 = .ok (.iaload, 1) := by decide +kernel
theorem d_Q_law_162 : decode code 162 = .ok (.i2l, 1) := by decide +kernel
theorem d_Q_law_163 : decode code 163 = .ok (.bipush 32, 2) := by decide +kernel
theorem d_Q_law_165 : decode code 165 = .ok (.lshl, 1) := by decide +kernel
theorem d_Q_law_166 : decode code 166 = .ok (.aload_n 0, 1) := by decide +kernel
theorem d_Q_law_167 : decode code 167 = .ok (.iload 4, 2) := by decide +kernel
theorem d_Q_law_169 : decode code 169 = .ok (.bipush 7, 2) := by decide +kernel
theorem d_Q_law_171 : decode code 171 = .ok (.iadd, 1) := by decide +kernel
theorem d_Q_law_172 : decode code 172 = .ok (.iaload, 1) := by decide +kernel
theorem d_Q_law_173 : decode code 173 = .ok (.i2l, 1) := by decide +kernel
theorem d_Q_law_174 : decode code 174 = .ok (.ldc2_w 64, 3) := by decide +kernel
theorem d_Q_law_177 : decode code 177 = .ok (.land, 1) := by decide +kernel
theorem d_Q_law_178 : decode code 178 = .ok (.lor, 1) := by decide +kernel
theorem d_Q_law_179 : decode code 179 = .ok (.aload_n 3, 1) := by decide +kernel
theorem d_Q_law_180 : decode code 180 = .ok (.invokestatic 66, 3) := by decide +kernel
theorem d_Q_law_183 : decode code 183 = .ok (.istore 5, 2) := by decide +kernel
theorem d_Q_law_185 : decode code 185 = .ok (.aload_n 2, 1) := by decide +kernel
theorem d_Q_law_186 : decode code 186 = .ok (.aload_n 0, 1) := by decide +kernel
theorem d_Q_law_187 : decode code 187 = .ok (.iload 4, 2) := by decide +kernel
theorem d_Q_law_189 : decode code 189 = .ok (.iconst 1, 1) := by decide +kernel
theorem d_Q_law_190 : decode code 190 = .ok (.iadd, 1) := by decide +kernel
theorem d_Q_law_191 : decode code 191 = .ok (.iaload, 1) := by decide +kernel
theorem d_Q_law_192 : decode code 192 = .ok (.aload_n 0, 1) := by decide +kernel
theorem d_Q_law_193 : decode code 193 = .ok (.iload 4, 2) := by decide +kernel
theorem d_Q_law_195 : decode code 195 = .ok (.iconst 2, 1) := by decide +kernel
theorem d_Q_law_196 : decode code 196 = .ok (.iadd, 1) := by decide +kernel
theorem d_Q_law_197 : decode code 197 = .ok (.iaload, 1) := by decide +kernel
theorem d_Q_law_198 : decode code 198 = .ok (.i2l, 1) := by decide +kernel
theorem d_Q_law_199 : decode code 199 = .ok (.bipush 32, 2) := by decide +kernel
theorem d_Q_law_201 : decode code 201 = .ok (.lshl, 1) := by decide +kernel
theorem d_Q_law_202 : decode code 202 = .ok (.aload_n 0, 1) := by decide +kernel
theorem d_Q_law_203 : decode code 203 = .ok (.iload 4, 2) := by decide +kernel
theorem d_Q_law_205 : decode code 205 = .ok (.iconst 3, 1) := by decide +kernel
theorem d_Q_law_206 : decode code 206 = .ok (.iadd, 1) := by decide +kernel
theorem d_Q_law_207 : decode code 207 = .ok (.iaload, 1) := by decide +kernel
theorem d_Q_law_208 : decode code 208 = .ok (.i2l, 1) := by decide +kernel
theorem d_Q_law_209 : decode code 209 = .ok (.ldc2_w 64, 3) := by decide +kernel
theorem d_Q_law_212 : decode code 212 = .ok (.land, 1) := by decide +kernel
theorem d_Q_law_213 : decode code 213 = .ok (.lor, 1) := by decide +kernel
theorem d_Q_law_214 : decode code 214 = .ok (.aload_n 0, 1) := by decide +kernel
theorem d_Q_law_215 : decode code 215 = .ok (.iload 4, 2) := by decide +kernel
theorem d_Q_law_217 : decode code 217 = .ok (.iconst 4, 1) := by decide +kernel
theorem d_Q_law_218 : decode code 218 = .ok (.iadd, 1) := by decide +kernel
theorem d_Q_law_219 : decode code 219 = .ok (.iaload, 1) := by decide +kernel
theorem d_Q_law_220 : decode code 220 = .ok (.i2l, 1) := by decide +kernel
theorem d_Q_law_221 : decode code 221 = .ok (.bipush 32, 2) := by decide +kernel
theorem d_Q_law_223 : decode code 223 = .ok (.lshl, 1) := by decide +kernel
theorem d_Q_law_224 : decode code 224 = .ok (.aload_n 0, 1) := by decide +kernel
theorem d_Q_law_225 : decode code 225 = .ok (.iload 4, 2) := by decide +kernel
theorem d_Q_law_227 : decode code 227 = .ok (.iconst 5, 1) := by decide +kernel
theorem d_Q_law_228 : decode code 228 = .ok (.iadd, 1) := by decide +kernel
theorem d_Q_law_229 : decode code 229 = .ok (.iaload, 1) := by decide +kernel
theorem d_Q_law_230 : decode code 230 = .ok (.i2l, 1) := by decide +kernel
theorem d_Q_law_231 : decode code 231 = .ok (.ldc2_w 64, 3) := by decide +kernel
theorem d_Q_law_234 : decode code 234 = .ok (.land, 1) := by decide +kernel
theorem d_Q_law_235 : decode code 235 = .ok (.lor, 1) := by decide +kernel
theorem d_Q_law_236 : decode code 236 = .ok (.aload_n 0, 1) := by decide +kernel
theorem d_Q_law_237 : decode code 237 = .ok (.iload 4, 2) := by decide +kernel
theorem d_Q_law_239 : decode code 239 = .ok (.bipush 6, 2) := by decide +kernel
theorem d_Q_law_241 : decode code 241 = .ok (.iadd, 1) := by decide +kernel
theorem d_Q_law_242 : decode code 242 = .ok (.iaload, 1) := by decide +kernel
theorem d_Q_law_243 : decode code 243 = .ok (.i2l, 1) := by decide +kernel
theorem d_Q_law_244 : decode code 244 = .ok (.bipush 32, 2) := by decide +kernel
theorem d_Q_law_246 : decode code 246 = .ok (.lshl, 1) := by decide +kernel
theorem d_Q_law_247 : decode code 247 = .ok (.aload_n 0, 1) := by decide +kernel
theorem d_Q_law_248 : decode code 248 = .ok (.iload 4, 2) := by decide +kernel
theorem d_Q_law_250 : decode code 250 = .ok (.bipush 7, 2) := by decide +kernel
theorem d_Q_law_252 : decode code 252 = .ok (.iadd, 1) := by decide +kernel
theorem d_Q_law_253 : decode code 253 = .ok (.iaload, 1) := by decide +kernel
theorem d_Q_law_254 : decode code 254 = .ok (.i2l, 1) := by decide +kernel
theorem d_Q_law_255 : decode code 255 = .ok (.ldc2_w 64, 3) := by decide +kernel
theorem d_Q_law_258 : decode code 258 = .ok (.land, 1) := by decide +kernel
theorem d_Q_law_259 : decode code 259 = .ok (.lor, 1) := by decide +kernel
theorem d_Q_law_260 : decode code 260 = .ok (.invokevirtual 71, 3) := by decide +kernel
theorem d_Q_law_263 : decode code 263 = .ok (.lstore 6, 2) := by decide +kernel
theorem d_Q_law_265 : decode code 265 = .ok (.aload_n 2, 1) := by decide +kernel
theorem d_Q_law_266 : decode code 266 = .ok (.invokevirtual 72, 3) := by decide +kernel
theorem d_Q_law_269 : decode code 269 = .ok (.iload 5, 2) := by decide +kernel
theorem d_Q_law_271 : decode code 271 = .ok (.if_icmp .eq 5, 3) := by decide +kernel
theorem d_Q_law_274 : decode code 274 = .ok (.iconst 0, 1) := by decide +kernel
theorem d_Q_law_275 : decode code 275 = .ok (.ireturn, 1) := by decide +kernel
theorem d_Q_law_276 : decode code 276 = .ok (.iload 5, 2) := by decide +kernel
theorem d_Q_law_278 : decode code 278 = .ok (.ifCond .ne 14, 3) := by decide +kernel
theorem d_Q_law_281 : decode code 281 = .ok (.aload_n 3, 1) := by decide +kernel
theorem d_Q_law_282 : decode code 282 = .ok (.iconst 0, 1) := by decide +kernel
theorem d_Q_law_283 : decode code 283 = .ok (.laload, 1) := by decide +kernel
theorem d_Q_law_284 : decode code 284 = .ok (.lload 6, 2) := by decide +kernel
theorem d_Q_law_286 : decode code 286 = .ok (.lcmp, 1) := by decide +kernel
theorem d_Q_law_287 : decode code 287 = .ok (.ifCond .eq 5, 3) := by decide +kernel
theorem d_Q_law_290 : decode code 290 = .ok (.iconst 0, 1) := by decide +kernel
theorem d_Q_law_291 : decode code 291 = .ok (.ireturn, 1) := by decide +kernel
theorem d_Q_law_292 : decode code 292 = .ok (.goto 855, 3) := by decide +kernel
theorem d_Q_law_295 : decode code 295 = .ok (.aload_n 1, 1) := by decide +kernel
theorem d_Q_law_296 : decode code 296 = .ok (.aload_n 0, 1) := by decide +kernel
theorem d_Q_law_297 : decode code 297 = .ok (.iload 4, 2) := by decide +kernel
theorem d_Q_law_299 : decode code 299 = .ok (.iconst 1, 1) := by decide +kernel
theorem d_Q_law_300 : decode code 300 = .ok (.iadd, 1) := by decide +kernel
theorem d_Q_law_301 : decode code 301 = .ok (.iaload, 1) := by decide +kernel
theorem d_Q_law_302 : decode code 302 = .ok (.aload_n 0, 1) := by decide +kernel
theorem d_Q_law_303 : decode code 303 = .ok (.iload 4, 2) := by decide +kernel
theorem d_Q_law_305 : decode code 305 = .ok (.iconst 2, 1) := by decide +kernel
theorem d_Q_law_306 : decode code 306 = .ok (.iadd, 1) := by decide +kernel
theorem d_Q_law_307 : decode code 307 = .ok (.iaload, 1) := by decide +kernel
theorem d_Q_law_308 : decode code 308 = .ok (.aload_n 0, 1) := by decide +kernel
theorem d_Q_law_309 : decode code 309 = .ok (.iload 4, 2) := by decide +kernel
theorem d_Q_law_311 : decode code 311 = .ok (.iconst 3, 1) := by decide +kernel
theorem d_Q_law_312 : decode code 312 = .ok (.iadd, 1) := by decide +kernel
theorem d_Q_law_313 : decode code 313 = .ok (.iaload, 1) := by decide +kernel
theorem d_Q_law_314 : decode code 314 = .ok (.aload_n 3, 1) := by decide +kernel
theorem d_Q_law_315 : decode code 315 = .ok (.invokestatic 76, 3) := by decide +kernel
theorem d_Q_law_318 : decode code 318 = .ok (.istore 5, 2) := by decide +kernel
theorem d_Q_law_320 : decode code 320 = .ok (.aload_n 2, 1) := by decide +kernel
theorem d_Q_law_321 : decode code 321 = .ok (.aload_n 0, 1) := by decide +kernel
theorem d_Q_law_322 : decode code 322 = .ok (.iload 4, 2) := by decide +kernel
theorem d_Q_law_324 : decode code 324 = .ok (.iconst 1, 1) := by decide +kernel
theorem d_Q_law_325 : decode code 325 = .ok (.iadd, 1) := by decide +kernel
theorem d_Q_law_326 : decode code 326 = .ok (.iaload, 1) := by decide +kernel
theorem d_Q_law_327 : decode code 327 = .ok (.aload_n 0, 1) := by decide +kernel
theorem d_Q_law_328 : decode code 328 = .ok (.iload 4, 2) := by decide +kernel
theorem d_Q_law_330 : decode code 330 = .ok (.iconst 2, 1) := by decide +kernel
theorem d_Q_law_331 : decode code 331 = .ok (.iadd, 1) := by decide +kernel
end DL0
