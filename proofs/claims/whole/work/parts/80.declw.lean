theorem zd_LW_law_0 : decode code 0 = .ok (.new 7, 3) := by decide +kernel
theorem zd_LW_law_3 : decode code 3 = .ok (.dup, 1) := by decide +kernel
theorem zd_LW_law_4 : decode code 4 = .ok (.invokespecial 9, 3) := by decide +kernel
theorem zd_LW_law_7 : decode code 7 = .ok (.astore_n 1, 1) := by decide +kernel
theorem zd_LW_law_8 : decode code 8 = .ok (.new 10, 3) := by decide +kernel
theorem zd_LW_law_11 : decode code 11 = .ok (.dup, 1) := by decide +kernel
theorem zd_LW_law_12 : decode code 12 = .ok (.invokespecial 12, 3) := by decide +kernel
theorem zd_LW_law_15 : decode code 15 = .ok (.astore_n 2, 1) := by decide +kernel
theorem zd_LW_law_16 : decode code 16 = .ok (.iconst 0, 1) := by decide +kernel
theorem zd_LW_law_17 : decode code 17 = .ok (.istore_n 3, 1) := by decide +kernel
theorem zd_LW_law_18 : decode code 18 = .ok (.iload_n 3, 1) := by decide +kernel
theorem zd_LW_law_19 : decode code 19 = .ok (.aload_n 0, 1) := by decide +kernel
theorem zd_LW_law_20 : decode code 20 = .ok (.arraylength, 1) := by decide +kernel
theorem zd_LW_law_21 : decode code 21 = .ok (.iconst 4, 1) := by decide +kernel
theorem zd_LW_law_22 : decode code 22 = .ok (.isub, 1) := by decide +kernel
theorem zd_LW_law_23 : decode code 23 = .ok (.if_icmp .gt (311), 3) := by decide +kernel
theorem zd_LW_law_26 : decode code 26 = .ok (.aload_n 0, 1) := by decide +kernel
theorem zd_LW_law_27 : decode code 27 = .ok (.iload_n 3, 1) := by decide +kernel
theorem zd_LW_law_28 : decode code 28 = .ok (.iaload, 1) := by decide +kernel
theorem zd_LW_law_29 : decode code 29 = .ok (.bipush (15), 2) := by decide +kernel
theorem zd_LW_law_31 : decode code 31 = .ok (.iand, 1) := by decide +kernel
theorem zd_LW_law_32 : decode code 32 = .ok (.tableswitch (296) 0 9 #[56, 119, 132, 145, 158, 181, 204, 227, 240, 263], 56) := by decide +kernel
theorem zd_LW_law_88 : decode code 88 = .ok (.aload_n 1, 1) := by decide +kernel
theorem zd_LW_law_89 : decode code 89 = .ok (.aload_n 0, 1) := by decide +kernel
theorem zd_LW_law_90 : decode code 90 = .ok (.iload_n 3, 1) := by decide +kernel
theorem zd_LW_law_91 : decode code 91 = .ok (.iconst 1, 1) := by decide +kernel
theorem zd_LW_law_92 : decode code 92 = .ok (.iadd, 1) := by decide +kernel
theorem zd_LW_law_93 : decode code 93 = .ok (.iaload, 1) := by decide +kernel
theorem zd_LW_law_94 : decode code 94 = .ok (.i2l, 1) := by decide +kernel
theorem zd_LW_law_95 : decode code 95 = .ok (.bipush (32), 2) := by decide +kernel
theorem zd_LW_law_97 : decode code 97 = .ok (.lshl, 1) := by decide +kernel
theorem zd_LW_law_98 : decode code 98 = .ok (.aload_n 0, 1) := by decide +kernel
theorem zd_LW_law_99 : decode code 99 = .ok (.iload_n 3, 1) := by decide +kernel
theorem zd_LW_law_100 : decode code 100 = .ok (.iconst 2, 1) := by decide +kernel
theorem zd_LW_law_101 : decode code 101 = .ok (.iadd, 1) := by decide +kernel
theorem zd_LW_law_102 : decode code 102 = .ok (.iaload, 1) := by decide +kernel
theorem zd_LW_law_103 : decode code 103 = .ok (.i2l, 1) := by decide +kernel
theorem zd_LW_law_104 : decode code 104 = .ok (.ldc2_w 13, 3) := by decide +kernel
theorem zd_LW_law_107 : decode code 107 = .ok (.land, 1) := by decide +kernel
theorem zd_LW_law_108 : decode code 108 = .ok (.lor, 1) := by decide +kernel
theorem zd_LW_law_109 : decode code 109 = .ok (.aload_n 0, 1) := by decide +kernel
theorem zd_LW_law_110 : decode code 110 = .ok (.iload_n 3, 1) := by decide +kernel
theorem zd_LW_law_111 : decode code 111 = .ok (.iconst 3, 1) := by decide +kernel
theorem zd_LW_law_112 : decode code 112 = .ok (.iadd, 1) := by decide +kernel
theorem zd_LW_law_113 : decode code 113 = .ok (.iaload, 1) := by decide +kernel
theorem zd_LW_law_114 : decode code 114 = .ok (.invokevirtual 15, 3) := by decide +kernel
theorem zd_LW_law_117 : decode code 117 = .ok (.aload_n 2, 1) := by decide +kernel
theorem zd_LW_law_118 : decode code 118 = .ok (.aload_n 0, 1) := by decide +kernel
theorem zd_LW_law_119 : decode code 119 = .ok (.iload_n 3, 1) := by decide +kernel
theorem zd_LW_law_120 : decode code 120 = .ok (.iconst 1, 1) := by decide +kernel
theorem zd_LW_law_121 : decode code 121 = .ok (.iadd, 1) := by decide +kernel
theorem zd_LW_law_122 : decode code 122 = .ok (.iaload, 1) := by decide +kernel
theorem zd_LW_law_123 : decode code 123 = .ok (.i2l, 1) := by decide +kernel
theorem zd_LW_law_124 : decode code 124 = .ok (.bipush (32), 2) := by decide +kernel
theorem zd_LW_law_126 : decode code 126 = .ok (.lshl, 1) := by decide +kernel
theorem zd_LW_law_127 : decode code 127 = .ok (.aload_n 0, 1) := by decide +kernel
theorem zd_LW_law_128 : decode code 128 = .ok (.iload_n 3, 1) := by decide +kernel
theorem zd_LW_law_129 : decode code 129 = .ok (.iconst 2, 1) := by decide +kernel
theorem zd_LW_law_130 : decode code 130 = .ok (.iadd, 1) := by decide +kernel
theorem zd_LW_law_131 : decode code 131 = .ok (.iaload, 1) := by decide +kernel
theorem zd_LW_law_132 : decode code 132 = .ok (.i2l, 1) := by decide +kernel
theorem zd_LW_law_133 : decode code 133 = .ok (.ldc2_w 13, 3) := by decide +kernel
theorem zd_LW_law_136 : decode code 136 = .ok (.land, 1) := by decide +kernel
theorem zd_LW_law_137 : decode code 137 = .ok (.lor, 1) := by decide +kernel
theorem zd_LW_law_138 : decode code 138 = .ok (.aload_n 0, 1) := by decide +kernel
theorem zd_LW_law_139 : decode code 139 = .ok (.iload_n 3, 1) := by decide +kernel
theorem zd_LW_law_140 : decode code 140 = .ok (.iconst 3, 1) := by decide +kernel
theorem zd_LW_law_141 : decode code 141 = .ok (.iadd, 1) := by decide +kernel
theorem zd_LW_law_142 : decode code 142 = .ok (.iaload, 1) := by decide +kernel
theorem zd_LW_law_143 : decode code 143 = .ok (.invokevirtual 19, 3) := by decide +kernel
theorem zd_LW_law_146 : decode code 146 = .ok (.if_icmp .eq (182), 3) := by decide +kernel
theorem zd_LW_law_149 : decode code 149 = .ok (.iconst 0, 1) := by decide +kernel
theorem zd_LW_law_150 : decode code 150 = .ok (.ireturn, 1) := by decide +kernel
theorem zd_LW_law_151 : decode code 151 = .ok (.aload_n 1, 1) := by decide +kernel
theorem zd_LW_law_152 : decode code 152 = .ok (.invokevirtual 20, 3) := by decide +kernel
theorem zd_LW_law_155 : decode code 155 = .ok (.aload_n 2, 1) := by decide +kernel
theorem zd_LW_law_156 : decode code 156 = .ok (.invokevirtual 24, 3) := by decide +kernel
theorem zd_LW_law_159 : decode code 159 = .ok (.if_icmp .eq (169), 3) := by decide +kernel
theorem zd_LW_law_162 : decode code 162 = .ok (.iconst 0, 1) := by decide +kernel
theorem zd_LW_law_163 : decode code 163 = .ok (.ireturn, 1) := by decide +kernel
theorem zd_LW_law_164 : decode code 164 = .ok (.aload_n 1, 1) := by decide +kernel
theorem zd_LW_law_165 : decode code 165 = .ok (.invokevirtual 25, 3) := by decide +kernel
theorem zd_LW_law_168 : decode code 168 = .ok (.aload_n 2, 1) := by decide +kernel
theorem zd_LW_law_169 : decode code 169 = .ok (.invokevirtual 28, 3) := by decide +kernel
theorem zd_LW_law_172 : decode code 172 = .ok (.if_icmp .eq (156), 3) := by decide +kernel
theorem zd_LW_law_175 : decode code 175 = .ok (.iconst 0, 1) := by decide +kernel
theorem zd_LW_law_176 : decode code 176 = .ok (.ireturn, 1) := by decide +kernel
theorem zd_LW_law_177 : decode code 177 = .ok (.aload_n 1, 1) := by decide +kernel
theorem zd_LW_law_178 : decode code 178 = .ok (.invokevirtual 29, 3) := by decide +kernel
theorem zd_LW_law_181 : decode code 181 = .ok (.aload_n 2, 1) := by decide +kernel
theorem zd_LW_law_182 : decode code 182 = .ok (.invokevirtual 32, 3) := by decide +kernel
theorem zd_LW_law_185 : decode code 185 = .ok (.if_icmp .eq (143), 3) := by decide +kernel
theorem zd_LW_law_188 : decode code 188 = .ok (.iconst 0, 1) := by decide +kernel
theorem zd_LW_law_189 : decode code 189 = .ok (.ireturn, 1) := by decide +kernel
theorem zd_LW_law_190 : decode code 190 = .ok (.aload_n 1, 1) := by decide +kernel
theorem zd_LW_law_191 : decode code 191 = .ok (.aload_n 0, 1) := by decide +kernel
theorem zd_LW_law_192 : decode code 192 = .ok (.iload_n 3, 1) := by decide +kernel
theorem zd_LW_law_193 : decode code 193 = .ok (.iconst 1, 1) := by decide +kernel
theorem zd_LW_law_194 : decode code 194 = .ok (.iadd, 1) := by decide +kernel
theorem zd_LW_law_195 : decode code 195 = .ok (.iaload, 1) := by decide +kernel
theorem zd_LW_law_196 : decode code 196 = .ok (.invokevirtual 33, 3) := by decide +kernel
theorem zd_LW_law_199 : decode code 199 = .ok (.aload_n 2, 1) := by decide +kernel
theorem zd_LW_law_200 : decode code 200 = .ok (.aload_n 0, 1) := by decide +kernel
theorem zd_LW_law_201 : decode code 201 = .ok (.iload_n 3, 1) := by decide +kernel
theorem zd_LW_law_202 : decode code 202 = .ok (.iconst 1, 1) := by decide +kernel
theorem zd_LW_law_203 : decode code 203 = .ok (.iadd, 1) := by decide +kernel
theorem zd_LW_law_204 : decode code 204 = .ok (.iaload, 1) := by decide +kernel
theorem zd_LW_law_205 : decode code 205 = .ok (.invokevirtual 37, 3) := by decide +kernel
theorem zd_LW_law_208 : decode code 208 = .ok (.if_icmp .eq (120), 3) := by decide +kernel
theorem zd_LW_law_211 : decode code 211 = .ok (.iconst 0, 1) := by decide +kernel
theorem zd_LW_law_212 : decode code 212 = .ok (.ireturn, 1) := by decide +kernel
theorem zd_LW_law_213 : decode code 213 = .ok (.aload_n 1, 1) := by decide +kernel
theorem zd_LW_law_214 : decode code 214 = .ok (.aload_n 0, 1) := by decide +kernel
theorem zd_LW_law_215 : decode code 215 = .ok (.iload_n 3, 1) := by decide +kernel
theorem zd_LW_law_216 : decode code 216 = .ok (.iconst 1, 1) := by decide +kernel
theorem zd_LW_law_217 : decode code 217 = .ok (.iadd, 1) := by decide +kernel
theorem zd_LW_law_218 : decode code 218 = .ok (.iaload, 1) := by decide +kernel
theorem zd_LW_law_219 : decode code 219 = .ok (.invokevirtual 38, 3) := by decide +kernel
theorem zd_LW_law_222 : decode code 222 = .ok (.aload_n 2, 1) := by decide +kernel
theorem zd_LW_law_223 : decode code 223 = .ok (.aload_n 0, 1) := by decide +kernel
theorem zd_LW_law_224 : decode code 224 = .ok (.iload_n 3, 1) := by decide +kernel
theorem zd_LW_law_225 : decode code 225 = .ok (.iconst 1, 1) := by decide +kernel
theorem zd_LW_law_226 : decode code 226 = .ok (.iadd, 1) := by decide +kernel
theorem zd_LW_law_227 : decode code 227 = .ok (.iaload, 1) := by decide +kernel
theorem zd_LW_law_228 : decode code 228 = .ok (.invokevirtual 41, 3) := by decide +kernel
theorem zd_LW_law_231 : decode code 231 = .ok (.if_icmp .eq (97), 3) := by decide +kernel
theorem zd_LW_law_234 : decode code 234 = .ok (.iconst 0, 1) := by decide +kernel
theorem zd_LW_law_235 : decode code 235 = .ok (.ireturn, 1) := by decide +kernel
theorem zd_LW_law_236 : decode code 236 = .ok (.aload_n 1, 1) := by decide +kernel
theorem zd_LW_law_237 : decode code 237 = .ok (.aload_n 0, 1) := by decide +kernel
theorem zd_LW_law_238 : decode code 238 = .ok (.iload_n 3, 1) := by decide +kernel
theorem zd_LW_law_239 : decode code 239 = .ok (.iconst 1, 1) := by decide +kernel
theorem zd_LW_law_240 : decode code 240 = .ok (.iadd, 1) := by decide +kernel
theorem zd_LW_law_241 : decode code 241 = .ok (.iaload, 1) := by decide +kernel
theorem zd_LW_law_242 : decode code 242 = .ok (.invokevirtual 42, 3) := by decide +kernel
theorem zd_LW_law_245 : decode code 245 = .ok (.aload_n 2, 1) := by decide +kernel
theorem zd_LW_law_246 : decode code 246 = .ok (.aload_n 0, 1) := by decide +kernel
theorem zd_LW_law_247 : decode code 247 = .ok (.iload_n 3, 1) := by decide +kernel
theorem zd_LW_law_248 : decode code 248 = .ok (.iconst 1, 1) := by decide +kernel
theorem zd_LW_law_249 : decode code 249 = .ok (.iadd, 1) := by decide +kernel
theorem zd_LW_law_250 : decode code 250 = .ok (.iaload, 1) := by decide +kernel
theorem zd_LW_law_251 : decode code 251 = .ok (.invokevirtual 45, 3) := by decide +kernel
theorem zd_LW_law_254 : decode code 254 = .ok (.if_icmp .eq (74), 3) := by decide +kernel
theorem zd_LW_law_257 : decode code 257 = .ok (.iconst 0, 1) := by decide +kernel
theorem zd_LW_law_258 : decode code 258 = .ok (.ireturn, 1) := by decide +kernel
theorem zd_LW_law_259 : decode code 259 = .ok (.aload_n 1, 1) := by decide +kernel
theorem zd_LW_law_260 : decode code 260 = .ok (.invokevirtual 46, 3) := by decide +kernel
theorem zd_LW_law_263 : decode code 263 = .ok (.aload_n 2, 1) := by decide +kernel
theorem zd_LW_law_264 : decode code 264 = .ok (.invokevirtual 49, 3) := by decide +kernel
theorem zd_LW_law_267 : decode code 267 = .ok (.if_icmp .eq (61), 3) := by decide +kernel
theorem zd_LW_law_270 : decode code 270 = .ok (.iconst 0, 1) := by decide +kernel
theorem zd_LW_law_271 : decode code 271 = .ok (.ireturn, 1) := by decide +kernel
theorem zd_LW_law_272 : decode code 272 = .ok (.aload_n 1, 1) := by decide +kernel
theorem zd_LW_law_273 : decode code 273 = .ok (.aload_n 0, 1) := by decide +kernel
theorem zd_LW_law_274 : decode code 274 = .ok (.iload_n 3, 1) := by decide +kernel
theorem zd_LW_law_275 : decode code 275 = .ok (.iconst 1, 1) := by decide +kernel
theorem zd_LW_law_276 : decode code 276 = .ok (.iadd, 1) := by decide +kernel
theorem zd_LW_law_277 : decode code 277 = .ok (.iaload, 1) := by decide +kernel
theorem zd_LW_law_278 : decode code 278 = .ok (.invokevirtual 50, 3) := by decide +kernel
theorem zd_LW_law_281 : decode code 281 = .ok (.aload_n 2, 1) := by decide +kernel
theorem zd_LW_law_282 : decode code 282 = .ok (.aload_n 0, 1) := by decide +kernel
theorem zd_LW_law_283 : decode code 283 = .ok (.iload_n 3, 1) := by decide +kernel
theorem zd_LW_law_284 : decode code 284 = .ok (.iconst 1, 1) := by decide +kernel
theorem zd_LW_law_285 : decode code 285 = .ok (.iadd, 1) := by decide +kernel
theorem zd_LW_law_286 : decode code 286 = .ok (.iaload, 1) := by decide +kernel
theorem zd_LW_law_287 : decode code 287 = .ok (.invokevirtual 53, 3) := by decide +kernel
theorem zd_LW_law_290 : decode code 290 = .ok (.if_icmp .eq (38), 3) := by decide +kernel
theorem zd_LW_law_293 : decode code 293 = .ok (.iconst 0, 1) := by decide +kernel
theorem zd_LW_law_294 : decode code 294 = .ok (.ireturn, 1) := by decide +kernel
theorem zd_LW_law_295 : decode code 295 = .ok (.aload_n 1, 1) := by decide +kernel
theorem zd_LW_law_296 : decode code 296 = .ok (.aload_n 0, 1) := by decide +kernel
theorem zd_LW_law_297 : decode code 297 = .ok (.iload_n 3, 1) := by decide +kernel
theorem zd_LW_law_298 : decode code 298 = .ok (.iconst 1, 1) := by decide +kernel
theorem zd_LW_law_299 : decode code 299 = .ok (.iadd, 1) := by decide +kernel
theorem zd_LW_law_300 : decode code 300 = .ok (.iaload, 1) := by decide +kernel
theorem zd_LW_law_301 : decode code 301 = .ok (.aload_n 0, 1) := by decide +kernel
theorem zd_LW_law_302 : decode code 302 = .ok (.iload_n 3, 1) := by decide +kernel
theorem zd_LW_law_303 : decode code 303 = .ok (.iconst 2, 1) := by decide +kernel
theorem zd_LW_law_304 : decode code 304 = .ok (.iadd, 1) := by decide +kernel
theorem zd_LW_law_305 : decode code 305 = .ok (.iaload, 1) := by decide +kernel
theorem zd_LW_law_306 : decode code 306 = .ok (.invokevirtual 54, 3) := by decide +kernel
theorem zd_LW_law_309 : decode code 309 = .ok (.aload_n 2, 1) := by decide +kernel
theorem zd_LW_law_310 : decode code 310 = .ok (.aload_n 0, 1) := by decide +kernel
theorem zd_LW_law_311 : decode code 311 = .ok (.iload_n 3, 1) := by decide +kernel
theorem zd_LW_law_312 : decode code 312 = .ok (.iconst 1, 1) := by decide +kernel
theorem zd_LW_law_313 : decode code 313 = .ok (.iadd, 1) := by decide +kernel
theorem zd_LW_law_314 : decode code 314 = .ok (.iaload, 1) := by decide +kernel
theorem zd_LW_law_315 : decode code 315 = .ok (.aload_n 0, 1) := by decide +kernel
theorem zd_LW_law_316 : decode code 316 = .ok (.iload_n 3, 1) := by decide +kernel
theorem zd_LW_law_317 : decode code 317 = .ok (.iconst 2, 1) := by decide +kernel
theorem zd_LW_law_318 : decode code 318 = .ok (.iadd, 1) := by decide +kernel
theorem zd_LW_law_319 : decode code 319 = .ok (.iaload, 1) := by decide +kernel
theorem zd_LW_law_320 : decode code 320 = .ok (.invokevirtual 58, 3) := by decide +kernel
theorem zd_LW_law_323 : decode code 323 = .ok (.if_icmp .eq (5), 3) := by decide +kernel
theorem zd_LW_law_326 : decode code 326 = .ok (.iconst 0, 1) := by decide +kernel
theorem zd_LW_law_327 : decode code 327 = .ok (.ireturn, 1) := by decide +kernel
theorem zd_LW_law_328 : decode code 328 = .ok (.iinc 3 (4), 3) := by decide +kernel
theorem zd_LW_law_331 : decode code 331 = .ok (.goto (-313), 3) := by decide +kernel
theorem zd_LW_law_334 : decode code 334 = .ok (.iconst 1, 1) := by decide +kernel
theorem zd_LW_law_335 : decode code 335 = .ok (.ireturn, 1) := by decide +kernel
