theorem d_law_law_0 : decode code 0 = .ok (.new 8, 3) := by decide +kernel
theorem d_law_law_3 : decode code 3 = .ok (.dup, 1) := by decide +kernel
theorem d_law_law_4 : decode code 4 = .ok (.invokespecial 19, 3) := by decide +kernel
theorem d_law_law_7 : decode code 7 = .ok (.astore_n 1, 1) := by decide +kernel
theorem d_law_law_8 : decode code 8 = .ok (.new 20, 3) := by decide +kernel
theorem d_law_law_11 : decode code 11 = .ok (.dup, 1) := by decide +kernel
theorem d_law_law_12 : decode code 12 = .ok (.invokespecial 22, 3) := by decide +kernel
theorem d_law_law_15 : decode code 15 = .ok (.astore_n 2, 1) := by decide +kernel
theorem d_law_law_16 : decode code 16 = .ok (.iconst 1, 1) := by decide +kernel
theorem d_law_law_17 : decode code 17 = .ok (.newarray .long, 2) := by decide +kernel
theorem d_law_law_19 : decode code 19 = .ok (.astore_n 3, 1) := by decide +kernel
theorem d_law_law_20 : decode code 20 = .ok (.iconst 0, 1) := by decide +kernel
theorem d_law_law_21 : decode code 21 = .ok (.istore 4, 2) := by decide +kernel
theorem d_law_law_23 : decode code 23 = .ok (.iload 4, 2) := by decide +kernel
theorem d_law_law_25 : decode code 25 = .ok (.aload_n 0, 1) := by decide +kernel
theorem d_law_law_26 : decode code 26 = .ok (.arraylength, 1) := by decide +kernel
theorem d_law_law_27 : decode code 27 = .ok (.bipush 6, 2) := by decide +kernel
theorem d_law_law_29 : decode code 29 = .ok (.isub, 1) := by decide +kernel
theorem d_law_law_30 : decode code 30 = .ok (.if_icmp .gt 873, 3) := by decide +kernel
theorem d_law_law_33 : decode code 33 = .ok (.aload_n 0, 1) := by decide +kernel
theorem d_law_law_34 : decode code 34 = .ok (.iload 4, 2) := by decide +kernel
theorem d_law_law_36 : decode code 36 = .ok (.iaload, 1) := by decide +kernel
theorem d_law_law_37 : decode code 37 = .ok (.bipush 31, 2) := by decide +kernel
theorem d_law_law_39 : decode code 39 = .ok (.iand, 1) := by decide +kernel
theorem d_law_law_40 : decode code 40 = .ok (.tableswitch 857 0 18 #[92, 141, 190, 203, 228, 265, 302, 327, 419, 468, 541, 590, 615, 695, 708, 733, 758, 807, 832], 92) := by decide +kernel
theorem d_law_law_132 : decode code 132 = .ok (.aload_n 1, 1) := by decide +kernel
theorem d_law_law_133 : decode code 133 = .ok (.aload_n 0, 1) := by decide +kernel
theorem d_law_law_134 : decode code 134 = .ok (.iload 4, 2) := by decide +kernel
theorem d_law_law_136 : decode code 136 = .ok (.iconst 1, 1) := by decide +kernel
theorem d_law_law_137 : decode code 137 = .ok (.iadd, 1) := by decide +kernel
theorem d_law_law_138 : decode code 138 = .ok (.iaload, 1) := by decide +kernel
theorem d_law_law_139 : decode code 139 = .ok (.aload_n 0, 1) := by decide +kernel
theorem d_law_law_140 : decode code 140 = .ok (.iload 4, 2) := by decide +kernel
theorem d_law_law_142 : decode code 142 = .ok (.iconst 2, 1) := by decide +kernel
theorem d_law_law_143 : decode code 143 = .ok (.iadd, 1) := by decide +kernel
theorem d_law_law_144 : decode code 144 = .ok (.iaload, 1) := by decide +kernel
theorem d_law_law_145 : decode code 145 = .ok (.aload_n 0, 1) := by decide +kernel
theorem d_law_law_146 : decode code 146 = .ok (.iload 4, 2) := by decide +kernel
theorem d_law_law_148 : decode code 148 = .ok (.iconst 3, 1) := by decide +kernel
theorem d_law_law_149 : decode code 149 = .ok (.iadd, 1) := by decide +kernel
theorem d_law_law_150 : decode code 150 = .ok (.iaload, 1) := by decide +kernel
theorem d_law_law_151 : decode code 151 = .ok (.invokevirtual 23, 3) := by decide +kernel
theorem d_law_law_154 : decode code 154 = .ok (.aload_n 2, 1) := by decide +kernel
theorem d_law_law_155 : decode code 155 = .ok (.aload_n 0, 1) := by decide +kernel
theorem d_law_law_156 : decode code 156 = .ok (.iload 4, 2) := by decide +kernel
theorem d_law_law_158 : decode code 158 = .ok (.iconst 1, 1) := by decide +kernel
theorem d_law_law_159 : decode code 159 = .ok (.iadd, 1) := by decide +kernel
theorem d_law_law_160 : decode code 160 = .ok (.iaload, 1) := by decide +kernel
theorem d_law_law_161 : decode code 161 = .ok (.aload_n 0, 1) := by decide +kernel
theorem d_law_law_162 : decode code 162 = .ok (.iload 4, 2) := by decide +kernel
theorem d_law_law_164 : decode code 164 = .ok (.iconst 2, 1) := by decide +kernel
theorem d_law_law_165 : decode code 165 = .ok (.iadd, 1) := by decide +kernel
theorem d_law_law_166 : decode code 166 = .ok (.iaload, 1) := by decide +kernel
theorem d_law_law_167 : decode code 167 = .ok (.aload_n 0, 1) := by decide +kernel
theorem d_law_law_168 : decode code 168 = .ok (.iload 4, 2) := by decide +kernel
theorem d_law_law_170 : decode code 170 = .ok (.iconst 3, 1) := by decide +kernel
theorem d_law_law_171 : decode code 171 = .ok (.iadd, 1) := by decide +kernel
theorem d_law_law_172 : decode code 172 = .ok (.iaload, 1) := by decide +kernel
theorem d_law_law_173 : decode code 173 = .ok (.invokevirtual 26, 3) := by decide +kernel
theorem d_law_law_176 : decode code 176 = .ok (.if_icmp .eq 721, 3) := by decide +kernel
theorem d_law_law_179 : decode code 179 = .ok (.iconst 0, 1) := by decide +kernel
theorem d_law_law_180 : decode code 180 = .ok (.ireturn, 1) := by decide +kernel
theorem d_law_law_181 : decode code 181 = .ok (.aload_n 1, 1) := by decide +kernel
theorem d_law_law_182 : decode code 182 = .ok (.aload_n 0, 1) := by decide +kernel
theorem d_law_law_183 : decode code 183 = .ok (.iload 4, 2) := by decide +kernel
theorem d_law_law_185 : decode code 185 = .ok (.iconst 1, 1) := by decide +kernel
theorem d_law_law_186 : decode code 186 = .ok (.iadd, 1) := by decide +kernel
theorem d_law_law_187 : decode code 187 = .ok (.iaload, 1) := by decide +kernel
theorem d_law_law_188 : decode code 188 = .ok (.aload_n 0, 1) := by decide +kernel
theorem d_law_law_189 : decode code 189 = .ok (.iload 4, 2) := by decide +kernel
theorem d_law_law_191 : decode code 191 = .ok (.iconst 2, 1) := by decide +kernel
theorem d_law_law_192 : decode code 192 = .ok (.iadd, 1) := by decide +kernel
theorem d_law_law_193 : decode code 193 = .ok (.iaload, 1) := by decide +kernel
theorem d_law_law_194 : decode code 194 = .ok (.aload_n 0, 1) := by decide +kernel
theorem d_law_law_195 : decode code 195 = .ok (.iload 4, 2) := by decide +kernel
theorem d_law_law_197 : decode code 197 = .ok (.iconst 3, 1) := by decide +kernel
theorem d_law_law_198 : decode code 198 = .ok (.iadd, 1) := by decide +kernel
theorem d_law_law_199 : decode code 199 = .ok (.iaload, 1) := by decide +kernel
theorem d_law_law_200 : decode code 200 = .ok (.invokevirtual 27, 3) := by decide +kernel
theorem d_law_law_203 : decode code 203 = .ok (.aload_n 2, 1) := by decide +kernel
theorem d_law_law_204 : decode code 204 = .ok (.aload_n 0, 1) := by decide +kernel
theorem d_law_law_205 : decode code 205 = .ok (.iload 4, 2) := by decide +kernel
theorem d_law_law_207 : decode code 207 = .ok (.iconst 1, 1) := by decide +kernel
theorem d_law_law_208 : decode code 208 = .ok (.iadd, 1) := by decide +kernel
theorem d_law_law_209 : decode code 209 = .ok (.iaload, 1) := by decide +kernel
theorem d_law_law_210 : decode code 210 = .ok (.aload_n 0, 1) := by decide +kernel
theorem d_law_law_211 : decode code 211 = .ok (.iload 4, 2) := by decide +kernel
theorem d_law_law_213 : decode code 213 = .ok (.iconst 2, 1) := by decide +kernel
theorem d_law_law_214 : decode code 214 = .ok (.iadd, 1) := by decide +kernel
theorem d_law_law_215 : decode code 215 = .ok (.iaload, 1) := by decide +kernel
theorem d_law_law_216 : decode code 216 = .ok (.aload_n 0, 1) := by decide +kernel
theorem d_law_law_217 : decode code 217 = .ok (.iload 4, 2) := by decide +kernel
theorem d_law_law_219 : decode code 219 = .ok (.iconst 3, 1) := by decide +kernel
theorem d_law_law_220 : decode code 220 = .ok (.iadd, 1) := by decide +kernel
theorem d_law_law_221 : decode code 221 = .ok (.iaload, 1) := by decide +kernel
theorem d_law_law_222 : decode code 222 = .ok (.invokevirtual 30, 3) := by decide +kernel
theorem d_law_law_225 : decode code 225 = .ok (.if_icmp .eq 672, 3) := by decide +kernel
theorem d_law_law_228 : decode code 228 = .ok (.iconst 0, 1) := by decide +kernel
theorem d_law_law_229 : decode code 229 = .ok (.ireturn, 1) := by decide +kernel
theorem d_law_law_230 : decode code 230 = .ok (.aload_n 1, 1) := by decide +kernel
theorem d_law_law_231 : decode code 231 = .ok (.invokevirtual 31, 3) := by decide +kernel
theorem d_law_law_234 : decode code 234 = .ok (.aload_n 2, 1) := by decide +kernel
theorem d_law_law_235 : decode code 235 = .ok (.invokevirtual 35, 3) := by decide +kernel
theorem d_law_law_238 : decode code 238 = .ok (.if_icmp .eq 659, 3) := by decide +kernel
theorem d_law_law_241 : decode code 241 = .ok (.iconst 0, 1) := by decide +kernel
theorem d_law_law_242 : decode code 242 = .ok (.ireturn, 1) := by decide +kernel
theorem d_law_law_243 : decode code 243 = .ok (.aload_n 1, 1) := by decide +kernel
theorem d_law_law_244 : decode code 244 = .ok (.aload_n 0, 1) := by decide +kernel
theorem d_law_law_245 : decode code 245 = .ok (.iload 4, 2) := by decide +kernel
theorem d_law_law_247 : decode code 247 = .ok (.iconst 1, 1) := by decide +kernel
theorem d_law_law_248 : decode code 248 = .ok (.iadd, 1) := by decide +kernel
theorem d_law_law_249 : decode code 249 = .ok (.iaload, 1) := by decide +kernel
theorem d_law_law_250 : decode code 250 = .ok (.invokevirtual 36, 3) := by decide +kernel
theorem d_law_law_253 : decode code 253 = .ok (.aload_n 2, 1) := by decide +kernel
theorem d_law_law_254 : decode code 254 = .ok (.aload_n 0, 1) := by decide +kernel
theorem d_law_law_255 : decode code 255 = .ok (.iload 4, 2) := by decide +kernel
theorem d_law_law_257 : decode code 257 = .ok (.iconst 1, 1) := by decide +kernel
theorem d_law_law_258 : decode code 258 = .ok (.iadd, 1) := by decide +kernel
theorem d_law_law_259 : decode code 259 = .ok (.iaload, 1) := by decide +kernel
theorem d_law_law_260 : decode code 260 = .ok (.invokevirtual 40, 3) := by decide +kernel
theorem d_law_law_263 : decode code 263 = .ok (.if_icmp .eq 634, 3) := by decide +kernel
theorem d_law_law_266 : decode code 266 = .ok (.iconst 0, 1) := by decide +kernel
theorem d_law_law_267 : decode code 267 = .ok (.ireturn, 1) := by decide +kernel
theorem d_law_law_268 : decode code 268 = .ok (.aload_n 1, 1) := by decide +kernel
theorem d_law_law_269 : decode code 269 = .ok (.aload_n 0, 1) := by decide +kernel
theorem d_law_law_270 : decode code 270 = .ok (.iload 4, 2) := by decide +kernel
theorem d_law_law_272 : decode code 272 = .ok (.iconst 1, 1) := by decide +kernel
theorem d_law_law_273 : decode code 273 = .ok (.iadd, 1) := by decide +kernel
theorem d_law_law_274 : decode code 274 = .ok (.iaload, 1) := by decide +kernel
theorem d_law_law_275 : decode code 275 = .ok (.aload_n 0, 1) := by decide +kernel
theorem d_law_law_276 : decode code 276 = .ok (.iload 4, 2) := by decide +kernel
theorem d_law_law_278 : decode code 278 = .ok (.iconst 2, 1) := by decide +kernel
theorem d_law_law_279 : decode code 279 = .ok (.iadd, 1) := by decide +kernel
theorem d_law_law_280 : decode code 280 = .ok (.iaload, 1) := by decide +kernel
theorem d_law_law_281 : decode code 281 = .ok (.invokevirtual 41, 3) := by decide +kernel
theorem d_law_law_284 : decode code 284 = .ok (.aload_n 2, 1) := by decide +kernel
theorem d_law_law_285 : decode code 285 = .ok (.aload_n 0, 1) := by decide +kernel
theorem d_law_law_286 : decode code 286 = .ok (.iload 4, 2) := by decide +kernel
theorem d_law_law_288 : decode code 288 = .ok (.iconst 1, 1) := by decide +kernel
theorem d_law_law_289 : decode code 289 = .ok (.iadd, 1) := by decide +kernel
theorem d_law_law_290 : decode code 290 = .ok (.iaload, 1) := by decide +kernel
theorem d_law_law_291 : decode code 291 = .ok (.aload_n 0, 1) := by decide +kernel
theorem d_law_law_292 : decode code 292 = .ok (.iload 4, 2) := by decide +kernel
theorem d_law_law_294 : decode code 294 = .ok (.iconst 2, 1) := by decide +kernel
theorem d_law_law_295 : decode code 295 = .ok (.iadd, 1) := by decide +kernel
theorem d_law_law_296 : decode code 296 = .ok (.iaload, 1) := by decide +kernel
theorem d_law_law_297 : decode code 297 = .ok (.invokevirtual 45, 3) := by decide +kernel
theorem d_law_law_300 : decode code 300 = .ok (.if_icmp .eq 597, 3) := by decide +kernel
theorem d_law_law_303 : decode code 303 = .ok (.iconst 0, 1) := by decide +kernel
theorem d_law_law_304 : decode code 304 = .ok (.ireturn, 1) := by decide +kernel
theorem d_law_law_305 : decode code 305 = .ok (.aload_n 1, 1) := by decide +kernel
theorem d_law_law_306 : decode code 306 = .ok (.aload_n 0, 1) := by decide +kernel
theorem d_law_law_307 : decode code 307 = .ok (.iload 4, 2) := by decide +kernel
theorem d_law_law_309 : decode code 309 = .ok (.iconst 1, 1) := by decide +kernel
theorem d_law_law_310 : decode code 310 = .ok (.iadd, 1) := by decide +kernel
theorem d_law_law_311 : decode code 311 = .ok (.iaload, 1) := by decide +kernel
theorem d_law_law_312 : decode code 312 = .ok (.aload_n 0, 1) := by decide +kernel
theorem d_law_law_313 : decode code 313 = .ok (.iload 4, 2) := by decide +kernel
theorem d_law_law_315 : decode code 315 = .ok (.iconst 2, 1) := by decide +kernel
theorem d_law_law_316 : decode code 316 = .ok (.iadd, 1) := by decide +kernel
theorem d_law_law_317 : decode code 317 = .ok (.iaload, 1) := by decide +kernel
theorem d_law_law_318 : decode code 318 = .ok (.invokevirtual 46, 3) := by decide +kernel
theorem d_law_law_321 : decode code 321 = .ok (.aload_n 2, 1) := by decide +kernel
theorem d_law_law_322 : decode code 322 = .ok (.aload_n 0, 1) := by decide +kernel
theorem d_law_law_323 : decode code 323 = .ok (.iload 4, 2) := by decide +kernel
theorem d_law_law_325 : decode code 325 = .ok (.iconst 1, 1) := by decide +kernel
theorem d_law_law_326 : decode code 326 = .ok (.iadd, 1) := by decide +kernel
theorem d_law_law_327 : decode code 327 = .ok (.iaload, 1) := by decide +kernel
theorem d_law_law_328 : decode code 328 = .ok (.aload_n 0, 1) := by decide +kernel
theorem d_law_law_329 : decode code 329 = .ok (.iload 4, 2) := by decide +kernel
theorem d_law_law_331 : decode code 331 = .ok (.iconst 2, 1) := by decide +kernel
theorem d_law_law_332 : decode code 332 = .ok (.iadd, 1) := by decide +kernel
theorem d_law_law_333 : decode code 333 = .ok (.iaload, 1) := by decide +kernel
theorem d_law_law_334 : decode code 334 = .ok (.invokevirtual 50, 3) := by decide +kernel
theorem d_law_law_337 : decode code 337 = .ok (.if_icmp .eq 560, 3) := by decide +kernel
theorem d_law_law_340 : decode code 340 = .ok (.iconst 0, 1) := by decide +kernel
theorem d_law_law_341 : decode code 341 = .ok (.ireturn, 1) := by decide +kernel
theorem d_law_law_342 : decode code 342 = .ok (.aload_n 1, 1) := by decide +kernel
theorem d_law_law_343 : decode code 343 = .ok (.aload_n 0, 1) := by decide +kernel
theorem d_law_law_344 : decode code 344 = .ok (.iload 4, 2) := by decide +kernel
theorem d_law_law_346 : decode code 346 = .ok (.iconst 1, 1) := by decide +kernel
theorem d_law_law_347 : decode code 347 = .ok (.iadd, 1) := by decide +kernel
theorem d_law_law_348 : decode code 348 = .ok (.iaload, 1) := by decide +kernel
theorem d_law_law_349 : decode code 349 = .ok (.invokevirtual 51, 3) := by decide +kernel
theorem d_law_law_352 : decode code 352 = .ok (.aload_n 2, 1) := by decide +kernel
theorem d_law_law_353 : decode code 353 = .ok (.aload_n 0, 1) := by decide +kernel
theorem d_law_law_354 : decode code 354 = .ok (.iload 4, 2) := by decide +kernel
theorem d_law_law_356 : decode code 356 = .ok (.iconst 1, 1) := by decide +kernel
theorem d_law_law_357 : decode code 357 = .ok (.iadd, 1) := by decide +kernel
theorem d_law_law_358 : decode code 358 = .ok (.iaload, 1) := by decide +kernel
theorem d_law_law_359 : decode code 359 = .ok (.invokevirtual 54, 3) := by decide +kernel
theorem d_law_law_362 : decode code 362 = .ok (.if_icmp .eq 535, 3) := by decide +kernel
theorem d_law_law_365 : decode code 365 = .ok (.iconst 0, 1) := by decide +kernel
