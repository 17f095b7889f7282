theorem d_law_cell_0 : decode b_law_cell 0 = .ok (.iload_n 1, 1) := by decide +kernel
theorem d_law_cell_1 : decode b_law_cell 1 = .ok (.aload_n 0, 1) := by decide +kernel
theorem d_law_cell_2 : decode b_law_cell 2 = .ok (.arraylength, 1) := by decide +kernel
theorem d_law_cell_3 : decode b_law_cell 3 = .ok (.if_icmp .ge 9, 3) := by decide +kernel
theorem d_law_cell_6 : decode b_law_cell 6 = .ok (.aload_n 0, 1) := by decide +kernel
theorem d_law_cell_7 : decode b_law_cell 7 = .ok (.iload_n 1, 1) := by decide +kernel
theorem d_law_cell_8 : decode b_law_cell 8 = .ok (.iaload, 1) := by decide +kernel
theorem d_law_cell_9 : decode b_law_cell 9 = .ok (.goto 4, 3) := by decide +kernel
theorem d_law_cell_12 : decode b_law_cell 12 = .ok (.iconst 0, 1) := by decide +kernel
theorem d_law_cell_13 : decode b_law_cell 13 = .ok (.ireturn, 1) := by decide +kernel
theorem d_law_law_0 : decode b_law_law 0 = .ok (.new 7, 3) := by decide +kernel
theorem d_law_law_3 : decode b_law_law 3 = .ok (.dup, 1) := by decide +kernel
theorem d_law_law_4 : decode b_law_law 4 = .ok (.aload_n 0, 1) := by decide +kernel
theorem d_law_law_5 : decode b_law_law 5 = .ok (.iconst 0, 1) := by decide +kernel
theorem d_law_law_6 : decode b_law_law 6 = .ok (.invokestatic 9, 3) := by decide +kernel
theorem d_law_law_9 : decode b_law_law 9 = .ok (.aload_n 0, 1) := by decide +kernel
theorem d_law_law_10 : decode b_law_law 10 = .ok (.iconst 1, 1) := by decide +kernel
theorem d_law_law_11 : decode b_law_law 11 = .ok (.invokestatic 9, 3) := by decide +kernel
theorem d_law_law_14 : decode b_law_law 14 = .ok (.invokespecial 15, 3) := by decide +kernel
theorem d_law_law_17 : decode b_law_law 17 = .ok (.astore_n 1, 1) := by decide +kernel
theorem d_law_law_18 : decode b_law_law 18 = .ok (.new 18, 3) := by decide +kernel
theorem d_law_law_21 : decode b_law_law 21 = .ok (.dup, 1) := by decide +kernel
theorem d_law_law_22 : decode b_law_law 22 = .ok (.aload_n 0, 1) := by decide +kernel
theorem d_law_law_23 : decode b_law_law 23 = .ok (.iconst 0, 1) := by decide +kernel
theorem d_law_law_24 : decode b_law_law 24 = .ok (.invokestatic 9, 3) := by decide +kernel
theorem d_law_law_27 : decode b_law_law 27 = .ok (.aload_n 0, 1) := by decide +kernel
theorem d_law_law_28 : decode b_law_law 28 = .ok (.iconst 1, 1) := by decide +kernel
theorem d_law_law_29 : decode b_law_law 29 = .ok (.invokestatic 9, 3) := by decide +kernel
theorem d_law_law_32 : decode b_law_law 32 = .ok (.invokespecial 20, 3) := by decide +kernel
theorem d_law_law_35 : decode b_law_law 35 = .ok (.astore_n 2, 1) := by decide +kernel
theorem d_law_law_36 : decode b_law_law 36 = .ok (.iconst 2, 1) := by decide +kernel
theorem d_law_law_37 : decode b_law_law 37 = .ok (.istore_n 3, 1) := by decide +kernel
theorem d_law_law_38 : decode b_law_law 38 = .ok (.iload_n 3, 1) := by decide +kernel
theorem d_law_law_39 : decode b_law_law 39 = .ok (.aload_n 0, 1) := by decide +kernel
theorem d_law_law_40 : decode b_law_law 40 = .ok (.arraylength, 1) := by decide +kernel
theorem d_law_law_41 : decode b_law_law 41 = .ok (.iconst 5, 1) := by decide +kernel
theorem d_law_law_42 : decode b_law_law 42 = .ok (.isub, 1) := by decide +kernel
theorem d_law_law_43 : decode b_law_law 43 = .ok (.if_icmp .gt 673, 3) := by decide +kernel
theorem d_law_law_46 : decode b_law_law 46 = .ok (.aload_n 0, 1) := by decide +kernel
theorem d_law_law_47 : decode b_law_law 47 = .ok (.iload_n 3, 1) := by decide +kernel
theorem d_law_law_48 : decode b_law_law 48 = .ok (.iaload, 1) := by decide +kernel
theorem d_law_law_49 : decode b_law_law 49 = .ok (.bipush 31, 2) := by decide +kernel
theorem d_law_law_51 : decode b_law_law 51 = .ok (.iand, 1) := by decide +kernel
theorem d_law_law_52 : decode b_law_law 52 = .ok (.tableswitch 658 0 17 #[88, 111, 160, 193, 226, 249, 282, 335, 378, 421, 454, 497, 510, 533, 556, 579, 602, 635], 88) := by decide +kernel
theorem d_law_law_140 : decode b_law_law 140 = .ok (.aload_n 1, 1) := by decide +kernel
theorem d_law_law_141 : decode b_law_law 141 = .ok (.aload_n 0, 1) := by decide +kernel
theorem d_law_law_142 : decode b_law_law 142 = .ok (.iload_n 3, 1) := by decide +kernel
theorem d_law_law_143 : decode b_law_law 143 = .ok (.iconst 1, 1) := by decide +kernel
theorem d_law_law_144 : decode b_law_law 144 = .ok (.iadd, 1) := by decide +kernel
theorem d_law_law_145 : decode b_law_law 145 = .ok (.iaload, 1) := by decide +kernel
theorem d_law_law_146 : decode b_law_law 146 = .ok (.invokevirtual 21, 3) := by decide +kernel
theorem d_law_law_149 : decode b_law_law 149 = .ok (.aload_n 2, 1) := by decide +kernel
theorem d_law_law_150 : decode b_law_law 150 = .ok (.aload_n 0, 1) := by decide +kernel
theorem d_law_law_151 : decode b_law_law 151 = .ok (.iload_n 3, 1) := by decide +kernel
theorem d_law_law_152 : decode b_law_law 152 = .ok (.iconst 1, 1) := by decide +kernel
theorem d_law_law_153 : decode b_law_law 153 = .ok (.iadd, 1) := by decide +kernel
theorem d_law_law_154 : decode b_law_law 154 = .ok (.iaload, 1) := by decide +kernel
theorem d_law_law_155 : decode b_law_law 155 = .ok (.invokevirtual 25, 3) := by decide +kernel
theorem d_law_law_158 : decode b_law_law 158 = .ok (.if_icmp .eq 552, 3) := by decide +kernel
theorem d_law_law_161 : decode b_law_law 161 = .ok (.iconst 0, 1) := by decide +kernel
theorem d_law_law_162 : decode b_law_law 162 = .ok (.ireturn, 1) := by decide +kernel
theorem d_law_law_163 : decode b_law_law 163 = .ok (.aload_n 1, 1) := by decide +kernel
theorem d_law_law_164 : decode b_law_law 164 = .ok (.aload_n 0, 1) := by decide +kernel
theorem d_law_law_165 : decode b_law_law 165 = .ok (.iload_n 3, 1) := by decide +kernel
theorem d_law_law_166 : decode b_law_law 166 = .ok (.iconst 1, 1) := by decide +kernel
theorem d_law_law_167 : decode b_law_law 167 = .ok (.iadd, 1) := by decide +kernel
theorem d_law_law_168 : decode b_law_law 168 = .ok (.iaload, 1) := by decide +kernel
theorem d_law_law_169 : decode b_law_law 169 = .ok (.aload_n 0, 1) := by decide +kernel
theorem d_law_law_170 : decode b_law_law 170 = .ok (.iload_n 3, 1) := by decide +kernel
theorem d_law_law_171 : decode b_law_law 171 = .ok (.iconst 2, 1) := by decide +kernel
theorem d_law_law_172 : decode b_law_law 172 = .ok (.iadd, 1) := by decide +kernel
theorem d_law_law_173 : decode b_law_law 173 = .ok (.iaload, 1) := by decide +kernel
theorem d_law_law_174 : decode b_law_law 174 = .ok (.ifCond .eq 7, 3) := by decide +kernel
theorem d_law_law_177 : decode b_law_law 177 = .ok (.iconst 1, 1) := by decide +kernel
theorem d_law_law_178 : decode b_law_law 178 = .ok (.goto 4, 3) := by decide +kernel
theorem d_law_law_181 : decode b_law_law 181 = .ok (.iconst 0, 1) := by decide +kernel
theorem d_law_law_182 : decode b_law_law 182 = .ok (.invokevirtual 26, 3) := by decide +kernel
theorem d_law_law_185 : decode b_law_law 185 = .ok (.aload_n 2, 1) := by decide +kernel
theorem d_law_law_186 : decode b_law_law 186 = .ok (.aload_n 0, 1) := by decide +kernel
theorem d_law_law_187 : decode b_law_law 187 = .ok (.iload_n 3, 1) := by decide +kernel
theorem d_law_law_188 : decode b_law_law 188 = .ok (.iconst 1, 1) := by decide +kernel
theorem d_law_law_189 : decode b_law_law 189 = .ok (.iadd, 1) := by decide +kernel
theorem d_law_law_190 : decode b_law_law 190 = .ok (.iaload, 1) := by decide +kernel
theorem d_law_law_191 : decode b_law_law 191 = .ok (.aload_n 0, 1) := by decide +kernel
theorem d_law_law_192 : decode b_law_law 192 = .ok (.iload_n 3, 1) := by decide +kernel
theorem d_law_law_193 : decode b_law_law 193 = .ok (.iconst 2, 1) := by decide +kernel
theorem d_law_law_194 : decode b_law_law 194 = .ok (.iadd, 1) := by decide +kernel
theorem d_law_law_195 : decode b_law_law 195 = .ok (.iaload, 1) := by decide +kernel
theorem d_law_law_196 : decode b_law_law 196 = .ok (.ifCond .eq 7, 3) := by decide +kernel
theorem d_law_law_199 : decode b_law_law 199 = .ok (.iconst 1, 1) := by decide +kernel
theorem d_law_law_200 : decode b_law_law 200 = .ok (.goto 4, 3) := by decide +kernel
theorem d_law_law_203 : decode b_law_law 203 = .ok (.iconst 0, 1) := by decide +kernel
theorem d_law_law_204 : decode b_law_law 204 = .ok (.invokevirtual 30, 3) := by decide +kernel
theorem d_law_law_207 : decode b_law_law 207 = .ok (.if_icmp .eq 503, 3) := by decide +kernel
theorem d_law_law_210 : decode b_law_law 210 = .ok (.iconst 0, 1) := by decide +kernel
theorem d_law_law_211 : decode b_law_law 211 = .ok (.ireturn, 1) := by decide +kernel
theorem d_law_law_212 : decode b_law_law 212 = .ok (.aload_n 1, 1) := by decide +kernel
theorem d_law_law_213 : decode b_law_law 213 = .ok (.aload_n 0, 1) := by decide +kernel
theorem d_law_law_214 : decode b_law_law 214 = .ok (.iload_n 3, 1) := by decide +kernel
theorem d_law_law_215 : decode b_law_law 215 = .ok (.iconst 1, 1) := by decide +kernel
theorem d_law_law_216 : decode b_law_law 216 = .ok (.iadd, 1) := by decide +kernel
theorem d_law_law_217 : decode b_law_law 217 = .ok (.iaload, 1) := by decide +kernel
theorem d_law_law_218 : decode b_law_law 218 = .ok (.aload_n 0, 1) := by decide +kernel
theorem d_law_law_219 : decode b_law_law 219 = .ok (.iload_n 3, 1) := by decide +kernel
theorem d_law_law_220 : decode b_law_law 220 = .ok (.iconst 2, 1) := by decide +kernel
theorem d_law_law_221 : decode b_law_law 221 = .ok (.iadd, 1) := by decide +kernel
theorem d_law_law_222 : decode b_law_law 222 = .ok (.iaload, 1) := by decide +kernel
theorem d_law_law_223 : decode b_law_law 223 = .ok (.invokevirtual 31, 3) := by decide +kernel
theorem d_law_law_226 : decode b_law_law 226 = .ok (.aload_n 2, 1) := by decide +kernel
theorem d_law_law_227 : decode b_law_law 227 = .ok (.aload_n 0, 1) := by decide +kernel
theorem d_law_law_228 : decode b_law_law 228 = .ok (.iload_n 3, 1) := by decide +kernel
theorem d_law_law_229 : decode b_law_law 229 = .ok (.iconst 1, 1) := by decide +kernel
theorem d_law_law_230 : decode b_law_law 230 = .ok (.iadd, 1) := by decide +kernel
theorem d_law_law_231 : decode b_law_law 231 = .ok (.iaload, 1) := by decide +kernel
theorem d_law_law_232 : decode b_law_law 232 = .ok (.aload_n 0, 1) := by decide +kernel
theorem d_law_law_233 : decode b_law_law 233 = .ok (.iload_n 3, 1) := by decide +kernel
theorem d_law_law_234 : decode b_law_law 234 = .ok (.iconst 2, 1) := by decide +kernel
theorem d_law_law_235 : decode b_law_law 235 = .ok (.iadd, 1) := by decide +kernel
theorem d_law_law_236 : decode b_law_law 236 = .ok (.iaload, 1) := by decide +kernel
theorem d_law_law_237 : decode b_law_law 237 = .ok (.invokevirtual 35, 3) := by decide +kernel
theorem d_law_law_240 : decode b_law_law 240 = .ok (.if_icmp .eq 470, 3) := by decide +kernel
theorem d_law_law_243 : decode b_law_law 243 = .ok (.iconst 0, 1) := by decide +kernel
theorem d_law_law_244 : decode b_law_law 244 = .ok (.ireturn, 1) := by decide +kernel
theorem d_law_law_245 : decode b_law_law 245 = .ok (.aload_n 1, 1) := by decide +kernel
theorem d_law_law_246 : decode b_law_law 246 = .ok (.aload_n 0, 1) := by decide +kernel
theorem d_law_law_247 : decode b_law_law 247 = .ok (.iload_n 3, 1) := by decide +kernel
theorem d_law_law_248 : decode b_law_law 248 = .ok (.iconst 1, 1) := by decide +kernel
theorem d_law_law_249 : decode b_law_law 249 = .ok (.iadd, 1) := by decide +kernel
theorem d_law_law_250 : decode b_law_law 250 = .ok (.iaload, 1) := by decide +kernel
theorem d_law_law_251 : decode b_law_law 251 = .ok (.aload_n 0, 1) := by decide +kernel
theorem d_law_law_252 : decode b_law_law 252 = .ok (.iload_n 3, 1) := by decide +kernel
theorem d_law_law_253 : decode b_law_law 253 = .ok (.iconst 2, 1) := by decide +kernel
theorem d_law_law_254 : decode b_law_law 254 = .ok (.iadd, 1) := by decide +kernel
theorem d_law_law_255 : decode b_law_law 255 = .ok (.iaload, 1) := by decide +kernel
theorem d_law_law_256 : decode b_law_law 256 = .ok (.invokevirtual 36, 3) := by decide +kernel
theorem d_law_law_259 : decode b_law_law 259 = .ok (.aload_n 2, 1) := by decide +kernel
theorem d_law_law_260 : decode b_law_law 260 = .ok (.aload_n 0, 1) := by decide +kernel
theorem d_law_law_261 : decode b_law_law 261 = .ok (.iload_n 3, 1) := by decide +kernel
theorem d_law_law_262 : decode b_law_law 262 = .ok (.iconst 1, 1) := by decide +kernel
theorem d_law_law_263 : decode b_law_law 263 = .ok (.iadd, 1) := by decide +kernel
theorem d_law_law_264 : decode b_law_law 264 = .ok (.iaload, 1) := by decide +kernel
theorem d_law_law_265 : decode b_law_law 265 = .ok (.aload_n 0, 1) := by decide +kernel
theorem d_law_law_266 : decode b_law_law 266 = .ok (.iload_n 3, 1) := by decide +kernel
theorem d_law_law_267 : decode b_law_law 267 = .ok (.iconst 2, 1) := by decide +kernel
theorem d_law_law_268 : decode b_law_law 268 = .ok (.iadd, 1) := by decide +kernel
theorem d_law_law_269 : decode b_law_law 269 = .ok (.iaload, 1) := by decide +kernel
theorem d_law_law_270 : decode b_law_law 270 = .ok (.invokevirtual 39, 3) := by decide +kernel
theorem d_law_law_273 : decode b_law_law 273 = .ok (.if_icmp .eq 437, 3) := by decide +kernel
theorem d_law_law_276 : decode b_law_law 276 = .ok (.iconst 0, 1) := by decide +kernel
theorem d_law_law_277 : decode b_law_law 277 = .ok (.ireturn, 1) := by decide +kernel
theorem d_law_law_278 : decode b_law_law 278 = .ok (.aload_n 1, 1) := by decide +kernel
theorem d_law_law_279 : decode b_law_law 279 = .ok (.aload_n 0, 1) := by decide +kernel
theorem d_law_law_280 : decode b_law_law 280 = .ok (.iload_n 3, 1) := by decide +kernel
theorem d_law_law_281 : decode b_law_law 281 = .ok (.iconst 1, 1) := by decide +kernel
theorem d_law_law_282 : decode b_law_law 282 = .ok (.iadd, 1) := by decide +kernel
theorem d_law_law_283 : decode b_law_law 283 = .ok (.iaload, 1) := by decide +kernel
theorem d_law_law_284 : decode b_law_law 284 = .ok (.invokevirtual 40, 3) := by decide +kernel
theorem d_law_law_287 : decode b_law_law 287 = .ok (.aload_n 2, 1) := by decide +kernel
theorem d_law_law_288 : decode b_law_law 288 = .ok (.aload_n 0, 1) := by decide +kernel
theorem d_law_law_289 : decode b_law_law 289 = .ok (.iload_n 3, 1) := by decide +kernel
theorem d_law_law_290 : decode b_law_law 290 = .ok (.iconst 1, 1) := by decide +kernel
theorem d_law_law_291 : decode b_law_law 291 = .ok (.iadd, 1) := by decide +kernel
theorem d_law_law_292 : decode b_law_law 292 = .ok (.iaload, 1) := by decide +kernel
theorem d_law_law_293 : decode b_law_law 293 = .ok (.invokevirtual 43, 3) := by decide +kernel
theorem d_law_law_296 : decode b_law_law 296 = .ok (.if_icmp .eq 414, 3) := by decide +kernel
theorem d_law_law_299 : decode b_law_law 299 = .ok (.iconst 0, 1) := by decide +kernel
theorem d_law_law_300 : decode b_law_law 300 = .ok (.ireturn, 1) := by decide +kernel
theorem d_law_law_301 : decode b_law_law 301 = .ok (.aload_n 1, 1) := by decide +kernel
theorem d_law_law_302 : decode b_law_law 302 = .ok (.aload_n 0, 1) := by decide +kernel
theorem d_law_law_303 : decode b_law_law 303 = .ok (.iload_n 3, 1) := by decide +kernel
theorem d_law_law_304 : decode b_law_law 304 = .ok (.iconst 1, 1) := by decide +kernel
theorem d_law_law_305 : decode b_law_law 305 = .ok (.iadd, 1) := by decide +kernel
theorem d_law_law_306 : decode b_law_law 306 = .ok (.iaload, 1) := by decide +kernel
theorem d_law_law_307 : decode b_law_law 307 = .ok (.aload_n 0, 1) := by decide +kernel
theorem d_law_law_308 : decode b_law_law 308 = .ok (.iload_n 3, 1) := by decide +kernel
theorem d_law_law_309 : decode b_law_law 309 = .ok (.iconst 2, 1) := by decide +kernel
theorem d_law_law_310 : decode b_law_law 310 = .ok (.iadd, 1) := by decide +kernel
theorem d_law_law_311 : decode b_law_law 311 = .ok (.iaload, 1) := by decide +kernel
theorem d_law_law_312 : decode b_law_law 312 = .ok (.invokevirtual 44, 3) := by decide +kernel
theorem d_law_law_315 : decode b_law_law 315 = .ok (.aload_n 2, 1) := by decide +kernel
theorem d_law_law_316 : decode b_law_law 316 = .ok (.aload_n 0, 1) := by decide +kernel
theorem d_law_law_317 : decode b_law_law 317 = .ok (.iload_n 3, 1) := by decide +kernel
theorem d_law_law_318 : decode b_law_law 318 = .ok (.iconst 1, 1) := by decide +kernel
theorem d_law_law_319 : decode b_law_law 319 = .ok (.iadd, 1) := by decide +kernel
theorem d_law_law_320 : decode b_law_law 320 = .ok (.iaload, 1) := by decide +kernel
theorem d_law_law_321 : decode b_law_law 321 = .ok (.aload_n 0, 1) := by decide +kernel
theorem d_law_law_322 : decode b_law_law 322 = .ok (.iload_n 3, 1) := by decide +kernel
theorem d_law_law_323 : decode b_law_law 323 = .ok (.iconst 2, 1) := by decide +kernel
theorem d_law_law_324 : decode b_law_law 324 = .ok (.iadd, 1) := by decide +kernel
theorem d_law_law_325 : decode b_law_law 325 = .ok (.iaload, 1) := by decide +kernel
theorem d_law_law_326 : decode b_law_law 326 = .ok (.invokevirtual 47, 3) := by decide +kernel
theorem d_law_law_329 : decode b_law_law 329 = .ok (.if_icmp .eq 381, 3) := by decide +kernel
theorem d_law_law_332 : decode b_law_law 332 = .ok (.iconst 0, 1) := by decide +kernel
theorem d_law_law_333 : decode b_law_law 333 = .ok (.ireturn, 1) := by decide +kernel
theorem d_law_law_334 : decode b_law_law 334 = .ok (.aload_n 1, 1) := by decide +kernel
theorem d_law_law_335 : decode b_law_law 335 = .ok (.aload_n 0, 1) := by decide +kernel
theorem d_law_law_336 : decode b_law_law 336 = .ok (.iload_n 3, 1) := by decide +kernel
theorem d_law_law_337 : decode b_law_law 337 = .ok (.iconst 1, 1) := by decide +kernel
theorem d_law_law_338 : decode b_law_law 338 = .ok (.iadd, 1) := by decide +kernel
theorem d_law_law_339 : decode b_law_law 339 = .ok (.iaload, 1) := by decide +kernel
theorem d_law_law_340 : decode b_law_law 340 = .ok (.aload_n 0, 1) := by decide +kernel
theorem d_law_law_341 : decode b_law_law 341 = .ok (.iload_n 3, 1) := by decide +kernel
theorem d_law_law_342 : decode b_law_law 342 = .ok (.iconst 2, 1) := by decide +kernel
theorem d_law_law_343 : decode b_law_law 343 = .ok (.iadd, 1) := by decide +kernel
theorem d_law_law_344 : decode b_law_law 344 = .ok (.iaload, 1) := by decide +kernel
theorem d_law_law_345 : decode b_law_law 345 = .ok (.aload_n 0, 1) := by decide +kernel
theorem d_law_law_346 : decode b_law_law 346 = .ok (.iload_n 3, 1) := by decide +kernel
theorem d_law_law_347 : decode b_law_law 347 = .ok (.iconst 3, 1) := by decide +kernel
theorem d_law_law_348 : decode b_law_law 348 = .ok (.iadd, 1) := by decide +kernel
theorem d_law_law_349 : decode b_law_law 349 = .ok (.iaload, 1) := by decide +kernel
theorem d_law_law_350 : decode b_law_law 350 = .ok (.aload_n 0, 1) := by decide +kernel
theorem d_law_law_351 : decode b_law_law 351 = .ok (.iload_n 3, 1) := by decide +kernel
theorem d_law_law_352 : decode b_law_law 352 = .ok (.iconst 4, 1) := by decide +kernel
theorem d_law_law_353 : decode b_law_law 353 = .ok (.iadd, 1) := by decide +kernel
theorem d_law_law_354 : decode b_law_law 354 = .ok (.iaload, 1) := by decide +kernel
theorem d_law_law_355 : decode b_law_law 355 = .ok (.invokevirtual 48, 3) := by decide +kernel
theorem d_law_law_358 : decode b_law_law 358 = .ok (.aload_n 2, 1) := by decide +kernel
theorem d_law_law_359 : decode b_law_law 359 = .ok (.aload_n 0, 1) := by decide +kernel
theorem d_law_law_360 : decode b_law_law 360 = .ok (.iload_n 3, 1) := by decide +kernel
theorem d_law_law_361 : decode b_law_law 361 = .ok (.iconst 1, 1) := by decide +kernel
theorem d_law_law_362 : decode b_law_law 362 = .ok (.iadd, 1) := by decide +kernel
theorem d_law_law_363 : decode b_law_law 363 = .ok (.iaload, 1) := by decide +kernel
theorem d_law_law_364 : decode b_law_law 364 = .ok (.aload_n 0, 1) := by decide +kernel
theorem d_law_law_365 : decode b_law_law 365 = .ok (.iload_n 3, 1) := by decide +kernel
theorem d_law_law_366 : decode b_law_law 366 = .ok (.iconst 2, 1) := by decide +kernel
theorem d_law_law_367 : decode b_law_law 367 = .ok (.iadd, 1) := by decide +kernel
theorem d_law_law_368 : decode b_law_law 368 = .ok (.iaload, 1) := by decide +kernel
theorem d_law_law_369 : decode b_law_law 369 = .ok (.aload_n 0, 1) := by decide +kernel
theorem d_law_law_370 : decode b_law_law 370 = .ok (.iload_n 3, 1) := by decide +kernel
theorem d_law_law_371 : decode b_law_law 371 = .ok (.iconst 3, 1) := by decide +kernel
theorem d_law_law_372 : decode b_law_law 372 = .ok (.iadd, 1) := by decide +kernel
theorem d_law_law_373 : decode b_law_law 373 = .ok (.iaload, 1) := by decide +kernel
theorem d_law_law_374 : decode b_law_law 374 = .ok (.aload_n 0, 1) := by decide +kernel
theorem d_law_law_375 : decode b_law_law 375 = .ok (.iload_n 3, 1) := by decide +kernel
theorem d_law_law_376 : decode b_law_law 376 = .ok (.iconst 4, 1) := by decide +kernel
theorem d_law_law_377 : decode b_law_law 377 = .ok (.iadd, 1) := by decide +kernel
theorem d_law_law_378 : decode b_law_law 378 = .ok (.iaload, 1) := by decide +kernel
theorem d_law_law_379 : decode b_law_law 379 = .ok (.invokevirtual 52, 3) := by decide +kernel
theorem d_law_law_382 : decode b_law_law 382 = .ok (.if_icmp .eq 328, 3) := by decide +kernel
theorem d_law_law_385 : decode b_law_law 385 = .ok (.iconst 0, 1) := by decide +kernel
theorem d_law_law_386 : decode b_law_law 386 = .ok (.ireturn, 1) := by decide +kernel
theorem d_law_law_387 : decode b_law_law 387 = .ok (.aload_n 1, 1) := by decide +kernel
theorem d_law_law_388 : decode b_law_law 388 = .ok (.aload_n 0, 1) := by decide +kernel
theorem d_law_law_389 : decode b_law_law 389 = .ok (.iload_n 3, 1) := by decide +kernel
theorem d_law_law_390 : decode b_law_law 390 = .ok (.iconst 1, 1) := by decide +kernel
theorem d_law_law_391 : decode b_law_law 391 = .ok (.iadd, 1) := by decide +kernel
theorem d_law_law_392 : decode b_law_law 392 = .ok (.iaload, 1) := by decide +kernel
theorem d_law_law_393 : decode b_law_law 393 = .ok (.aload_n 0, 1) := by decide +kernel
theorem d_law_law_394 : decode b_law_law 394 = .ok (.iload_n 3, 1) := by decide +kernel
theorem d_law_law_395 : decode b_law_law 395 = .ok (.iconst 2, 1) := by decide +kernel
theorem d_law_law_396 : decode b_law_law 396 = .ok (.iadd, 1) := by decide +kernel
theorem d_law_law_397 : decode b_law_law 397 = .ok (.iaload, 1) := by decide +kernel
theorem d_law_law_398 : decode b_law_law 398 = .ok (.aload_n 0, 1) := by decide +kernel
theorem d_law_law_399 : decode b_law_law 399 = .ok (.iload_n 3, 1) := by decide +kernel
theorem d_law_law_400 : decode b_law_law 400 = .ok (.iconst 3, 1) := by decide +kernel
theorem d_law_law_401 : decode b_law_law 401 = .ok (.iadd, 1) := by decide +kernel
theorem d_law_law_402 : decode b_law_law 402 = .ok (.iaload, 1) := by decide +kernel
theorem d_law_law_403 : decode b_law_law 403 = .ok (.invokevirtual 53, 3) := by decide +kernel
theorem d_law_law_406 : decode b_law_law 406 = .ok (.aload_n 2, 1) := by decide +kernel
theorem d_law_law_407 : decode b_law_law 407 = .ok (.aload_n 0, 1) := by decide +kernel
theorem d_law_law_408 : decode b_law_law 408 = .ok (.iload_n 3, 1) := by decide +kernel
theorem d_law_law_409 : decode b_law_law 409 = .ok (.iconst 1, 1) := by decide +kernel
theorem d_law_law_410 : decode b_law_law 410 = .ok (.iadd, 1) := by decide +kernel
theorem d_law_law_411 : decode b_law_law 411 = .ok (.iaload, 1) := by decide +kernel
theorem d_law_law_412 : decode b_law_law 412 = .ok (.aload_n 0, 1) := by decide +kernel
theorem d_law_law_413 : decode b_law_law 413 = .ok (.iload_n 3, 1) := by decide +kernel
theorem d_law_law_414 : decode b_law_law 414 = .ok (.iconst 2, 1) := by decide +kernel
theorem d_law_law_415 : decode b_law_law 415 = .ok (.iadd, 1) := by decide +kernel
theorem d_law_law_416 : decode b_law_law 416 = .ok (.iaload, 1) := by decide +kernel
theorem d_law_law_417 : decode b_law_law 417 = .ok (.aload_n 0, 1) := by decide +kernel
theorem d_law_law_418 : decode b_law_law 418 = .ok (.iload_n 3, 1) := by decide +kernel
theorem d_law_law_419 : decode b_law_law 419 = .ok (.iconst 3, 1) := by decide +kernel
theorem d_law_law_420 : decode b_law_law 420 = .ok (.iadd, 1) := by decide +kernel
theorem d_law_law_421 : decode b_law_law 421 = .ok (.iaload, 1) := by decide +kernel
theorem d_law_law_422 : decode b_law_law 422 = .ok (.invokevirtual 57, 3) := by decide +kernel
theorem d_law_law_425 : decode b_law_law 425 = .ok (.if_icmp .eq 285, 3) := by decide +kernel
theorem d_law_law_428 : decode b_law_law 428 = .ok (.iconst 0, 1) := by decide +kernel
theorem d_law_law_429 : decode b_law_law 429 = .ok (.ireturn, 1) := by decide +kernel
theorem d_law_law_430 : decode b_law_law 430 = .ok (.aload_n 1, 1) := by decide +kernel
theorem d_law_law_431 : decode b_law_law 431 = .ok (.aload_n 0, 1) := by decide +kernel
theorem d_law_law_432 : decode b_law_law 432 = .ok (.iload_n 3, 1) := by decide +kernel
theorem d_law_law_433 : decode b_law_law 433 = .ok (.iconst 1, 1) := by decide +kernel
theorem d_law_law_434 : decode b_law_law 434 = .ok (.iadd, 1) := by decide +kernel
theorem d_law_law_435 : decode b_law_law 435 = .ok (.iaload, 1) := by decide +kernel
theorem d_law_law_436 : decode b_law_law 436 = .ok (.aload_n 0, 1) := by decide +kernel
theorem d_law_law_437 : decode b_law_law 437 = .ok (.iload_n 3, 1) := by decide +kernel
theorem d_law_law_438 : decode b_law_law 438 = .ok (.iconst 2, 1) := by decide +kernel
theorem d_law_law_439 : decode b_law_law 439 = .ok (.iadd, 1) := by decide +kernel
theorem d_law_law_440 : decode b_law_law 440 = .ok (.iaload, 1) := by decide +kernel
theorem d_law_law_441 : decode b_law_law 441 = .ok (.aload_n 0, 1) := by decide +kernel
theorem d_law_law_442 : decode b_law_law 442 = .ok (.iload_n 3, 1) := by decide +kernel
theorem d_law_law_443 : decode b_law_law 443 = .ok (.iconst 3, 1) := by decide +kernel
theorem d_law_law_444 : decode b_law_law 444 = .ok (.iadd, 1) := by decide +kernel
theorem d_law_law_445 : decode b_law_law 445 = .ok (.iaload, 1) := by decide +kernel
theorem d_law_law_446 : decode b_law_law 446 = .ok (.invokevirtual 58, 3) := by decide +kernel
theorem d_law_law_449 : decode b_law_law 449 = .ok (.aload_n 2, 1) := by decide +kernel
theorem d_law_law_450 : decode b_law_law 450 = .ok (.aload_n 0, 1) := by decide +kernel
theorem d_law_law_451 : decode b_law_law 451 = .ok (.iload_n 3, 1) := by decide +kernel
theorem d_law_law_452 : decode b_law_law 452 = .ok (.iconst 1, 1) := by decide +kernel
theorem d_law_law_453 : decode b_law_law 453 = .ok (.iadd, 1) := by decide +kernel
theorem d_law_law_454 : decode b_law_law 454 = .ok (.iaload, 1) := by decide +kernel
theorem d_law_law_455 : decode b_law_law 455 = .ok (.aload_n 0, 1) := by decide +kernel
theorem d_law_law_456 : decode b_law_law 456 = .ok (.iload_n 3, 1) := by decide +kernel
theorem d_law_law_457 : decode b_law_law 457 = .ok (.iconst 2, 1) := by decide +kernel
theorem d_law_law_458 : decode b_law_law 458 = .ok (.iadd, 1) := by decide +kernel
theorem d_law_law_459 : decode b_law_law 459 = .ok (.iaload, 1) := by decide +kernel
theorem d_law_law_460 : decode b_law_law 460 = .ok (.aload_n 0, 1) := by decide +kernel
theorem d_law_law_461 : decode b_law_law 461 = .ok (.iload_n 3, 1) := by decide +kernel
theorem d_law_law_462 : decode b_law_law 462 = .ok (.iconst 3, 1) := by decide +kernel
theorem d_law_law_463 : decode b_law_law 463 = .ok (.iadd, 1) := by decide +kernel
theorem d_law_law_464 : decode b_law_law 464 = .ok (.iaload, 1) := by decide +kernel
theorem d_law_law_465 : decode b_law_law 465 = .ok (.invokevirtual 61, 3) := by decide +kernel
theorem d_law_law_468 : decode b_law_law 468 = .ok (.if_icmp .eq 242, 3) := by decide +kernel
theorem d_law_law_471 : decode b_law_law 471 = .ok (.iconst 0, 1) := by decide +kernel
theorem d_law_law_472 : decode b_law_law 472 = .ok (.ireturn, 1) := by decide +kernel
theorem d_law_law_473 : decode b_law_law 473 = .ok (.aload_n 1, 1) := by decide +kernel
theorem d_law_law_474 : decode b_law_law 474 = .ok (.aload_n 0, 1) := by decide +kernel
theorem d_law_law_475 : decode b_law_law 475 = .ok (.iload_n 3, 1) := by decide +kernel
theorem d_law_law_476 : decode b_law_law 476 = .ok (.iconst 1, 1) := by decide +kernel
theorem d_law_law_477 : decode b_law_law 477 = .ok (.iadd, 1) := by decide +kernel
theorem d_law_law_478 : decode b_law_law 478 = .ok (.iaload, 1) := by decide +kernel
theorem d_law_law_479 : decode b_law_law 479 = .ok (.aload_n 0, 1) := by decide +kernel
theorem d_law_law_480 : decode b_law_law 480 = .ok (.iload_n 3, 1) := by decide +kernel
theorem d_law_law_481 : decode b_law_law 481 = .ok (.iconst 2, 1) := by decide +kernel
theorem d_law_law_482 : decode b_law_law 482 = .ok (.iadd, 1) := by decide +kernel
theorem d_law_law_483 : decode b_law_law 483 = .ok (.iaload, 1) := by decide +kernel
theorem d_law_law_484 : decode b_law_law 484 = .ok (.invokevirtual 62, 3) := by decide +kernel
theorem d_law_law_487 : decode b_law_law 487 = .ok (.aload_n 2, 1) := by decide +kernel
theorem d_law_law_488 : decode b_law_law 488 = .ok (.aload_n 0, 1) := by decide +kernel
theorem d_law_law_489 : decode b_law_law 489 = .ok (.iload_n 3, 1) := by decide +kernel
theorem d_law_law_490 : decode b_law_law 490 = .ok (.iconst 1, 1) := by decide +kernel
theorem d_law_law_491 : decode b_law_law 491 = .ok (.iadd, 1) := by decide +kernel
theorem d_law_law_492 : decode b_law_law 492 = .ok (.iaload, 1) := by decide +kernel
theorem d_law_law_493 : decode b_law_law 493 = .ok (.aload_n 0, 1) := by decide +kernel
theorem d_law_law_494 : decode b_law_law 494 = .ok (.iload_n 3, 1) := by decide +kernel
theorem d_law_law_495 : decode b_law_law 495 = .ok (.iconst 2, 1) := by decide +kernel
theorem d_law_law_496 : decode b_law_law 496 = .ok (.iadd, 1) := by decide +kernel
theorem d_law_law_497 : decode b_law_law 497 = .ok (.iaload, 1) := by decide +kernel
theorem d_law_law_498 : decode b_law_law 498 = .ok (.invokevirtual 65, 3) := by decide +kernel
theorem d_law_law_501 : decode b_law_law 501 = .ok (.if_icmp .eq 209, 3) := by decide +kernel
theorem d_law_law_504 : decode b_law_law 504 = .ok (.iconst 0, 1) := by decide +kernel
theorem d_law_law_505 : decode b_law_law 505 = .ok (.ireturn, 1) := by decide +kernel
theorem d_law_law_506 : decode b_law_law 506 = .ok (.aload_n 1, 1) := by decide +kernel
theorem d_law_law_507 : decode b_law_law 507 = .ok (.aload_n 0, 1) := by decide +kernel
theorem d_law_law_508 : decode b_law_law 508 = .ok (.iload_n 3, 1) := by decide +kernel
theorem d_law_law_509 : decode b_law_law 509 = .ok (.iconst 1, 1) := by decide +kernel
theorem d_law_law_510 : decode b_law_law 510 = .ok (.iadd, 1) := by decide +kernel
theorem d_law_law_511 : decode b_law_law 511 = .ok (.iaload, 1) := by decide +kernel
theorem d_law_law_512 : decode b_law_law 512 = .ok (.aload_n 0, 1) := by decide +kernel
theorem d_law_law_513 : decode b_law_law 513 = .ok (.iload_n 3, 1) := by decide +kernel
theorem d_law_law_514 : decode b_law_law 514 = .ok (.iconst 2, 1) := by decide +kernel
theorem d_law_law_515 : decode b_law_law 515 = .ok (.iadd, 1) := by decide +kernel
theorem d_law_law_516 : decode b_law_law 516 = .ok (.iaload, 1) := by decide +kernel
theorem d_law_law_517 : decode b_law_law 517 = .ok (.aload_n 0, 1) := by decide +kernel
theorem d_law_law_518 : decode b_law_law 518 = .ok (.iload_n 3, 1) := by decide +kernel
theorem d_law_law_519 : decode b_law_law 519 = .ok (.iconst 3, 1) := by decide +kernel
theorem d_law_law_520 : decode b_law_law 520 = .ok (.iadd, 1) := by decide +kernel
theorem d_law_law_521 : decode b_law_law 521 = .ok (.iaload, 1) := by decide +kernel
theorem d_law_law_522 : decode b_law_law 522 = .ok (.invokevirtual 66, 3) := by decide +kernel
theorem d_law_law_525 : decode b_law_law 525 = .ok (.aload_n 2, 1) := by decide +kernel
theorem d_law_law_526 : decode b_law_law 526 = .ok (.aload_n 0, 1) := by decide +kernel
theorem d_law_law_527 : decode b_law_law 527 = .ok (.iload_n 3, 1) := by decide +kernel
theorem d_law_law_528 : decode b_law_law 528 = .ok (.iconst 1, 1) := by decide +kernel
theorem d_law_law_529 : decode b_law_law 529 = .ok (.iadd, 1) := by decide +kernel
theorem d_law_law_530 : decode b_law_law 530 = .ok (.iaload, 1) := by decide +kernel
theorem d_law_law_531 : decode b_law_law 531 = .ok (.aload_n 0, 1) := by decide +kernel
theorem d_law_law_532 : decode b_law_law 532 = .ok (.iload_n 3, 1) := by decide +kernel
theorem d_law_law_533 : decode b_law_law 533 = .ok (.iconst 2, 1) := by decide +kernel
theorem d_law_law_534 : decode b_law_law 534 = .ok (.iadd, 1) := by decide +kernel
theorem d_law_law_535 : decode b_law_law 535 = .ok (.iaload, 1) := by decide +kernel
theorem d_law_law_536 : decode b_law_law 536 = .ok (.aload_n 0, 1) := by decide +kernel
theorem d_law_law_537 : decode b_law_law 537 = .ok (.iload_n 3, 1) := by decide +kernel
theorem d_law_law_538 : decode b_law_law 538 = .ok (.iconst 3, 1) := by decide +kernel
theorem d_law_law_539 : decode b_law_law 539 = .ok (.iadd, 1) := by decide +kernel
theorem d_law_law_540 : decode b_law_law 540 = .ok (.iaload, 1) := by decide +kernel
theorem d_law_law_541 : decode b_law_law 541 = .ok (.invokevirtual 69, 3) := by decide +kernel
theorem d_law_law_544 : decode b_law_law 544 = .ok (.if_icmp .eq 166, 3) := by decide +kernel
theorem d_law_law_547 : decode b_law_law 547 = .ok (.iconst 0, 1) := by decide +kernel
theorem d_law_law_548 : decode b_law_law 548 = .ok (.ireturn, 1) := by decide +kernel
theorem d_law_law_549 : decode b_law_law 549 = .ok (.aload_n 1, 1) := by decide +kernel
theorem d_law_law_550 : decode b_law_law 550 = .ok (.invokevirtual 70, 3) := by decide +kernel
theorem d_law_law_553 : decode b_law_law 553 = .ok (.aload_n 2, 1) := by decide +kernel
theorem d_law_law_554 : decode b_law_law 554 = .ok (.invokevirtual 74, 3) := by decide +kernel
theorem d_law_law_557 : decode b_law_law 557 = .ok (.if_icmp .eq 153, 3) := by decide +kernel
theorem d_law_law_560 : decode b_law_law 560 = .ok (.iconst 0, 1) := by decide +kernel
theorem d_law_law_561 : decode b_law_law 561 = .ok (.ireturn, 1) := by decide +kernel
theorem d_law_law_562 : decode b_law_law 562 = .ok (.aload_n 1, 1) := by decide +kernel
theorem d_law_law_563 : decode b_law_law 563 = .ok (.aload_n 0, 1) := by decide +kernel
theorem d_law_law_564 : decode b_law_law 564 = .ok (.iload_n 3, 1) := by decide +kernel
theorem d_law_law_565 : decode b_law_law 565 = .ok (.iconst 1, 1) := by decide +kernel
theorem d_law_law_566 : decode b_law_law 566 = .ok (.iadd, 1) := by decide +kernel
theorem d_law_law_567 : decode b_law_law 567 = .ok (.iaload, 1) := by decide +kernel
theorem d_law_law_568 : decode b_law_law 568 = .ok (.invokevirtual 75, 3) := by decide +kernel
theorem d_law_law_571 : decode b_law_law 571 = .ok (.aload_n 2, 1) := by decide +kernel
theorem d_law_law_572 : decode b_law_law 572 = .ok (.aload_n 0, 1) := by decide +kernel
theorem d_law_law_573 : decode b_law_law 573 = .ok (.iload_n 3, 1) := by decide +kernel
theorem d_law_law_574 : decode b_law_law 574 = .ok (.iconst 1, 1) := by decide +kernel
theorem d_law_law_575 : decode b_law_law 575 = .ok (.iadd, 1) := by decide +kernel
theorem d_law_law_576 : decode b_law_law 576 = .ok (.iaload, 1) := by decide +kernel
theorem d_law_law_577 : decode b_law_law 577 = .ok (.invokevirtual 78, 3) := by decide +kernel
theorem d_law_law_580 : decode b_law_law 580 = .ok (.if_icmp .eq 130, 3) := by decide +kernel
theorem d_law_law_583 : decode b_law_law 583 = .ok (.iconst 0, 1) := by decide +kernel
theorem d_law_law_584 : decode b_law_law 584 = .ok (.ireturn, 1) := by decide +kernel
theorem d_law_law_585 : decode b_law_law 585 = .ok (.aload_n 1, 1) := by decide +kernel
theorem d_law_law_586 : decode b_law_law 586 = .ok (.aload_n 0, 1) := by decide +kernel
theorem d_law_law_587 : decode b_law_law 587 = .ok (.iload_n 3, 1) := by decide +kernel
theorem d_law_law_588 : decode b_law_law 588 = .ok (.iconst 1, 1) := by decide +kernel
theorem d_law_law_589 : decode b_law_law 589 = .ok (.iadd, 1) := by decide +kernel
theorem d_law_law_590 : decode b_law_law 590 = .ok (.iaload, 1) := by decide +kernel
theorem d_law_law_591 : decode b_law_law 591 = .ok (.invokevirtual 79, 3) := by decide +kernel
theorem d_law_law_594 : decode b_law_law 594 = .ok (.aload_n 2, 1) := by decide +kernel
theorem d_law_law_595 : decode b_law_law 595 = .ok (.aload_n 0, 1) := by decide +kernel
theorem d_law_law_596 : decode b_law_law 596 = .ok (.iload_n 3, 1) := by decide +kernel
theorem d_law_law_597 : decode b_law_law 597 = .ok (.iconst 1, 1) := by decide +kernel
theorem d_law_law_598 : decode b_law_law 598 = .ok (.iadd, 1) := by decide +kernel
theorem d_law_law_599 : decode b_law_law 599 = .ok (.iaload, 1) := by decide +kernel
theorem d_law_law_600 : decode b_law_law 600 = .ok (.invokevirtual 82, 3) := by decide +kernel
theorem d_law_law_603 : decode b_law_law 603 = .ok (.if_icmp .eq 107, 3) := by decide +kernel
theorem d_law_law_606 : decode b_law_law 606 = .ok (.iconst 0, 1) := by decide +kernel
theorem d_law_law_607 : decode b_law_law 607 = .ok (.ireturn, 1) := by decide +kernel
theorem d_law_law_608 : decode b_law_law 608 = .ok (.aload_n 1, 1) := by decide +kernel
theorem d_law_law_609 : decode b_law_law 609 = .ok (.aload_n 0, 1) := by decide +kernel
theorem d_law_law_610 : decode b_law_law 610 = .ok (.iload_n 3, 1) := by decide +kernel
theorem d_law_law_611 : decode b_law_law 611 = .ok (.iconst 1, 1) := by decide +kernel
theorem d_law_law_612 : decode b_law_law 612 = .ok (.iadd, 1) := by decide +kernel
theorem d_law_law_613 : decode b_law_law 613 = .ok (.iaload, 1) := by decide +kernel
theorem d_law_law_614 : decode b_law_law 614 = .ok (.invokevirtual 83, 3) := by decide +kernel
theorem d_law_law_617 : decode b_law_law 617 = .ok (.aload_n 2, 1) := by decide +kernel
theorem d_law_law_618 : decode b_law_law 618 = .ok (.aload_n 0, 1) := by decide +kernel
theorem d_law_law_619 : decode b_law_law 619 = .ok (.iload_n 3, 1) := by decide +kernel
theorem d_law_law_620 : decode b_law_law 620 = .ok (.iconst 1, 1) := by decide +kernel
theorem d_law_law_621 : decode b_law_law 621 = .ok (.iadd, 1) := by decide +kernel
theorem d_law_law_622 : decode b_law_law 622 = .ok (.iaload, 1) := by decide +kernel
theorem d_law_law_623 : decode b_law_law 623 = .ok (.invokevirtual 86, 3) := by decide +kernel
theorem d_law_law_626 : decode b_law_law 626 = .ok (.if_icmp .eq 84, 3) := by decide +kernel
theorem d_law_law_629 : decode b_law_law 629 = .ok (.iconst 0, 1) := by decide +kernel
theorem d_law_law_630 : decode b_law_law 630 = .ok (.ireturn, 1) := by decide +kernel
theorem d_law_law_631 : decode b_law_law 631 = .ok (.aload_n 1, 1) := by decide +kernel
theorem d_law_law_632 : decode b_law_law 632 = .ok (.aload_n 0, 1) := by decide +kernel
theorem d_law_law_633 : decode b_law_law 633 = .ok (.iload_n 3, 1) := by decide +kernel
theorem d_law_law_634 : decode b_law_law 634 = .ok (.iconst 1, 1) := by decide +kernel
theorem d_law_law_635 : decode b_law_law 635 = .ok (.iadd, 1) := by decide +kernel
theorem d_law_law_636 : decode b_law_law 636 = .ok (.iaload, 1) := by decide +kernel
theorem d_law_law_637 : decode b_law_law 637 = .ok (.invokevirtual 87, 3) := by decide +kernel
theorem d_law_law_640 : decode b_law_law 640 = .ok (.aload_n 2, 1) := by decide +kernel
theorem d_law_law_641 : decode b_law_law 641 = .ok (.aload_n 0, 1) := by decide +kernel
theorem d_law_law_642 : decode b_law_law 642 = .ok (.iload_n 3, 1) := by decide +kernel
theorem d_law_law_643 : decode b_law_law 643 = .ok (.iconst 1, 1) := by decide +kernel
theorem d_law_law_644 : decode b_law_law 644 = .ok (.iadd, 1) := by decide +kernel
theorem d_law_law_645 : decode b_law_law 645 = .ok (.iaload, 1) := by decide +kernel
theorem d_law_law_646 : decode b_law_law 646 = .ok (.invokevirtual 90, 3) := by decide +kernel
theorem d_law_law_649 : decode b_law_law 649 = .ok (.if_icmp .eq 61, 3) := by decide +kernel
theorem d_law_law_652 : decode b_law_law 652 = .ok (.iconst 0, 1) := by decide +kernel
theorem d_law_law_653 : decode b_law_law 653 = .ok (.ireturn, 1) := by decide +kernel
theorem d_law_law_654 : decode b_law_law 654 = .ok (.aload_n 1, 1) := by decide +kernel
theorem d_law_law_655 : decode b_law_law 655 = .ok (.aload_n 0, 1) := by decide +kernel
theorem d_law_law_656 : decode b_law_law 656 = .ok (.iload_n 3, 1) := by decide +kernel
theorem d_law_law_657 : decode b_law_law 657 = .ok (.iconst 1, 1) := by decide +kernel
theorem d_law_law_658 : decode b_law_law 658 = .ok (.iadd, 1) := by decide +kernel
theorem d_law_law_659 : decode b_law_law 659 = .ok (.iaload, 1) := by decide +kernel
theorem d_law_law_660 : decode b_law_law 660 = .ok (.aload_n 0, 1) := by decide +kernel
theorem d_law_law_661 : decode b_law_law 661 = .ok (.iload_n 3, 1) := by decide +kernel
theorem d_law_law_662 : decode b_law_law 662 = .ok (.iconst 2, 1) := by decide +kernel
theorem d_law_law_663 : decode b_law_law 663 = .ok (.iadd, 1) := by decide +kernel
theorem d_law_law_664 : decode b_law_law 664 = .ok (.iaload, 1) := by decide +kernel
theorem d_law_law_665 : decode b_law_law 665 = .ok (.invokevirtual 91, 3) := by decide +kernel
theorem d_law_law_668 : decode b_law_law 668 = .ok (.aload_n 2, 1) := by decide +kernel
theorem d_law_law_669 : decode b_law_law 669 = .ok (.aload_n 0, 1) := by decide +kernel
theorem d_law_law_670 : decode b_law_law 670 = .ok (.iload_n 3, 1) := by decide +kernel
theorem d_law_law_671 : decode b_law_law 671 = .ok (.iconst 1, 1) := by decide +kernel
theorem d_law_law_672 : decode b_law_law 672 = .ok (.iadd, 1) := by decide +kernel
theorem d_law_law_673 : decode b_law_law 673 = .ok (.iaload, 1) := by decide +kernel
theorem d_law_law_674 : decode b_law_law 674 = .ok (.aload_n 0, 1) := by decide +kernel
theorem d_law_law_675 : decode b_law_law 675 = .ok (.iload_n 3, 1) := by decide +kernel
theorem d_law_law_676 : decode b_law_law 676 = .ok (.iconst 2, 1) := by decide +kernel
theorem d_law_law_677 : decode b_law_law 677 = .ok (.iadd, 1) := by decide +kernel
theorem d_law_law_678 : decode b_law_law 678 = .ok (.iaload, 1) := by decide +kernel
theorem d_law_law_679 : decode b_law_law 679 = .ok (.invokevirtual 94, 3) := by decide +kernel
theorem d_law_law_682 : decode b_law_law 682 = .ok (.if_icmp .eq 28, 3) := by decide +kernel
theorem d_law_law_685 : decode b_law_law 685 = .ok (.iconst 0, 1) := by decide +kernel
theorem d_law_law_686 : decode b_law_law 686 = .ok (.ireturn, 1) := by decide +kernel
theorem d_law_law_687 : decode b_law_law 687 = .ok (.aload_n 1, 1) := by decide +kernel
theorem d_law_law_688 : decode b_law_law 688 = .ok (.aload_n 0, 1) := by decide +kernel
theorem d_law_law_689 : decode b_law_law 689 = .ok (.iload_n 3, 1) := by decide +kernel
theorem d_law_law_690 : decode b_law_law 690 = .ok (.iconst 1, 1) := by decide +kernel
theorem d_law_law_691 : decode b_law_law 691 = .ok (.iadd, 1) := by decide +kernel
theorem d_law_law_692 : decode b_law_law 692 = .ok (.iaload, 1) := by decide +kernel
theorem d_law_law_693 : decode b_law_law 693 = .ok (.invokevirtual 95, 3) := by decide +kernel
theorem d_law_law_696 : decode b_law_law 696 = .ok (.aload_n 2, 1) := by decide +kernel
theorem d_law_law_697 : decode b_law_law 697 = .ok (.aload_n 0, 1) := by decide +kernel
theorem d_law_law_698 : decode b_law_law 698 = .ok (.iload_n 3, 1) := by decide +kernel
theorem d_law_law_699 : decode b_law_law 699 = .ok (.iconst 1, 1) := by decide +kernel
theorem d_law_law_700 : decode b_law_law 700 = .ok (.iadd, 1) := by decide +kernel
theorem d_law_law_701 : decode b_law_law 701 = .ok (.iaload, 1) := by decide +kernel
theorem d_law_law_702 : decode b_law_law 702 = .ok (.invokevirtual 98, 3) := by decide +kernel
theorem d_law_law_705 : decode b_law_law 705 = .ok (.if_icmp .eq 5, 3) := by decide +kernel
theorem d_law_law_708 : decode b_law_law 708 = .ok (.iconst 0, 1) := by decide +kernel
theorem d_law_law_709 : decode b_law_law 709 = .ok (.ireturn, 1) := by decide +kernel
theorem d_law_law_710 : decode b_law_law 710 = .ok (.iinc 3 5, 3) := by decide +kernel
theorem d_law_law_713 : decode b_law_law 713 = .ok (.goto (-675), 3) := by decide +kernel
theorem d_law_law_716 : decode b_law_law 716 = .ok (.iconst 1, 1) := by decide +kernel
theorem d_law_law_717 : decode b_law_law 717 = .ok (.ireturn, 1) := by decide +kernel
