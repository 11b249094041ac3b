theorem dX5_callName_29 : decode cX5_callName 29 = .ok (.getfield 50, 3) := by decide +kernel
theorem dX5_callName_32 : decode cX5_callName 32 = .ok (.iload_n 2, 1) := by decide +kernel
theorem dX5_callName_33 : decode cX5_callName 33 = .ok (.iaload, 1) := by decide +kernel
theorem dX5_callName_34 : decode cX5_callName 34 = .ok (.bipush 21, 2) := by decide +kernel
theorem dX5_callName_36 : decode cX5_callName 36 = .ok (.if_icmp .ne 24, 3) := by decide +kernel
theorem dX5_callName_39 : decode cX5_callName 39 = .ok (.aload_n 0, 1) := by decide +kernel
theorem dX5_callName_40 : decode cX5_callName 40 = .ok (.getfield 50, 3) := by decide +kernel
theorem dX5_callName_43 : decode cX5_callName 43 = .ok (.iload_n 2, 1) := by decide +kernel
theorem dX5_callName_44 : decode cX5_callName 44 = .ok (.aload_n 0, 1) := by decide +kernel
theorem dX5_callName_45 : decode cX5_callName 45 = .ok (.iload_n 3, 1) := by decide +kernel
theorem dX5_callName_46 : decode cX5_callName 46 = .ok (.invokevirtual 142, 3) := by decide +kernel
theorem dX5_callName_49 : decode cX5_callName 49 = .ok (.iastore, 1) := by decide +kernel
theorem dX5_callName_50 : decode cX5_callName 50 = .ok (.aload_n 0, 1) := by decide +kernel
theorem dX5_callName_51 : decode cX5_callName 51 = .ok (.dup, 1) := by decide +kernel
theorem dX5_callName_52 : decode cX5_callName 52 = .ok (.getfield 174, 3) := by decide +kernel
theorem dX5_callName_55 : decode cX5_callName 55 = .ok (.iconst 1, 1) := by decide +kernel
theorem dX5_callName_56 : decode cX5_callName 56 = .ok (.iadd, 1) := by decide +kernel
theorem dX5_callName_57 : decode cX5_callName 57 = .ok (.putfield 174, 3) := by decide +kernel
theorem dX5_callName_60 : decode cX5_callName 60 = .ok (.aload_n 0, 1) := by decide +kernel
theorem dX5_callName_61 : decode cX5_callName 61 = .ok (.iload_n 3, 1) := by decide +kernel
theorem dX5_callName_62 : decode cX5_callName 62 = .ok (.invokevirtual 177, 3) := by decide +kernel
theorem dX5_callName_65 : decode cX5_callName 65 = .ok (.ireturn, 1) := by decide +kernel
theorem dX5_make_0 : decode cX5_make 0 = .ok (.iconst 4, 1) := by decide +kernel
theorem dX5_make_1 : decode cX5_make 1 = .ok (.bipush 100, 2) := by decide +kernel
theorem dX5_make_3 : decode cX5_make 3 = .ok (.aload_n 0, 1) := by decide +kernel
theorem dX5_make_4 : decode cX5_make 4 = .ok (.getfield 165, 3) := by decide +kernel
theorem dX5_make_7 : decode cX5_make 7 = .ok (.imul, 1) := by decide +kernel
theorem dX5_make_8 : decode cX5_make 8 = .ok (.aload_n 0, 1) := by decide +kernel
theorem dX5_make_9 : decode cX5_make 9 = .ok (.getfield 168, 3) := by decide +kernel
theorem dX5_make_12 : decode cX5_make 12 = .ok (.iadd, 1) := by decide +kernel
theorem dX5_make_13 : decode cX5_make 13 = .ok (.imul, 1) := by decide +kernel
theorem dX5_make_14 : decode cX5_make 14 = .ok (.istore_n 1, 1) := by decide +kernel
theorem dX5_make_15 : decode cX5_make 15 = .ok (.aload_n 0, 1) := by decide +kernel
theorem dX5_make_16 : decode cX5_make 16 = .ok (.getfield 31, 3) := by decide +kernel
theorem dX5_make_19 : decode cX5_make 19 = .ok (.iload_n 1, 1) := by decide +kernel
theorem dX5_make_20 : decode cX5_make 20 = .ok (.iconst 1, 1) := by decide +kernel
theorem dX5_make_21 : decode cX5_make 21 = .ok (.iadd, 1) := by decide +kernel
theorem dX5_make_22 : decode cX5_make 22 = .ok (.iaload, 1) := by decide +kernel
theorem dX5_make_23 : decode cX5_make 23 = .ok (.istore_n 2, 1) := by decide +kernel
theorem dX5_make_24 : decode cX5_make 24 = .ok (.aload_n 0, 1) := by decide +kernel
theorem dX5_make_25 : decode cX5_make 25 = .ok (.getfield 31, 3) := by decide +kernel
theorem dX5_make_28 : decode cX5_make 28 = .ok (.iload_n 1, 1) := by decide +kernel
theorem dX5_make_29 : decode cX5_make 29 = .ok (.iconst 2, 1) := by decide +kernel
theorem dX5_make_30 : decode cX5_make 30 = .ok (.iadd, 1) := by decide +kernel
theorem dX5_make_31 : decode cX5_make 31 = .ok (.iaload, 1) := by decide +kernel
theorem dX5_make_32 : decode cX5_make 32 = .ok (.istore_n 3, 1) := by decide +kernel
theorem dX5_make_33 : decode cX5_make 33 = .ok (.aload_n 0, 1) := by decide +kernel
theorem dX5_make_34 : decode cX5_make 34 = .ok (.getfield 31, 3) := by decide +kernel
theorem dX5_make_37 : decode cX5_make 37 = .ok (.iload_n 1, 1) := by decide +kernel
theorem dX5_make_38 : decode cX5_make 38 = .ok (.iconst 3, 1) := by decide +kernel
theorem dX5_make_39 : decode cX5_make 39 = .ok (.iadd, 1) := by decide +kernel
theorem dX5_make_40 : decode cX5_make 40 = .ok (.iaload, 1) := by decide +kernel
theorem dX5_make_41 : decode cX5_make 41 = .ok (.istore 4, 2) := by decide +kernel
theorem dX5_make_43 : decode cX5_make 43 = .ok (.aload_n 0, 1) := by decide +kernel
theorem dX5_make_44 : decode cX5_make 44 = .ok (.dup, 1) := by decide +kernel
theorem dX5_make_45 : decode cX5_make 45 = .ok (.getfield 168, 3) := by decide +kernel
theorem dX5_make_48 : decode cX5_make 48 = .ok (.iconst 1, 1) := by decide +kernel
theorem dX5_make_49 : decode cX5_make 49 = .ok (.iadd, 1) := by decide +kernel
theorem dX5_make_50 : decode cX5_make 50 = .ok (.putfield 168, 3) := by decide +kernel
theorem dX5_make_53 : decode cX5_make 53 = .ok (.aload_n 0, 1) := by decide +kernel
theorem dX5_make_54 : decode cX5_make 54 = .ok (.getfield 31, 3) := by decide +kernel
theorem dX5_make_57 : decode cX5_make 57 = .ok (.iload_n 1, 1) := by decide +kernel
theorem dX5_make_58 : decode cX5_make 58 = .ok (.iaload, 1) := by decide +kernel
theorem dX5_make_59 : decode cX5_make 59 = .ok (.tableswitch 403 0 13 #[69, 78, 92, 114, 136, 158, 188, 195, 201, 245, 285, 314, 329, 367], 69) := by decide +kernel
theorem dX5_make_128 : decode cX5_make 128 = .ok (.aload_n 0, 1) := by decide +kernel
theorem dX5_make_129 : decode cX5_make 129 = .ok (.getfield 78, 3) := by decide +kernel
theorem dX5_make_132 : decode cX5_make 132 = .ok (.iload_n 2, 1) := by decide +kernel
theorem dX5_make_133 : decode cX5_make 133 = .ok (.iload_n 3, 1) := by decide +kernel
theorem dX5_make_134 : decode cX5_make 134 = .ok (.iastore, 1) := by decide +kernel
theorem dX5_make_135 : decode cX5_make 135 = .ok (.iconst (-1), 1) := by decide +kernel
theorem dX5_make_136 : decode cX5_make 136 = .ok (.ireturn, 1) := by decide +kernel
theorem dX5_make_137 : decode cX5_make 137 = .ok (.aload_n 0, 1) := by decide +kernel
theorem dX5_make_138 : decode cX5_make 138 = .ok (.getfield 78, 3) := by decide +kernel
theorem dX5_make_141 : decode cX5_make 141 = .ok (.iload_n 2, 1) := by decide +kernel
theorem dX5_make_142 : decode cX5_make 142 = .ok (.aload_n 0, 1) := by decide +kernel
theorem dX5_make_143 : decode cX5_make 143 = .ok (.getfield 78, 3) := by decide +kernel
theorem dX5_make_146 : decode cX5_make 146 = .ok (.iload_n 3, 1) := by decide +kernel
theorem dX5_make_147 : decode cX5_make 147 = .ok (.iaload, 1) := by decide +kernel
theorem dX5_make_148 : decode cX5_make 148 = .ok (.iastore, 1) := by decide +kernel
theorem dX5_make_149 : decode cX5_make 149 = .ok (.iconst (-1), 1) := by decide +kernel
theorem dX5_make_150 : decode cX5_make 150 = .ok (.ireturn, 1) := by decide +kernel
theorem dX5_make_151 : decode cX5_make 151 = .ok (.aload_n 0, 1) := by decide +kernel
theorem dX5_make_152 : decode cX5_make 152 = .ok (.getfield 78, 3) := by decide +kernel
theorem dX5_make_155 : decode cX5_make 155 = .ok (.iload_n 2, 1) := by decide +kernel
theorem dX5_make_156 : decode cX5_make 156 = .ok (.aload_n 0, 1) := by decide +kernel
theorem dX5_make_157 : decode cX5_make 157 = .ok (.getfield 78, 3) := by decide +kernel
theorem dX5_make_160 : decode cX5_make 160 = .ok (.iload_n 3, 1) := by decide +kernel
theorem dX5_make_161 : decode cX5_make 161 = .ok (.iaload, 1) := by decide +kernel
theorem dX5_make_162 : decode cX5_make 162 = .ok (.aload_n 0, 1) := by decide +kernel
theorem dX5_make_163 : decode cX5_make 163 = .ok (.getfield 78, 3) := by decide +kernel
theorem dX5_make_166 : decode cX5_make 166 = .ok (.iload 4, 2) := by decide +kernel
theorem dX5_make_168 : decode cX5_make 168 = .ok (.iaload, 1) := by decide +kernel
theorem dX5_make_169 : decode cX5_make 169 = .ok (.iadd, 1) := by decide +kernel
theorem dX5_make_170 : decode cX5_make 170 = .ok (.iastore, 1) := by decide +kernel
theorem dX5_make_171 : decode cX5_make 171 = .ok (.iconst (-1), 1) := by decide +kernel
theorem dX5_make_172 : decode cX5_make 172 = .ok (.ireturn, 1) := by decide +kernel
theorem dX5_make_173 : decode cX5_make 173 = .ok (.aload_n 0, 1) := by decide +kernel
theorem dX5_make_174 : decode cX5_make 174 = .ok (.getfield 78, 3) := by decide +kernel
theorem dX5_make_177 : decode cX5_make 177 = .ok (.iload_n 2, 1) := by decide +kernel
theorem dX5_make_178 : decode cX5_make 178 = .ok (.aload_n 0, 1) := by decide +kernel
theorem dX5_make_179 : decode cX5_make 179 = .ok (.getfield 78, 3) := by decide +kernel
theorem dX5_make_182 : decode cX5_make 182 = .ok (.iload_n 3, 1) := by decide +kernel
theorem dX5_make_183 : decode cX5_make 183 = .ok (.iaload, 1) := by decide +kernel
theorem dX5_make_184 : decode cX5_make 184 = .ok (.aload_n 0, 1) := by decide +kernel
theorem dX5_make_185 : decode cX5_make 185 = .ok (.getfield 78, 3) := by decide +kernel
theorem dX5_make_188 : decode cX5_make 188 = .ok (.iload 4, 2) := by decide +kernel
theorem dX5_make_190 : decode cX5_make 190 = .ok (.iaload, 1) := by decide +kernel
theorem dX5_make_191 : decode cX5_make 191 = .ok (.isub, 1) := by decide +kernel
theorem dX5_make_192 : decode cX5_make 192 = .ok (.iastore, 1) := by decide +kernel
theorem dX5_make_193 : decode cX5_make 193 = .ok (.iconst (-1), 1) := by decide +kernel
theorem dX5_make_194 : decode cX5_make 194 = .ok (.ireturn, 1) := by decide +kernel
theorem dX5_make_195 : decode cX5_make 195 = .ok (.aload_n 0, 1) := by decide +kernel
theorem dX5_make_196 : decode cX5_make 196 = .ok (.getfield 78, 3) := by decide +kernel
theorem dX5_make_199 : decode cX5_make 199 = .ok (.iload_n 2, 1) := by decide +kernel
theorem dX5_make_200 : decode cX5_make 200 = .ok (.aload_n 0, 1) := by decide +kernel
theorem dX5_make_201 : decode cX5_make 201 = .ok (.getfield 78, 3) := by decide +kernel
theorem dX5_make_204 : decode cX5_make 204 = .ok (.iload_n 3, 1) := by decide +kernel
theorem dX5_make_205 : decode cX5_make 205 = .ok (.iaload, 1) := by decide +kernel
theorem dX5_make_206 : decode cX5_make 206 = .ok (.aload_n 0, 1) := by decide +kernel
theorem dX5_make_207 : decode cX5_make 207 = .ok (.getfield 78, 3) := by decide +kernel
theorem dX5_make_210 : decode cX5_make 210 = .ok (.iload 4, 2) := by decide +kernel
theorem dX5_make_212 : decode cX5_make 212 = .ok (.iaload, 1) := by decide +kernel
theorem dX5_make_213 : decode cX5_make 213 = .ok (.imul, 1) := by decide +kernel
theorem dX5_make_214 : decode cX5_make 214 = .ok (.iastore, 1) := by decide +kernel
theorem dX5_make_215 : decode cX5_make 215 = .ok (.iconst (-1), 1) := by decide +kernel
theorem dX5_make_216 : decode cX5_make 216 = .ok (.ireturn, 1) := by decide +kernel
theorem dX5_make_217 : decode cX5_make 217 = .ok (.aload_n 0, 1) := by decide +kernel
theorem dX5_make_218 : decode cX5_make 218 = .ok (.aload_n 0, 1) := by decide +kernel
theorem dX5_make_219 : decode cX5_make 219 = .ok (.getfield 78, 3) := by decide +kernel
theorem dX5_make_222 : decode cX5_make 222 = .ok (.iload_n 2, 1) := by decide +kernel
theorem dX5_make_223 : decode cX5_make 223 = .ok (.iaload, 1) := by decide +kernel
theorem dX5_make_224 : decode cX5_make 224 = .ok (.aload_n 0, 1) := by decide +kernel
theorem dX5_make_225 : decode cX5_make 225 = .ok (.getfield 78, 3) := by decide +kernel
theorem dX5_make_228 : decode cX5_make 228 = .ok (.iload_n 3, 1) := by decide +kernel
theorem dX5_make_229 : decode cX5_make 229 = .ok (.iaload, 1) := by decide +kernel
theorem dX5_make_230 : decode cX5_make 230 = .ok (.if_icmp .ge 8, 3) := by decide +kernel
theorem dX5_make_233 : decode cX5_make 233 = .ok (.iload 4, 2) := by decide +kernel
theorem dX5_make_235 : decode cX5_make 235 = .ok (.goto 7, 3) := by decide +kernel
theorem dX5_make_238 : decode cX5_make 238 = .ok (.aload_n 0, 1) := by decide +kernel
theorem dX5_make_239 : decode cX5_make 239 = .ok (.getfield 168, 3) := by decide +kernel
theorem dX5_make_242 : decode cX5_make 242 = .ok (.putfield 168, 3) := by decide +kernel
theorem dX5_make_245 : decode cX5_make 245 = .ok (.iconst (-1), 1) := by decide +kernel
theorem dX5_make_246 : decode cX5_make 246 = .ok (.ireturn, 1) := by decide +kernel
theorem dX5_make_247 : decode cX5_make 247 = .ok (.aload_n 0, 1) := by decide +kernel
theorem dX5_make_248 : decode cX5_make 248 = .ok (.iload_n 2, 1) := by decide +kernel
theorem dX5_make_249 : decode cX5_make 249 = .ok (.putfield 168, 3) := by decide +kernel
theorem dX5_make_252 : decode cX5_make 252 = .ok (.iconst (-1), 1) := by decide +kernel
theorem dX5_make_253 : decode cX5_make 253 = .ok (.ireturn, 1) := by decide +kernel
theorem dX5_make_254 : decode cX5_make 254 = .ok (.aload_n 0, 1) := by decide +kernel
theorem dX5_make_255 : decode cX5_make 255 = .ok (.iload_n 2, 1) := by decide +kernel
theorem dX5_make_256 : decode cX5_make 256 = .ok (.invokevirtual 180, 3) := by decide +kernel
theorem dX5_make_259 : decode cX5_make 259 = .ok (.ireturn, 1) := by decide +kernel
theorem dX5_make_260 : decode cX5_make 260 = .ok (.aload_n 0, 1) := by decide +kernel
theorem dX5_make_261 : decode cX5_make 261 = .ok (.aload_n 0, 1) := by decide +kernel
theorem dX5_make_262 : decode cX5_make 262 = .ok (.getfield 44, 3) := by decide +kernel
theorem dX5_make_265 : decode cX5_make 265 = .ok (.aload_n 0, 1) := by decide +kernel
theorem dX5_make_266 : decode cX5_make 266 = .ok (.getfield 132, 3) := by decide +kernel
theorem dX5_make_269 : decode cX5_make 269 = .ok (.aload_n 0, 1) := by decide +kernel
theorem dX5_make_270 : decode cX5_make 270 = .ok (.getfield 165, 3) := by decide +kernel
theorem dX5_make_273 : decode cX5_make 273 = .ok (.iload_n 3, 1) := by decide +kernel
theorem dX5_make_274 : decode cX5_make 274 = .ok (.invokevirtual 121, 3) := by decide +kernel
theorem dX5_make_277 : decode cX5_make 277 = .ok (.istore 5, 2) := by decide +kernel
theorem dX5_make_279 : decode cX5_make 279 = .ok (.aload_n 0, 1) := by decide +kernel
theorem dX5_make_280 : decode cX5_make 280 = .ok (.getfield 78, 3) := by decide +kernel
theorem dX5_make_283 : decode cX5_make 283 = .ok (.iload_n 2, 1) := by decide +kernel
theorem dX5_make_284 : decode cX5_make 284 = .ok (.iload 5, 2) := by decide +kernel
theorem dX5_make_286 : decode cX5_make 286 = .ok (.iconst (-1), 1) := by decide +kernel
theorem dX5_make_287 : decode cX5_make 287 = .ok (.if_icmp .ne 7, 3) := by decide +kernel
theorem dX5_make_290 : decode cX5_make 290 = .ok (.iconst 0, 1) := by decide +kernel
theorem dX5_make_291 : decode cX5_make 291 = .ok (.goto 10, 3) := by decide +kernel
theorem dX5_make_294 : decode cX5_make 294 = .ok (.aload_n 0, 1) := by decide +kernel
theorem dX5_make_295 : decode cX5_make 295 = .ok (.getfield 53, 3) := by decide +kernel
theorem dX5_make_298 : decode cX5_make 298 = .ok (.iload 5, 2) := by decide +kernel
theorem dX5_make_300 : decode cX5_make 300 = .ok (.iaload, 1) := by decide +kernel
theorem dX5_make_301 : decode cX5_make 301 = .ok (.iastore, 1) := by decide +kernel
theorem dX5_make_302 : decode cX5_make 302 = .ok (.iconst (-1), 1) := by decide +kernel
theorem dX5_make_303 : decode cX5_make 303 = .ok (.ireturn, 1) := by decide +kernel
theorem dX5_make_304 : decode cX5_make 304 = .ok (.aload_n 0, 1) := by decide +kernel
theorem dX5_make_305 : decode cX5_make 305 = .ok (.aload_n 0, 1) := by decide +kernel
theorem dX5_make_306 : decode cX5_make 306 = .ok (.getfield 44, 3) := by decide +kernel
theorem dX5_make_309 : decode cX5_make 309 = .ok (.aload_n 0, 1) := by decide +kernel
theorem dX5_make_310 : decode cX5_make 310 = .ok (.getfield 132, 3) := by decide +kernel
theorem dX5_make_313 : decode cX5_make 313 = .ok (.aload_n 0, 1) := by decide +kernel
theorem dX5_make_314 : decode cX5_make 314 = .ok (.getfield 165, 3) := by decide +kernel
theorem dX5_make_317 : decode cX5_make 317 = .ok (.iload_n 2, 1) := by decide +kernel
theorem dX5_make_318 : decode cX5_make 318 = .ok (.invokevirtual 121, 3) := by decide +kernel
theorem dX5_make_321 : decode cX5_make 321 = .ok (.istore 6, 2) := by decide +kernel
theorem dX5_make_323 : decode cX5_make 323 = .ok (.iload 6, 2) := by decide +kernel
theorem dX5_make_325 : decode cX5_make 325 = .ok (.iconst (-1), 1) := by decide +kernel
theorem dX5_make_326 : decode cX5_make 326 = .ok (.if_icmp .eq 16, 3) := by decide +kernel
theorem dX5_make_329 : decode cX5_make 329 = .ok (.aload_n 0, 1) := by decide +kernel
theorem dX5_make_330 : decode cX5_make 330 = .ok (.getfield 53, 3) := by decide +kernel
theorem dX5_make_333 : decode cX5_make 333 = .ok (.iload 6, 2) := by decide +kernel
theorem dX5_make_335 : decode cX5_make 335 = .ok (.aload_n 0, 1) := by decide +kernel
theorem dX5_make_336 : decode cX5_make 336 = .ok (.getfield 78, 3) := by decide +kernel
theorem dX5_make_339 : decode cX5_make 339 = .ok (.iload_n 3, 1) := by decide +kernel
theorem dX5_make_340 : decode cX5_make 340 = .ok (.iaload, 1) := by decide +kernel
theorem dX5_make_341 : decode cX5_make 341 = .ok (.iastore, 1) := by decide +kernel
theorem dX5_make_342 : decode cX5_make 342 = .ok (.iconst (-1), 1) := by decide +kernel
theorem dX5_make_343 : decode cX5_make 343 = .ok (.ireturn, 1) := by decide +kernel
theorem dX5_make_344 : decode cX5_make 344 = .ok (.aload_n 0, 1) := by decide +kernel
theorem dX5_make_345 : decode cX5_make 345 = .ok (.getfield 78, 3) := by decide +kernel
theorem dX5_make_348 : decode cX5_make 348 = .ok (.iload_n 2, 1) := by decide +kernel
theorem dX5_make_349 : decode cX5_make 349 = .ok (.aload_n 0, 1) := by decide +kernel
theorem dX5_make_350 : decode cX5_make 350 = .ok (.aload_n 0, 1) := by decide +kernel
theorem dX5_make_351 : decode cX5_make 351 = .ok (.aload_n 0, 1) := by decide +kernel
theorem dX5_make_352 : decode cX5_make 352 = .ok (.getfield 44, 3) := by decide +kernel
theorem dX5_make_355 : decode cX5_make 355 = .ok (.aload_n 0, 1) := by decide +kernel
theorem dX5_make_356 : decode cX5_make 356 = .ok (.getfield 132, 3) := by decide +kernel
theorem dX5_make_359 : decode cX5_make 359 = .ok (.aload_n 0, 1) := by decide +kernel
theorem dX5_make_360 : decode cX5_make 360 = .ok (.getfield 165, 3) := by decide +kernel
theorem dX5_make_363 : decode cX5_make 363 = .ok (.iload_n 3, 1) := by decide +kernel
theorem dX5_make_364 : decode cX5_make 364 = .ok (.invokevirtual 121, 3) := by decide +kernel
theorem dX5_make_367 : decode cX5_make 367 = .ok (.invokevirtual 183, 3) := by decide +kernel
theorem dX5_make_370 : decode cX5_make 370 = .ok (.iastore, 1) := by decide +kernel
theorem dX5_make_371 : decode cX5_make 371 = .ok (.iconst (-1), 1) := by decide +kernel
theorem dX5_make_372 : decode cX5_make 372 = .ok (.ireturn, 1) := by decide +kernel
theorem dX5_make_373 : decode cX5_make 373 = .ok (.aload_n 0, 1) := by decide +kernel
theorem dX5_make_374 : decode cX5_make 374 = .ok (.aload_n 0, 1) := by decide +kernel
theorem dX5_make_375 : decode cX5_make 375 = .ok (.aload_n 0, 1) := by decide +kernel
theorem dX5_make_376 : decode cX5_make 376 = .ok (.getfield 78, 3) := by decide +kernel
theorem dX5_make_379 : decode cX5_make 379 = .ok (.iload_n 2, 1) := by decide +kernel
theorem dX5_make_380 : decode cX5_make 380 = .ok (.iaload, 1) := by decide +kernel
theorem dX5_make_381 : decode cX5_make 381 = .ok (.invokevirtual 186, 3) := by decide +kernel
theorem dX5_make_384 : decode cX5_make 384 = .ok (.invokevirtual 177, 3) := by decide +kernel
theorem dX5_make_387 : decode cX5_make 387 = .ok (.ireturn, 1) := by decide +kernel
theorem dX5_make_388 : decode cX5_make 388 = .ok (.aload_n 0, 1) := by decide +kernel
theorem dX5_make_389 : decode cX5_make 389 = .ok (.dup, 1) := by decide +kernel
theorem dX5_make_390 : decode cX5_make 390 = .ok (.getfield 162, 3) := by decide +kernel
theorem dX5_make_393 : decode cX5_make 393 = .ok (.iconst 1, 1) := by decide +kernel
theorem dX5_make_394 : decode cX5_make 394 = .ok (.isub, 1) := by decide +kernel
theorem dX5_make_395 : decode cX5_make 395 = .ok (.putfield 162, 3) := by decide +kernel
theorem dX5_make_398 : decode cX5_make 398 = .ok (.aload_n 0, 1) := by decide +kernel
theorem dX5_make_399 : decode cX5_make 399 = .ok (.aload_n 0, 1) := by decide +kernel
theorem dX5_make_400 : decode cX5_make 400 = .ok (.getfield 84, 3) := by decide +kernel
theorem dX5_make_403 : decode cX5_make 403 = .ok (.aload_n 0, 1) := by decide +kernel
theorem dX5_make_404 : decode cX5_make 404 = .ok (.getfield 162, 3) := by decide +kernel
theorem dX5_make_407 : decode cX5_make 407 = .ok (.iaload, 1) := by decide +kernel
theorem dX5_make_408 : decode cX5_make 408 = .ok (.putfield 165, 3) := by decide +kernel
theorem dX5_make_411 : decode cX5_make 411 = .ok (.aload_n 0, 1) := by decide +kernel
theorem dX5_make_412 : decode cX5_make 412 = .ok (.aload_n 0, 1) := by decide +kernel
theorem dX5_make_413 : decode cX5_make 413 = .ok (.getfield 87, 3) := by decide +kernel
theorem dX5_make_416 : decode cX5_make 416 = .ok (.aload_n 0, 1) := by decide +kernel
theorem dX5_make_417 : decode cX5_make 417 = .ok (.getfield 162, 3) := by decide +kernel
theorem dX5_make_420 : decode cX5_make 420 = .ok (.iaload, 1) := by decide +kernel
theorem dX5_make_421 : decode cX5_make 421 = .ok (.putfield 168, 3) := by decide +kernel
theorem dX5_make_424 : decode cX5_make 424 = .ok (.iconst (-1), 1) := by decide +kernel
theorem dX5_make_425 : decode cX5_make 425 = .ok (.ireturn, 1) := by decide +kernel
theorem dX5_make_426 : decode cX5_make 426 = .ok (.aload_n 0, 1) := by decide +kernel
theorem dX5_make_427 : decode cX5_make 427 = .ok (.getfield 189, 3) := by decide +kernel
theorem dX5_make_430 : decode cX5_make 430 = .ok (.bipush 60, 2) := by decide +kernel
theorem dX5_make_432 : decode cX5_make 432 = .ok (.if_icmp .ge 18, 3) := by decide +kernel
theorem dX5_make_435 : decode cX5_make 435 = .ok (.aload_n 0, 1) := by decide +kernel
theorem dX5_make_436 : decode cX5_make 436 = .ok (.getfield 81, 3) := by decide +kernel
theorem dX5_make_439 : decode cX5_make 439 = .ok (.aload_n 0, 1) := by decide +kernel
theorem dX5_make_440 : decode cX5_make 440 = .ok (.getfield 189, 3) := by decide +kernel
theorem dX5_make_443 : decode cX5_make 443 = .ok (.aload_n 0, 1) := by decide +kernel
theorem dX5_make_444 : decode cX5_make 444 = .ok (.getfield 78, 3) := by decide +kernel
theorem dX5_make_447 : decode cX5_make 447 = .ok (.iload_n 2, 1) := by decide +kernel
theorem dX5_make_448 : decode cX5_make 448 = .ok (.iaload, 1) := by decide +kernel
theorem dX5_make_449 : decode cX5_make 449 = .ok (.iastore, 1) := by decide +kernel
theorem dX5_make_450 : decode cX5_make 450 = .ok (.aload_n 0, 1) := by decide +kernel
theorem dX5_make_451 : decode cX5_make 451 = .ok (.dup, 1) := by decide +kernel
theorem dX5_make_452 : decode cX5_make 452 = .ok (.getfield 189, 3) := by decide +kernel
theorem dX5_make_455 : decode cX5_make 455 = .ok (.iconst 1, 1) := by decide +kernel
theorem dX5_make_456 : decode cX5_make 456 = .ok (.iadd, 1) := by decide +kernel
theorem dX5_make_457 : decode cX5_make 457 = .ok (.putfield 189, 3) := by decide +kernel
theorem dX5_make_460 : decode cX5_make 460 = .ok (.iconst (-1), 1) := by decide +kernel
theorem dX5_make_461 : decode cX5_make 461 = .ok (.ireturn, 1) := by decide +kernel
theorem dX5_make_462 : decode cX5_make 462 = .ok (.iconst 0, 1) := by decide +kernel
theorem dX5_make_463 : decode cX5_make 463 = .ok (.ireturn, 1) := by decide +kernel
theorem dX5_go_0 : decode cX5_go 0 = .ok (.aload_n 0, 1) := by decide +kernel
theorem dX5_go_1 : decode cX5_go 1 = .ok (.iconst 0, 1) := by decide +kernel
theorem dX5_go_2 : decode cX5_go 2 = .ok (.putfield 162, 3) := by decide +kernel
theorem dX5_go_5 : decode cX5_go 5 = .ok (.aload_n 0, 1) := by decide +kernel
theorem dX5_go_6 : decode cX5_go 6 = .ok (.iload_n 1, 1) := by decide +kernel
theorem dX5_go_7 : decode cX5_go 7 = .ok (.invokevirtual 177, 3) := by decide +kernel
theorem dX5_go_10 : decode cX5_go 10 = .ok (.istore_n 3, 1) := by decide +kernel
theorem dX5_go_11 : decode cX5_go 11 = .ok (.iload_n 3, 1) := by decide +kernel
theorem dX5_go_12 : decode cX5_go 12 = .ok (.iconst (-1), 1) := by decide +kernel
theorem dX5_go_13 : decode cX5_go 13 = .ok (.if_icmp .ne 56, 3) := by decide +kernel
theorem dX5_go_16 : decode cX5_go 16 = .ok (.aload_n 0, 1) := by decide +kernel
theorem dX5_go_17 : decode cX5_go 17 = .ok (.getfield 162, 3) := by decide +kernel
theorem dX5_go_20 : decode cX5_go 20 = .ok (.ifCond .le 49, 3) := by decide +kernel
theorem dX5_go_23 : decode cX5_go 23 = .ok (.aload_n 0, 1) := by decide +kernel
theorem dX5_go_24 : decode cX5_go 24 = .ok (.getfield 168, 3) := by decide +kernel
theorem dX5_go_27 : decode cX5_go 27 = .ok (.aload_n 0, 1) := by decide +kernel
theorem dX5_go_28 : decode cX5_go 28 = .ok (.getfield 34, 3) := by decide +kernel
theorem dX5_go_31 : decode cX5_go 31 = .ok (.aload_n 0, 1) := by decide +kernel
theorem dX5_go_32 : decode cX5_go 32 = .ok (.getfield 165, 3) := by decide +kernel
theorem dX5_go_35 : decode cX5_go 35 = .ok (.iaload, 1) := by decide +kernel
theorem dX5_go_36 : decode cX5_go 36 = .ok (.if_icmp .lt 5, 3) := by decide +kernel
theorem dX5_go_39 : decode cX5_go 39 = .ok (.iconst 4, 1) := by decide +kernel
theorem dX5_go_40 : decode cX5_go 40 = .ok (.ireturn, 1) := by decide +kernel
theorem dX5_go_41 : decode cX5_go 41 = .ok (.aload_n 0, 1) := by decide +kernel
theorem dX5_go_42 : decode cX5_go 42 = .ok (.getfield 192, 3) := by decide +kernel
theorem dX5_go_45 : decode cX5_go 45 = .ok (.iload_n 2, 1) := by decide +kernel
theorem dX5_go_46 : decode cX5_go 46 = .ok (.if_icmp .ne 5, 3) := by decide +kernel
theorem dX5_go_49 : decode cX5_go 49 = .ok (.iconst 1, 1) := by decide +kernel
theorem dX5_go_50 : decode cX5_go 50 = .ok (.ireturn, 1) := by decide +kernel
theorem dX5_go_51 : decode cX5_go 51 = .ok (.aload_n 0, 1) := by decide +kernel
theorem dX5_go_52 : decode cX5_go 52 = .ok (.dup, 1) := by decide +kernel
theorem dX5_go_53 : decode cX5_go 53 = .ok (.getfield 192, 3) := by decide +kernel
theorem dX5_go_56 : decode cX5_go 56 = .ok (.iconst 1, 1) := by decide +kernel
theorem dX5_go_57 : decode cX5_go 57 = .ok (.iadd, 1) := by decide +kernel
theorem dX5_go_58 : decode cX5_go 58 = .ok (.putfield 192, 3) := by decide +kernel
theorem dX5_go_61 : decode cX5_go 61 = .ok (.aload_n 0, 1) := by decide +kernel
theorem dX5_go_62 : decode cX5_go 62 = .ok (.invokevirtual 195, 3) := by decide +kernel
theorem dX5_go_65 : decode cX5_go 65 = .ok (.istore_n 3, 1) := by decide +kernel
theorem dX5_go_66 : decode cX5_go 66 = .ok (.goto (-55), 3) := by decide +kernel
theorem dX5_go_69 : decode cX5_go 69 = .ok (.iload_n 3, 1) := by decide +kernel
theorem dX5_go_70 : decode cX5_go 70 = .ok (.ireturn, 1) := by decide +kernel
theorem dX5_run_0 : decode cX5_run 0 = .ok (.aload_n 0, 1) := by decide +kernel
theorem dX5_run_1 : decode cX5_run 1 = .ok (.getfield 97, 3) := by decide +kernel
theorem dX5_run_4 : decode cX5_run 4 = .ok (.ifCond .eq 21, 3) := by decide +kernel
theorem dX5_run_7 : decode cX5_run 7 = .ok (.iload_n 1, 1) := by decide +kernel
theorem dX5_run_8 : decode cX5_run 8 = .ok (.invokestatic 101, 3) := by decide +kernel
theorem dX5_run_11 : decode cX5_run 11 = .ok (.ifCond .eq 14, 3) := by decide +kernel
theorem dX5_run_14 : decode cX5_run 14 = .ok (.iload_n 2, 1) := by decide +kernel
theorem dX5_run_15 : decode cX5_run 15 = .ok (.ifCond .lt 10, 3) := by decide +kernel
theorem dX5_run_18 : decode cX5_run 18 = .ok (.iload_n 2, 1) := by decide +kernel
theorem dX5_run_19 : decode cX5_run 19 = .ok (.sipush 5000, 3) := by decide +kernel
theorem dX5_run_22 : decode cX5_run 22 = .ok (.if_icmp .le 5, 3) := by decide +kernel
theorem dX5_run_25 : decode cX5_run 25 = .ok (.iconst (-1), 1) := by decide +kernel
theorem dX5_run_26 : decode cX5_run 26 = .ok (.ireturn, 1) := by decide +kernel
theorem dX5_run_27 : decode cX5_run 27 = .ok (.aload_n 0, 1) := by decide +kernel
theorem dX5_run_28 : decode cX5_run 28 = .ok (.aload_n 0, 1) := by decide +kernel
theorem dX5_run_29 : decode cX5_run 29 = .ok (.getfield 44, 3) := by decide +kernel
theorem dX5_run_32 : decode cX5_run 32 = .ok (.aload_n 0, 1) := by decide +kernel
theorem dX5_run_33 : decode cX5_run 33 = .ok (.getfield 132, 3) := by decide +kernel
theorem dX5_run_36 : decode cX5_run 36 = .ok (.aload_n 0, 1) := by decide +kernel
theorem dX5_run_37 : decode cX5_run 37 = .ok (.getfield 129, 3) := by decide +kernel
theorem dX5_run_40 : decode cX5_run 40 = .ok (.iload_n 1, 1) := by decide +kernel
theorem dX5_run_41 : decode cX5_run 41 = .ok (.invokevirtual 121, 3) := by decide +kernel
theorem dX5_run_44 : decode cX5_run 44 = .ok (.istore_n 3, 1) := by decide +kernel
theorem dX5_run_45 : decode cX5_run 45 = .ok (.iload_n 3, 1) := by decide +kernel
theorem dX5_run_46 : decode cX5_run 46 = .ok (.iconst (-1), 1) := by decide +kernel
theorem dX5_run_47 : decode cX5_run 47 = .ok (.if_icmp .eq 12, 3) := by decide +kernel
theorem dX5_run_50 : decode cX5_run 50 = .ok (.aload_n 0, 1) := by decide +kernel
theorem dX5_run_51 : decode cX5_run 51 = .ok (.getfield 19, 3) := by decide +kernel
theorem dX5_run_54 : decode cX5_run 54 = .ok (.iload_n 3, 1) := by decide +kernel
theorem dX5_run_55 : decode cX5_run 55 = .ok (.iaload, 1) := by decide +kernel
theorem dX5_run_56 : decode cX5_run 56 = .ok (.ifCond .eq 5, 3) := by decide +kernel
theorem dX5_run_59 : decode cX5_run 59 = .ok (.iconst (-1), 1) := by decide +kernel
theorem dX5_run_60 : decode cX5_run 60 = .ok (.ireturn, 1) := by decide +kernel
theorem dX5_run_61 : decode cX5_run 61 = .ok (.aload_n 0, 1) := by decide +kernel
theorem dX5_run_62 : decode cX5_run 62 = .ok (.invokevirtual 156, 3) := by decide +kernel
theorem dX5_run_65 : decode cX5_run 65 = .ok (.iconst 0, 1) := by decide +kernel
theorem dX5_run_66 : decode cX5_run 66 = .ok (.istore 4, 2) := by decide +kernel
theorem dX5_run_68 : decode cX5_run 68 = .ok (.iload 4, 2) := by decide +kernel
theorem dX5_run_70 : decode cX5_run 70 = .ok (.bipush 8, 2) := by decide +kernel
theorem dX5_run_72 : decode cX5_run 72 = .ok (.if_icmp .ge 17, 3) := by decide +kernel
theorem dX5_run_75 : decode cX5_run 75 = .ok (.aload_n 0, 1) := by decide +kernel
theorem dX5_run_76 : decode cX5_run 76 = .ok (.getfield 78, 3) := by decide +kernel
theorem dX5_run_79 : decode cX5_run 79 = .ok (.iload 4, 2) := by decide +kernel
theorem dX5_run_81 : decode cX5_run 81 = .ok (.iconst 0, 1) := by decide +kernel
theorem dX5_run_82 : decode cX5_run 82 = .ok (.iastore, 1) := by decide +kernel
theorem dX5_run_83 : decode cX5_run 83 = .ok (.iinc 4 1, 3) := by decide +kernel
theorem dX5_run_86 : decode cX5_run 86 = .ok (.goto (-18), 3) := by decide +kernel
theorem dX5_run_89 : decode cX5_run 89 = .ok (.aload_n 0, 1) := by decide +kernel
theorem dX5_run_90 : decode cX5_run 90 = .ok (.iconst 0, 1) := by decide +kernel
theorem dX5_run_91 : decode cX5_run 91 = .ok (.putfield 192, 3) := by decide +kernel
theorem dX5_run_94 : decode cX5_run 94 = .ok (.aload_n 0, 1) := by decide +kernel
theorem dX5_run_95 : decode cX5_run 95 = .ok (.iconst 0, 1) := by decide +kernel
theorem dX5_run_96 : decode cX5_run 96 = .ok (.putfield 189, 3) := by decide +kernel
theorem dX5_run_99 : decode cX5_run 99 = .ok (.aload_n 0, 1) := by decide +kernel
theorem dX5_run_100 : decode cX5_run 100 = .ok (.iconst 0, 1) := by decide +kernel
theorem dX5_run_101 : decode cX5_run 101 = .ok (.putfield 174, 3) := by decide +kernel
theorem dX5_run_104 : decode cX5_run 104 = .ok (.aload_n 0, 1) := by decide +kernel
theorem dX5_run_105 : decode cX5_run 105 = .ok (.iconst 0, 1) := by decide +kernel
theorem dX5_run_106 : decode cX5_run 106 = .ok (.putfield 171, 3) := by decide +kernel
theorem dX5_run_109 : decode cX5_run 109 = .ok (.iconst (-1), 1) := by decide +kernel
theorem dX5_run_110 : decode cX5_run 110 = .ok (.istore 4, 2) := by decide +kernel
theorem dX5_run_112 : decode cX5_run 112 = .ok (.iconst 0, 1) := by decide +kernel
theorem dX5_run_113 : decode cX5_run 113 = .ok (.istore 5, 2) := by decide +kernel
theorem dX5_run_115 : decode cX5_run 115 = .ok (.iload 5, 2) := by decide +kernel
theorem dX5_run_117 : decode cX5_run 117 = .ok (.aload_n 0, 1) := by decide +kernel
theorem dX5_run_118 : decode cX5_run 118 = .ok (.getfield 132, 3) := by decide +kernel
theorem dX5_run_121 : decode cX5_run 121 = .ok (.if_icmp .ge 77, 3) := by decide +kernel
theorem dX5_run_124 : decode cX5_run 124 = .ok (.iload 4, 2) := by decide +kernel
theorem dX5_run_126 : decode cX5_run 126 = .ok (.iconst (-1), 1) := by decide +kernel
theorem dX5_run_127 : decode cX5_run 127 = .ok (.if_icmp .ne 71, 3) := by decide +kernel
theorem dX5_run_130 : decode cX5_run 130 = .ok (.aload_n 0, 1) := by decide +kernel
theorem dX5_run_131 : decode cX5_run 131 = .ok (.getfield 47, 3) := by decide +kernel
theorem dX5_run_134 : decode cX5_run 134 = .ok (.iload 5, 2) := by decide +kernel
theorem dX5_run_136 : decode cX5_run 136 = .ok (.iaload, 1) := by decide +kernel
theorem dX5_run_137 : decode cX5_run 137 = .ok (.istore 6, 2) := by decide +kernel
theorem dX5_run_139 : decode cX5_run 139 = .ok (.aload_n 0, 1) := by decide +kernel
theorem dX5_run_140 : decode cX5_run 140 = .ok (.getfield 41, 3) := by decide +kernel
theorem dX5_run_143 : decode cX5_run 143 = .ok (.iload 6, 2) := by decide +kernel
theorem dX5_run_145 : decode cX5_run 145 = .ok (.iaload, 1) := by decide +kernel
theorem dX5_run_146 : decode cX5_run 146 = .ok (.iconst (-1), 1) := by decide +kernel
theorem dX5_run_147 : decode cX5_run 147 = .ok (.if_icmp .ne 7, 3) := by decide +kernel
theorem dX5_run_150 : decode cX5_run 150 = .ok (.iconst (-1), 1) := by decide +kernel
theorem dX5_run_151 : decode cX5_run 151 = .ok (.goto 24, 3) := by decide +kernel
theorem dX5_run_154 : decode cX5_run 154 = .ok (.aload_n 0, 1) := by decide +kernel
theorem dX5_run_155 : decode cX5_run 155 = .ok (.aload_n 0, 1) := by decide +kernel
theorem dX5_run_156 : decode cX5_run 156 = .ok (.getfield 44, 3) := by decide +kernel
theorem dX5_run_159 : decode cX5_run 159 = .ok (.aload_n 0, 1) := by decide +kernel
theorem dX5_run_160 : decode cX5_run 160 = .ok (.getfield 132, 3) := by decide +kernel
theorem dX5_run_163 : decode cX5_run 163 = .ok (.iload 6, 2) := by decide +kernel
theorem dX5_run_165 : decode cX5_run 165 = .ok (.aload_n 0, 1) := by decide +kernel
theorem dX5_run_166 : decode cX5_run 166 = .ok (.getfield 41, 3) := by decide +kernel
theorem dX5_run_169 : decode cX5_run 169 = .ok (.iload 6, 2) := by decide +kernel
theorem dX5_run_171 : decode cX5_run 171 = .ok (.iaload, 1) := by decide +kernel
theorem dX5_run_172 : decode cX5_run 172 = .ok (.invokevirtual 121, 3) := by decide +kernel
theorem dX5_run_175 : decode cX5_run 175 = .ok (.istore 7, 2) := by decide +kernel
theorem dX5_run_177 : decode cX5_run 177 = .ok (.iload 7, 2) := by decide +kernel
theorem dX5_run_179 : decode cX5_run 179 = .ok (.iconst (-1), 1) := by decide +kernel
theorem dX5_run_180 : decode cX5_run 180 = .ok (.if_icmp .eq 12, 3) := by decide +kernel
theorem dX5_run_183 : decode cX5_run 183 = .ok (.aload_n 0, 1) := by decide +kernel
theorem dX5_run_184 : decode cX5_run 184 = .ok (.iload 7, 2) := by decide +kernel
theorem dX5_run_186 : decode cX5_run 186 = .ok (.iload_n 2, 1) := by decide +kernel
theorem dX5_run_187 : decode cX5_run 187 = .ok (.invokevirtual 199, 3) := by decide +kernel
theorem dX5_run_190 : decode cX5_run 190 = .ok (.istore 4, 2) := by decide +kernel
theorem dX5_run_192 : decode cX5_run 192 = .ok (.iinc 5 1, 3) := by decide +kernel
theorem dX5_run_195 : decode cX5_run 195 = .ok (.goto (-80), 3) := by decide +kernel
theorem dX5_run_198 : decode cX5_run 198 = .ok (.iload 4, 2) := by decide +kernel
theorem dX5_run_200 : decode cX5_run 200 = .ok (.iconst (-1), 1) := by decide +kernel
theorem dX5_run_201 : decode cX5_run 201 = .ok (.if_icmp .ne 12, 3) := by decide +kernel
theorem dX5_run_204 : decode cX5_run 204 = .ok (.aload_n 0, 1) := by decide +kernel
theorem dX5_run_205 : decode cX5_run 205 = .ok (.iload_n 3, 1) := by decide +kernel
theorem dX5_run_206 : decode cX5_run 206 = .ok (.iload_n 2, 1) := by decide +kernel
theorem dX5_run_207 : decode cX5_run 207 = .ok (.invokevirtual 199, 3) := by decide +kernel
theorem dX5_run_210 : decode cX5_run 210 = .ok (.goto 5, 3) := by decide +kernel
theorem dX5_run_213 : decode cX5_run 213 = .ok (.iload 4, 2) := by decide +kernel
theorem dX5_run_215 : decode cX5_run 215 = .ok (.istore 4, 2) := by decide +kernel
theorem dX5_run_217 : decode cX5_run 217 = .ok (.iload 4, 2) := by decide +kernel
theorem dX5_run_219 : decode cX5_run 219 = .ok (.iconst (-1), 1) := by decide +kernel
theorem dX5_run_220 : decode cX5_run 220 = .ok (.if_icmp .ne 7, 3) := by decide +kernel
theorem dX5_run_223 : decode cX5_run 223 = .ok (.iconst 0, 1) := by decide +kernel
theorem dX5_run_224 : decode cX5_run 224 = .ok (.goto 5, 3) := by decide +kernel
theorem dX5_run_227 : decode cX5_run 227 = .ok (.iload 4, 2) := by decide +kernel
theorem dX5_run_229 : decode cX5_run 229 = .ok (.ireturn, 1) := by decide +kernel
theorem dX5_count_0 : decode cX5_count 0 = .ok (.iload_n 1, 1) := by decide +kernel
theorem dX5_count_1 : decode cX5_count 1 = .ok (.tableswitch 80 0 5 #[39, 44, 49, 54, 59, 75], 39) := by decide +kernel
theorem dX5_count_40 : decode cX5_count 40 = .ok (.aload_n 0, 1) := by decide +kernel
theorem dX5_count_41 : decode cX5_count 41 = .ok (.getfield 192, 3) := by decide +kernel
theorem dX5_count_44 : decode cX5_count 44 = .ok (.ireturn, 1) := by decide +kernel
theorem dX5_count_45 : decode cX5_count 45 = .ok (.aload_n 0, 1) := by decide +kernel
theorem dX5_count_46 : decode cX5_count 46 = .ok (.getfield 189, 3) := by decide +kernel
theorem dX5_count_49 : decode cX5_count 49 = .ok (.ireturn, 1) := by decide +kernel
theorem dX5_count_50 : decode cX5_count 50 = .ok (.aload_n 0, 1) := by decide +kernel
theorem dX5_count_51 : decode cX5_count 51 = .ok (.getfield 174, 3) := by decide +kernel
theorem dX5_count_54 : decode cX5_count 54 = .ok (.ireturn, 1) := by decide +kernel
theorem dX5_count_55 : decode cX5_count 55 = .ok (.aload_n 0, 1) := by decide +kernel
theorem dX5_count_56 : decode cX5_count 56 = .ok (.getfield 171, 3) := by decide +kernel
theorem dX5_count_59 : decode cX5_count 59 = .ok (.ireturn, 1) := by decide +kernel
theorem dX5_count_60 : decode cX5_count 60 = .ok (.aload_n 0, 1) := by decide +kernel
theorem dX5_count_61 : decode cX5_count 61 = .ok (.getfield 97, 3) := by decide +kernel
theorem dX5_count_64 : decode cX5_count 64 = .ok (.ifCond .eq 10, 3) := by decide +kernel
theorem dX5_count_67 : decode cX5_count 67 = .ok (.aload_n 0, 1) := by decide +kernel
theorem dX5_count_68 : decode cX5_count 68 = .ok (.getfield 132, 3) := by decide +kernel
theorem dX5_count_71 : decode cX5_count 71 = .ok (.goto 4, 3) := by decide +kernel
theorem dX5_count_74 : decode cX5_count 74 = .ok (.iconst 0, 1) := by decide +kernel
theorem dX5_count_75 : decode cX5_count 75 = .ok (.ireturn, 1) := by decide +kernel
theorem dX5_count_76 : decode cX5_count 76 = .ok (.aload_n 0, 1) := by decide +kernel
theorem dX5_count_77 : decode cX5_count 77 = .ok (.getfield 90, 3) := by decide +kernel
theorem dX5_count_80 : decode cX5_count 80 = .ok (.ireturn, 1) := by decide +kernel
theorem dX5_count_81 : decode cX5_count 81 = .ok (.iconst (-1), 1) := by decide +kernel
theorem dX5_count_82 : decode cX5_count 82 = .ok (.ireturn, 1) := by decide +kernel
theorem dX5_said_0 : decode cX5_said 0 = .ok (.iload_n 1, 1) := by decide +kernel
theorem dX5_said_1 : decode cX5_said 1 = .ok (.ifCond .lt 17, 3) := by decide +kernel
theorem dX5_said_4 : decode cX5_said 4 = .ok (.iload_n 1, 1) := by decide +kernel
theorem dX5_said_5 : decode cX5_said 5 = .ok (.aload_n 0, 1) := by decide +kernel
theorem dX5_said_6 : decode cX5_said 6 = .ok (.getfield 189, 3) := by decide +kernel
theorem dX5_said_9 : decode cX5_said 9 = .ok (.if_icmp .ge 9, 3) := by decide +kernel
theorem dX5_said_12 : decode cX5_said 12 = .ok (.iload_n 1, 1) := by decide +kernel
theorem dX5_said_13 : decode cX5_said 13 = .ok (.bipush 60, 2) := by decide +kernel
theorem dX5_said_15 : decode cX5_said 15 = .ok (.if_icmp .lt 7, 3) := by decide +kernel
theorem dX5_said_18 : decode cX5_said 18 = .ok (.iconst 0, 1) := by decide +kernel
theorem dX5_said_19 : decode cX5_said 19 = .ok (.goto 9, 3) := by decide +kernel
theorem dX5_said_22 : decode cX5_said 22 = .ok (.aload_n 0, 1) := by decide +kernel
theorem dX5_said_23 : decode cX5_said 23 = .ok (.getfield 81, 3) := by decide +kernel
theorem dX5_said_26 : decode cX5_said 26 = .ok (.iload_n 1, 1) := by decide +kernel
theorem dX5_said_27 : decode cX5_said 27 = .ok (.iaload, 1) := by decide +kernel
theorem dX5_said_28 : decode cX5_said 28 = .ok (.ireturn, 1) := by decide +kernel
theorem dX5_register_0 : decode cX5_register 0 = .ok (.iload_n 1, 1) := by decide +kernel
theorem dX5_register_1 : decode cX5_register 1 = .ok (.invokestatic 111, 3) := by decide +kernel
theorem dX5_register_4 : decode cX5_register 4 = .ok (.ifCond .eq 12, 3) := by decide +kernel
theorem dX5_register_7 : decode cX5_register 7 = .ok (.aload_n 0, 1) := by decide +kernel
theorem dX5_register_8 : decode cX5_register 8 = .ok (.getfield 78, 3) := by decide +kernel
theorem dX5_register_11 : decode cX5_register 11 = .ok (.iload_n 1, 1) := by decide +kernel
theorem dX5_register_12 : decode cX5_register 12 = .ok (.iaload, 1) := by decide +kernel
theorem dX5_register_13 : decode cX5_register 13 = .ok (.goto 4, 3) := by decide +kernel
theorem dX5_register_16 : decode cX5_register 16 = .ok (.iconst 0, 1) := by decide +kernel
theorem dX5_register_17 : decode cX5_register 17 = .ok (.ireturn, 1) := by decide +kernel
theorem dX5_datum_0 : decode cX5_datum 0 = .ok (.aload_n 0, 1) := by decide +kernel
theorem dX5_datum_1 : decode cX5_datum 1 = .ok (.iload_n 1, 1) := by decide +kernel
theorem dX5_datum_2 : decode cX5_datum 2 = .ok (.invokevirtual 159, 3) := by decide +kernel
theorem dX5_datum_5 : decode cX5_datum 5 = .ok (.iconst (-1), 1) := by decide +kernel
theorem dX5_datum_6 : decode cX5_datum 6 = .ok (.if_icmp .ne 5, 3) := by decide +kernel
theorem dX5_datum_9 : decode cX5_datum 9 = .ok (.iconst (-1), 1) := by decide +kernel
theorem dX5_datum_10 : decode cX5_datum 10 = .ok (.ireturn, 1) := by decide +kernel
theorem dX5_datum_11 : decode cX5_datum 11 = .ok (.aload_n 0, 1) := by decide +kernel
theorem dX5_datum_12 : decode cX5_datum 12 = .ok (.iload_n 1, 1) := by decide +kernel
theorem dX5_datum_13 : decode cX5_datum 13 = .ok (.iload_n 2, 1) := by decide +kernel
theorem dX5_datum_14 : decode cX5_datum 14 = .ok (.invokevirtual 107, 3) := by decide +kernel
theorem dX5_datum_17 : decode cX5_datum 17 = .ok (.istore_n 3, 1) := by decide +kernel
theorem dX5_datum_18 : decode cX5_datum 18 = .ok (.iload_n 3, 1) := by decide +kernel
theorem dX5_datum_19 : decode cX5_datum 19 = .ok (.iconst (-1), 1) := by decide +kernel
theorem dX5_datum_20 : decode cX5_datum 20 = .ok (.if_icmp .eq 13, 3) := by decide +kernel
theorem dX5_datum_23 : decode cX5_datum 23 = .ok (.aload_n 0, 1) := by decide +kernel
theorem dX5_datum_24 : decode cX5_datum 24 = .ok (.getfield 19, 3) := by decide +kernel
theorem dX5_datum_27 : decode cX5_datum 27 = .ok (.iload_n 3, 1) := by decide +kernel
theorem dX5_datum_28 : decode cX5_datum 28 = .ok (.iaload, 1) := by decide +kernel
theorem dX5_datum_29 : decode cX5_datum 29 = .ok (.iconst 1, 1) := by decide +kernel
theorem dX5_datum_30 : decode cX5_datum 30 = .ok (.if_icmp .eq 7, 3) := by decide +kernel
theorem dX5_datum_33 : decode cX5_datum 33 = .ok (.iconst (-1), 1) := by decide +kernel
theorem dX5_datum_34 : decode cX5_datum 34 = .ok (.goto 9, 3) := by decide +kernel
theorem dX5_datum_37 : decode cX5_datum 37 = .ok (.aload_n 0, 1) := by decide +kernel
theorem dX5_datum_38 : decode cX5_datum 38 = .ok (.getfield 53, 3) := by decide +kernel
theorem dX5_datum_41 : decode cX5_datum 41 = .ok (.iload_n 3, 1) := by decide +kernel
theorem dX5_datum_42 : decode cX5_datum 42 = .ok (.iaload, 1) := by decide +kernel
theorem dX5_datum_43 : decode cX5_datum 43 = .ok (.ireturn, 1) := by decide +kernel
theorem dX5_check_0 : decode cX5_check 0 = .ok (.iconst 1, 1) := by decide +kernel
theorem dX5_check_1 : decode cX5_check 1 = .ok (.ireturn, 1) := by decide +kernel
