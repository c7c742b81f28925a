theorem kF_X12_199 : Cond.fieldLink RX12 199 "HalfDaysModel" "to" "I" ∈ lw_g := mk_c6 65 rfl rfl
theorem kF_X12_202 : Cond.fieldLink RX12 202 "HalfDaysModel" "bad" "Z" ∈ lw_g := mk_c6 69 rfl rfl
theorem kF_X12_209 : Cond.fieldLink RX12 209 "HalfDaysModel" "from" "I" ∈ lw_g := mk_c6 64 rfl rfl
theorem kF_X12_212 : Cond.fieldLink RX12 212 "HalfDaysModel" "worth" "J" ∈ lw_g := mk_c6 67 rfl rfl
theorem kF_X12_222 : Cond.fieldLink RX12 222 "HalfDaysModel" "sort" "I" ∈ lw_g := mk_c6 66 rfl rfl
theorem kF_X12_239 : Cond.fieldLink RX12 239 "HalfDaysModel" "nCode" "I" ∈ lw_g := mk_c6 72 rfl rfl
theorem kF_X12_242 : Cond.fieldLink RX12 242 "HalfDaysModel" "piled" "I" ∈ lw_g := mk_c6 78 rfl rfl
theorem kF_X12_287 : Cond.fieldLink RX12 287 "HalfDaysModel" "opened" "I" ∈ lw_g := mk_c6 79 rfl rfl
theorem kF_X12_293 : Cond.fieldLink RX12 293 "HalfDaysModel" "nLeaves" "I" ∈ lw_g := mk_c6 75 rfl rfl
theorem kF_X12_367 : Cond.fieldLink RX12 367 "HalfDaysModel" "nClauses" "I" ∈ lw_g := mk_c6 70 rfl rfl
theorem kL_X12_225 : Cond.constantLong RX12 225 32 ∈ lw_g := mk_c7 181 rfl rfl
theorem kL_X12_227 : Cond.constantLong RX12 227 96 ∈ lw_g := mk_c7 182 rfl rfl
theorem kL_X12_229 : Cond.constantLong RX12 229 100000 ∈ lw_g := mk_c7 183 rfl rfl
theorem kL_X12_231 : Cond.constantLong RX12 231 10 ∈ lw_g := mk_c7 184 rfl rfl
theorem kL_X12_233 : Cond.constantLong RX12 233 48 ∈ lw_g := mk_c7 185 rfl rfl
theorem kL_X12_253 : Cond.constantLong RX12 253 23 ∈ lw_g := mk_c8 61 rfl rfl
theorem kL_X12_255 : Cond.constantLong RX12 255 24 ∈ lw_g := mk_c8 62 rfl rfl
theorem kL_X12_257 : Cond.constantLong RX12 257 26 ∈ lw_g := mk_c8 63 rfl rfl
theorem kL_X12_259 : Cond.constantLong RX12 259 81486 ∈ lw_g := mk_c8 33 rfl rfl
theorem kL_X12_265 : Cond.constantLong RX12 265 14276022451 ∈ lw_g := mk_c8 34 rfl rfl
theorem kL_X12_267 : Cond.constantLong RX12 267 263558 ∈ lw_g := mk_c8 35 rfl rfl
theorem kL_X12_269 : Cond.constantLong RX12 269 4153 ∈ lw_g := mk_c8 36 rfl rfl
theorem kL_X12_271 : Cond.constantLong RX12 271 758955 ∈ lw_g := mk_c8 37 rfl rfl
theorem kL_X12_273 : Cond.constantLong RX12 273 640957932 ∈ lw_g := mk_c8 38 rfl rfl
theorem kL_X12_275 : Cond.constantLong RX12 275 56377 ∈ lw_g := mk_c7 226 rfl rfl
theorem kL_X12_277 : Cond.constantLong RX12 277 566519695749 ∈ lw_g := mk_c8 39 rfl rfl
theorem kL_X12_279 : Cond.constantLong RX12 279 3197106 ∈ lw_g := mk_c8 13 rfl rfl
theorem kL_X12_281 : Cond.constantLong RX12 281 525908 ∈ lw_g := mk_c8 14 rfl rfl
theorem kL_X12_283 : Cond.constantLong RX12 283 2739 ∈ lw_g := mk_c8 15 rfl rfl
theorem kL_X12_285 : Cond.constantLong RX12 285 277925 ∈ lw_g := mk_c8 16 rfl rfl
theorem kL_X12_306 : Cond.constantLong RX12 306 10000 ∈ lw_g := mk_c8 40 rfl rfl
theorem kL_X12_312 : Cond.constantLong RX12 312 14836 ∈ lw_g := mk_c7 236 rfl rfl
theorem kL_X12_330 : Cond.constantLong RX12 330 1476 ∈ lw_g := mk_c8 68 rfl rfl
theorem kL_X12_332 : Cond.constantLong RX12 332 498 ∈ lw_g := mk_c8 69 rfl rfl
theorem kL_X12_344 : Cond.constantLong RX12 344 659105125 ∈ lw_g := mk_c7 194 rfl rfl
theorem kL_X12_346 : Cond.constantLong RX12 346 113797 ∈ lw_g := mk_c7 199 rfl rfl
theorem kL_X12_348 : Cond.constantLong RX12 348 643248 ∈ lw_g := mk_c7 200 rfl rfl
theorem kL_X12_350 : Cond.constantLong RX12 350 206277 ∈ lw_g := mk_c7 201 rfl rfl
theorem kL_X12_352 : Cond.constantLong RX12 352 631476 ∈ lw_g := mk_c7 202 rfl rfl
theorem kL_X12_354 : Cond.constantLong RX12 354 15558 ∈ lw_g := mk_c7 203 rfl rfl
theorem kL_X12_356 : Cond.constantLong RX12 356 267845 ∈ lw_g := mk_c7 223 rfl rfl
theorem kL_X12_358 : Cond.constantLong RX12 358 394885 ∈ lw_g := mk_c7 224 rfl rfl
theorem kL_X12_360 : Cond.constantLong RX12 360 1489493156 ∈ lw_g := mk_c7 225 rfl rfl
theorem kL_X12_362 : Cond.constantLong RX12 362 474565 ∈ lw_g := mk_c7 227 rfl rfl
theorem kL_X12_370 : Cond.constantLong RX12 370 19 ∈ lw_g := mk_c7 208 rfl rfl
theorem kL_X12_376 : Cond.constantLong RX12 376 113301093 ∈ lw_g := mk_c7 213 rfl rfl
theorem kL_X12_378 : Cond.constantLong RX12 378 11 ∈ lw_g := mk_c7 214 rfl rfl
theorem kL_X12_389 : Cond.constantLong RX12 389 302 ∈ lw_g := mk_c8 70 rfl rfl
theorem kL_X12_391 : Cond.constantLong RX12 391 18523243 ∈ lw_g := mk_c8 71 rfl rfl
theorem kL_X12_393 : Cond.constantLong RX12 393 400 ∈ lw_g := mk_c8 72 rfl rfl
theorem kL_X12_395 : Cond.constantLong RX12 395 294 ∈ lw_g := mk_c8 73 rfl rfl
theorem kM_X12_206 : Cond.methodLink RX12 206 yX12_next ∈ lw_g := mk_c7 171 rfl rfl
theorem kM_X12_216 : Cond.methodLink RX12 216 yX12_isSmall ∈ lw_g := mk_c7 175 rfl rfl
theorem kM_X12_219 : Cond.methodLink RX12 219 yX12_isDigit ∈ lw_g := mk_c7 178 rfl rfl
theorem kM_X12_235 : Cond.methodLink RX12 235 yX12_must ∈ lw_g := mk_c7 204 rfl rfl
theorem kM_X12_245 : Cond.methodLink RX12 245 yX12_binds ∈ lw_g := mk_c8 45 rfl rfl
theorem kM_X12_248 : Cond.methodLink RX12 248 yX12_emit ∈ lw_g := mk_c8 21 rfl rfl
theorem kM_X12_261 : Cond.methodLink RX12 261 yX12_isWord ∈ lw_g := mk_c7 195 rfl rfl
theorem kM_X12_290 : Cond.methodLink RX12 290 yX12_push ∈ lw_g := mk_c7 237 rfl rfl
theorem kM_X12_296 : Cond.methodLink RX12 296 yX12_isSign ∈ lw_g := mk_c8 1 rfl rfl
theorem kM_X12_299 : Cond.methodLink RX12 299 yX12_open ∈ lw_g := mk_c8 5 rfl rfl
theorem kM_X12_302 : Cond.methodLink RX12 302 yX12_partAt ∈ lw_g := mk_c8 29 rfl rfl
theorem kM_X12_308 : Cond.methodLink RX12 308 yX12_leaf ∈ lw_g := mk_c8 17 rfl rfl
theorem kM_X12_314 : Cond.methodLink RX12 314 yX12_plainAt ∈ lw_g := mk_c8 9 rfl rfl
theorem kM_X12_317 : Cond.methodLink RX12 317 yX12_readPart ∈ lw_g := mk_c8 25 rfl rfl
theorem kM_X12_320 : Cond.methodLink RX12 320 yX12_settle ∈ lw_g := mk_c8 48 rfl rfl
theorem kM_X12_323 : Cond.methodLink RX12 323 yX12_inner ∈ lw_g := mk_c8 52 rfl rfl
theorem kM_X12_326 : Cond.methodLink RX12 326 yX12_isCompared ∈ lw_g := mk_c8 56 rfl rfl
theorem kM_X12_334 : Cond.methodLink RX12 334 yX12_readPlain ∈ lw_g := mk_c7 232 rfl rfl
theorem kM_X12_337 : Cond.methodLink RX12 337 yX12_behindSum ∈ lw_g := mk_c8 41 rfl rfl
theorem kM_X12_341 : Cond.methodLink RX12 341 yX12_behindTest ∈ lw_g := mk_c8 64 rfl rfl
theorem kM_X12_364 : Cond.methodLink RX12 364 yX12_headAt ∈ lw_g := mk_c7 190 rfl rfl
theorem kM_X12_372 : Cond.methodLink RX12 372 yX12_number ∈ lw_g := mk_c7 209 rfl rfl
theorem kM_X12_380 : Cond.methodLink RX12 380 yX12_letter ∈ lw_g := mk_c7 215 rfl rfl
theorem kM_X12_383 : Cond.methodLink RX12 383 yX12_kind ∈ lw_g := mk_c7 219 rfl rfl
theorem kM_X12_386 : Cond.methodLink RX12 386 yX12_readExpression ∈ lw_g := mk_c7 228 rfl rfl
theorem kM_X12_397 : Cond.methodLink RX12 397 yX12_begin ∈ lw_g := mk_c7 167 rfl rfl
theorem kM_X12_400 : Cond.methodLink RX12 400 yX12_readClause ∈ lw_g := mk_c7 186 rfl rfl
theorem kM_X12_406 : Cond.methodLink RX12 406 yX12_readText ∈ lw_g := mk_c7 163 rfl rfl
theorem okS_X12_binds : okS yX12_binds cX12_binds 1 (some .int) 1 := ⟨mk_c8 46 rfl rfl, kZ_X12, mk_c8 47 rfl rfl, ⟨by decide +kernel, by decide +kernel, by decide +kernel⟩⟩
theorem okS_X12_isDigit : okS yX12_isDigit cX12_isDigit 1 (some .boolean) 1 := ⟨mk_c7 179 rfl rfl, kZ_X12, mk_c7 180 rfl rfl, ⟨by decide +kernel, by decide +kernel, by decide +kernel⟩⟩
theorem okS_X12_isSmall : okS yX12_isSmall cX12_isSmall 1 (some .boolean) 1 := ⟨mk_c7 176 rfl rfl, kZ_X12, mk_c7 177 rfl rfl, ⟨by decide +kernel, by decide +kernel, by decide +kernel⟩⟩
theorem okV_X12_begin : okV RX12 yX12_begin cX12_begin 1 none 0 := ⟨mk_c7 169 rfl rfl, mk_s 58 rfl rfl, kZ_X12, mk_c7 170 rfl rfl, ⟨by decide +kernel, by decide +kernel, by decide +kernel⟩⟩
theorem okV_X12_behindSum : okV RX12 yX12_behindSum cX12_behindSum 4 (some .int) 1 := ⟨mk_c8 43 rfl rfl, mk_s 77 rfl rfl, kZ_X12, mk_c8 44 rfl rfl, ⟨by decide +kernel, by decide +kernel, by decide +kernel⟩⟩
theorem okV_X12_behindTest : okV RX12 yX12_behindTest cX12_behindTest 2 (some .int) 0 := ⟨mk_c8 66 rfl rfl, mk_s 81 rfl rfl, kZ_X12, mk_c8 67 rfl rfl, ⟨by decide +kernel, by decide +kernel, by decide +kernel⟩⟩
theorem okV_X12_emit : okV RX12 yX12_emit cX12_emit 3 none 2 := ⟨mk_c8 23 rfl rfl, mk_s 74 rfl rfl, kZ_X12, mk_c8 24 rfl rfl, ⟨by decide +kernel, by decide +kernel, by decide +kernel⟩⟩
theorem okV_X12_headAt : okV RX12 yX12_headAt cX12_headAt 1 (some .int) 0 := ⟨mk_c7 192 rfl rfl, mk_s 61 rfl rfl, kZ_X12, mk_c7 193 rfl rfl, ⟨by decide +kernel, by decide +kernel, by decide +kernel⟩⟩
theorem okV_X12_inner : okV RX12 yX12_inner cX12_inner 3 (some .int) 0 := ⟨mk_c8 54 rfl rfl, mk_s 79 rfl rfl, kZ_X12, mk_c8 55 rfl rfl, ⟨by decide +kernel, by decide +kernel, by decide +kernel⟩⟩
theorem okV_X12_isCompared : okV RX12 yX12_isCompared cX12_isCompared 2 (some .boolean) 0 := ⟨mk_c8 58 rfl rfl, mk_s 80 rfl rfl, kZ_X12, mk_c8 59 rfl rfl, ⟨by decide +kernel, by decide +kernel, by decide +kernel⟩⟩
theorem okV_X12_isSign : okV RX12 yX12_isSign cX12_isSign 2 (some .boolean) 1 := ⟨mk_c8 3 rfl rfl, mk_s 70 rfl rfl, kZ_X12, mk_c8 4 rfl rfl, ⟨by decide +kernel, by decide +kernel, by decide +kernel⟩⟩
theorem okV_X12_isWord : okV RX12 yX12_isWord cX12_isWord 3 (some .boolean) 1 := ⟨mk_c7 197 rfl rfl, mk_s 62 rfl rfl, kZ_X12, mk_c7 198 rfl rfl, ⟨by decide +kernel, by decide +kernel, by decide +kernel⟩⟩
theorem okV_X12_kind : okV RX12 yX12_kind cX12_kind 2 (some .int) 0 := ⟨mk_c7 221 rfl rfl, mk_s 66 rfl rfl, kZ_X12, mk_c7 222 rfl rfl, ⟨by decide +kernel, by decide +kernel, by decide +kernel⟩⟩
theorem okV_X12_leaf : okV RX12 yX12_leaf cX12_leaf 4 none 3 := ⟨mk_c8 19 rfl rfl, mk_s 73 rfl rfl, kZ_X12, mk_c8 20 rfl rfl, ⟨by decide +kernel, by decide +kernel, by decide +kernel⟩⟩
theorem okV_X12_letter : okV RX12 yX12_letter cX12_letter 2 (some .int) 0 := ⟨mk_c7 217 rfl rfl, mk_s 65 rfl rfl, kZ_X12, mk_c7 218 rfl rfl, ⟨by decide +kernel, by decide +kernel, by decide +kernel⟩⟩
theorem okV_X12_must : okV RX12 yX12_must cX12_must 2 none 1 := ⟨mk_c7 206 rfl rfl, mk_s 63 rfl rfl, kZ_X12, mk_c7 207 rfl rfl, ⟨by decide +kernel, by decide +kernel, by decide +kernel⟩⟩
theorem okV_X12_next : okV RX12 yX12_next cX12_next 1 none 0 := ⟨mk_c7 173 rfl rfl, mk_s 59 rfl rfl, kZ_X12, mk_c7 174 rfl rfl, ⟨by decide +kernel, by decide +kernel, by decide +kernel⟩⟩
theorem okV_X12_number : okV RX12 yX12_number cX12_number 6 (some .int) 2 := ⟨mk_c7 211 rfl rfl, mk_s 64 rfl rfl, kZ_X12, mk_c7 212 rfl rfl, ⟨by decide +kernel, by decide +kernel, by decide +kernel⟩⟩
theorem okV_X12_open : okV RX12 yX12_open cX12_open 2 none 1 := ⟨mk_c8 7 rfl rfl, mk_s 71 rfl rfl, kZ_X12, mk_c8 8 rfl rfl, ⟨by decide +kernel, by decide +kernel, by decide +kernel⟩⟩
theorem okV_X12_partAt : okV RX12 yX12_partAt cX12_partAt 1 (some .int) 0 := ⟨mk_c8 31 rfl rfl, mk_s 76 rfl rfl, kZ_X12, mk_c8 32 rfl rfl, ⟨by decide +kernel, by decide +kernel, by decide +kernel⟩⟩
theorem okV_X12_plainAt : okV RX12 yX12_plainAt cX12_plainAt 1 (some .int) 0 := ⟨mk_c8 11 rfl rfl, mk_s 72 rfl rfl, kZ_X12, mk_c8 12 rfl rfl, ⟨by decide +kernel, by decide +kernel, by decide +kernel⟩⟩
theorem okV_X12_push : okV RX12 yX12_push cX12_push 3 none 2 := ⟨mk_c7 239 rfl rfl, mk_s 69 rfl rfl, kZ_X12, mk_c8 0 rfl rfl, ⟨by decide +kernel, by decide +kernel, by decide +kernel⟩⟩
theorem okV_X12_readClause : okV RX12 yX12_readClause cX12_readClause 4 none 0 := ⟨mk_c7 188 rfl rfl, mk_s 60 rfl rfl, kZ_X12, mk_c7 189 rfl rfl, ⟨by decide +kernel, by decide +kernel, by decide +kernel⟩⟩
theorem okV_X12_readExpression : okV RX12 yX12_readExpression cX12_readExpression 3 none 1 := ⟨mk_c7 230 rfl rfl, mk_s 67 rfl rfl, kZ_X12, mk_c7 231 rfl rfl, ⟨by decide +kernel, by decide +kernel, by decide +kernel⟩⟩
theorem okV_X12_readPart : okV RX12 yX12_readPart cX12_readPart 3 (some .int) 0 := ⟨mk_c8 27 rfl rfl, mk_s 75 rfl rfl, kZ_X12, mk_c8 28 rfl rfl, ⟨by decide +kernel, by decide +kernel, by decide +kernel⟩⟩
theorem okV_X12_readPlain : okV RX12 yX12_readPlain cX12_readPlain 2 (some .int) 0 := ⟨mk_c7 234 rfl rfl, mk_s 68 rfl rfl, kZ_X12, mk_c7 235 rfl rfl, ⟨by decide +kernel, by decide +kernel, by decide +kernel⟩⟩
theorem okV_X12_readText : okV RX12 yX12_readText cX12_readText 4 (some .boolean) 1 := ⟨mk_c7 165 rfl rfl, mk_s 57 rfl rfl, kZ_X12, mk_c7 166 rfl rfl, ⟨by decide +kernel, by decide +kernel, by decide +kernel⟩⟩
theorem okV_X12_settle : okV RX12 yX12_settle cX12_settle 2 none 1 := ⟨mk_c8 50 rfl rfl, mk_s 78 rfl rfl, kZ_X12, mk_c8 51 rfl rfl, ⟨by decide +kernel, by decide +kernel, by decide +kernel⟩⟩
theorem dX12_act_0 : decode cX12_act 0 = .ok (.aload_n 0, 1) := by decide +kernel
theorem dX12_act_1 : decode cX12_act 1 = .ok (.iconst 0, 1) := by decide +kernel
theorem dX12_act_2 : decode cX12_act 2 = .ok (.putfield 92, 3) := by decide +kernel
theorem dX12_act_5 : decode cX12_act 5 = .ok (.iload_n 1, 1) := by decide +kernel
theorem dX12_act_6 : decode cX12_act 6 = .ok (.invokestatic 127, 3) := by decide +kernel
theorem dX12_act_9 : decode cX12_act 9 = .ok (.ifCond .eq 14, 3) := by decide +kernel
theorem dX12_act_12 : decode cX12_act 12 = .ok (.aload_n 0, 1) := by decide +kernel
theorem dX12_act_13 : decode cX12_act 13 = .ok (.getfield 7, 3) := by decide +kernel
theorem dX12_act_16 : decode cX12_act 16 = .ok (.iconst 4, 1) := by decide +kernel
theorem dX12_act_17 : decode cX12_act 17 = .ok (.iaload, 1) := by decide +kernel
theorem dX12_act_18 : decode cX12_act 18 = .ok (.bipush 20, 2) := by decide +kernel
theorem dX12_act_20 : decode cX12_act 20 = .ok (.if_icmp .ne 26, 3) := by decide +kernel
theorem dX12_act_23 : decode cX12_act 23 = .ok (.aload_n 0, 1) := by decide +kernel
theorem dX12_act_24 : decode cX12_act 24 = .ok (.iconst 0, 1) := by decide +kernel
theorem dX12_act_25 : decode cX12_act 25 = .ok (.putfield 193, 3) := by decide +kernel
theorem dX12_act_28 : decode cX12_act 28 = .ok (.aload_n 0, 1) := by decide +kernel
theorem dX12_act_29 : decode cX12_act 29 = .ok (.iload_n 1, 1) := by decide +kernel
theorem dX12_act_30 : decode cX12_act 30 = .ok (.invokestatic 127, 3) := by decide +kernel
theorem dX12_act_33 : decode cX12_act 33 = .ok (.ifCond .eq 8, 3) := by decide +kernel
theorem dX12_act_36 : decode cX12_act 36 = .ok (.bipush (-5), 2) := by decide +kernel
theorem dX12_act_38 : decode cX12_act 38 = .ok (.goto 4, 3) := by decide +kernel
theorem dX12_act_41 : decode cX12_act 41 = .ok (.iconst (-1), 1) := by decide +kernel
theorem dX12_act_42 : decode cX12_act 42 = .ok (.invokevirtual 106, 3) := by decide +kernel
theorem dX12_act_45 : decode cX12_act 45 = .ok (.ireturn, 1) := by decide +kernel
theorem dX12_act_46 : decode cX12_act 46 = .ok (.aload_n 0, 1) := by decide +kernel
theorem dX12_act_47 : decode cX12_act 47 = .ok (.iload_n 1, 1) := by decide +kernel
theorem dX12_act_48 : decode cX12_act 48 = .ok (.invokevirtual 406, 3) := by decide +kernel
theorem dX12_act_51 : decode cX12_act 51 = .ok (.istore_n 2, 1) := by decide +kernel
theorem dX12_act_52 : decode cX12_act 52 = .ok (.aload_n 0, 1) := by decide +kernel
theorem dX12_act_53 : decode cX12_act 53 = .ok (.iconst 0, 1) := by decide +kernel
theorem dX12_act_54 : decode cX12_act 54 = .ok (.putfield 193, 3) := by decide +kernel
theorem dX12_act_57 : decode cX12_act 57 = .ok (.aload_n 0, 1) := by decide +kernel
theorem dX12_act_58 : decode cX12_act 58 = .ok (.iload_n 2, 1) := by decide +kernel
theorem dX12_act_59 : decode cX12_act 59 = .ok (.ifCond .eq 14, 3) := by decide +kernel
theorem dX12_act_62 : decode cX12_act 62 = .ok (.aload_n 0, 1) := by decide +kernel
theorem dX12_act_63 : decode cX12_act 63 = .ok (.getfield 7, 3) := by decide +kernel
theorem dX12_act_66 : decode cX12_act 66 = .ok (.iconst 4, 1) := by decide +kernel
theorem dX12_act_67 : decode cX12_act 67 = .ok (.iaload, 1) := by decide +kernel
theorem dX12_act_68 : decode cX12_act 68 = .ok (.iconst 1, 1) := by decide +kernel
theorem dX12_act_69 : decode cX12_act 69 = .ok (.isub, 1) := by decide +kernel
theorem dX12_act_70 : decode cX12_act 70 = .ok (.goto 5, 3) := by decide +kernel
theorem dX12_act_73 : decode cX12_act 73 = .ok (.bipush (-6), 2) := by decide +kernel
theorem dX12_act_75 : decode cX12_act 75 = .ok (.invokevirtual 106, 3) := by decide +kernel
theorem dX12_act_78 : decode cX12_act 78 = .ok (.ireturn, 1) := by decide +kernel
theorem dX12_begin_0 : decode cX12_begin 0 = .ok (.aload_n 0, 1) := by decide +kernel
theorem dX12_begin_1 : decode cX12_begin 1 = .ok (.iconst 0, 1) := by decide +kernel
theorem dX12_begin_2 : decode cX12_begin 2 = .ok (.putfield 199, 3) := by decide +kernel
theorem dX12_begin_5 : decode cX12_begin 5 = .ok (.aload_n 0, 1) := by decide +kernel
theorem dX12_begin_6 : decode cX12_begin 6 = .ok (.iconst 0, 1) := by decide +kernel
theorem dX12_begin_7 : decode cX12_begin 7 = .ok (.putfield 202, 3) := by decide +kernel
theorem dX12_begin_10 : decode cX12_begin 10 = .ok (.aload_n 0, 1) := by decide +kernel
theorem dX12_begin_11 : decode cX12_begin 11 = .ok (.iconst (-1), 1) := by decide +kernel
theorem dX12_begin_12 : decode cX12_begin 12 = .ok (.putfield 36, 3) := by decide +kernel
theorem dX12_begin_15 : decode cX12_begin 15 = .ok (.aload_n 0, 1) := by decide +kernel
theorem dX12_begin_16 : decode cX12_begin 16 = .ok (.invokevirtual 206, 3) := by decide +kernel
theorem dX12_begin_19 : decode cX12_begin 19 = .ok (.return_, 1) := by decide +kernel
theorem dX12_behindSum_0 : decode cX12_behindSum 0 = .ok (.aload_n 0, 1) := by decide +kernel
theorem dX12_behindSum_1 : decode cX12_behindSum 1 = .ok (.bipush 43, 2) := by decide +kernel
theorem dX12_behindSum_3 : decode cX12_behindSum 3 = .ok (.invokevirtual 296, 3) := by decide +kernel
theorem dX12_behindSum_6 : decode cX12_behindSum 6 = .ok (.ifCond .eq 8, 3) := by decide +kernel
theorem dX12_behindSum_9 : decode cX12_behindSum 9 = .ok (.bipush 20, 2) := by decide +kernel
theorem dX12_behindSum_11 : decode cX12_behindSum 11 = .ok (.goto 46, 3) := by decide +kernel
theorem dX12_behindSum_14 : decode cX12_behindSum 14 = .ok (.aload_n 0, 1) := by decide +kernel
theorem dX12_behindSum_15 : decode cX12_behindSum 15 = .ok (.bipush 45, 2) := by decide +kernel
theorem dX12_behindSum_17 : decode cX12_behindSum 17 = .ok (.invokevirtual 296, 3) := by decide +kernel
theorem dX12_behindSum_20 : decode cX12_behindSum 20 = .ok (.ifCond .eq 8, 3) := by decide +kernel
theorem dX12_behindSum_23 : decode cX12_behindSum 23 = .ok (.bipush 21, 2) := by decide +kernel
theorem dX12_behindSum_25 : decode cX12_behindSum 25 = .ok (.goto 32, 3) := by decide +kernel
theorem dX12_behindSum_28 : decode cX12_behindSum 28 = .ok (.aload_n 0, 1) := by decide +kernel
theorem dX12_behindSum_29 : decode cX12_behindSum 29 = .ok (.bipush 42, 2) := by decide +kernel
theorem dX12_behindSum_31 : decode cX12_behindSum 31 = .ok (.invokevirtual 296, 3) := by decide +kernel
theorem dX12_behindSum_34 : decode cX12_behindSum 34 = .ok (.ifCond .eq 8, 3) := by decide +kernel
theorem dX12_behindSum_37 : decode cX12_behindSum 37 = .ok (.bipush 22, 2) := by decide +kernel
theorem dX12_behindSum_39 : decode cX12_behindSum 39 = .ok (.goto 18, 3) := by decide +kernel
theorem dX12_behindSum_42 : decode cX12_behindSum 42 = .ok (.aload_n 0, 1) := by decide +kernel
theorem dX12_behindSum_43 : decode cX12_behindSum 43 = .ok (.bipush 47, 2) := by decide +kernel
theorem dX12_behindSum_45 : decode cX12_behindSum 45 = .ok (.invokevirtual 296, 3) := by decide +kernel
theorem dX12_behindSum_48 : decode cX12_behindSum 48 = .ok (.ifCond .eq 8, 3) := by decide +kernel
theorem dX12_behindSum_51 : decode cX12_behindSum 51 = .ok (.bipush 23, 2) := by decide +kernel
theorem dX12_behindSum_53 : decode cX12_behindSum 53 = .ok (.goto 4, 3) := by decide +kernel
theorem dX12_behindSum_56 : decode cX12_behindSum 56 = .ok (.iconst (-1), 1) := by decide +kernel
theorem dX12_behindSum_57 : decode cX12_behindSum 57 = .ok (.istore_n 2, 1) := by decide +kernel
theorem dX12_behindSum_58 : decode cX12_behindSum 58 = .ok (.iload_n 2, 1) := by decide +kernel
theorem dX12_behindSum_59 : decode cX12_behindSum 59 = .ok (.iconst (-1), 1) := by decide +kernel
theorem dX12_behindSum_60 : decode cX12_behindSum 60 = .ok (.if_icmp .eq 23, 3) := by decide +kernel
theorem dX12_behindSum_63 : decode cX12_behindSum 63 = .ok (.aload_n 0, 1) := by decide +kernel
theorem dX12_behindSum_64 : decode cX12_behindSum 64 = .ok (.iload_n 2, 1) := by decide +kernel
theorem dX12_behindSum_65 : decode cX12_behindSum 65 = .ok (.invokestatic 245, 3) := by decide +kernel
theorem dX12_behindSum_68 : decode cX12_behindSum 68 = .ok (.invokevirtual 320, 3) := by decide +kernel
theorem dX12_behindSum_71 : decode cX12_behindSum 71 = .ok (.aload_n 0, 1) := by decide +kernel
theorem dX12_behindSum_72 : decode cX12_behindSum 72 = .ok (.iload_n 2, 1) := by decide +kernel
theorem dX12_behindSum_73 : decode cX12_behindSum 73 = .ok (.iconst 0, 1) := by decide +kernel
theorem dX12_behindSum_74 : decode cX12_behindSum 74 = .ok (.invokevirtual 290, 3) := by decide +kernel
theorem dX12_behindSum_77 : decode cX12_behindSum 77 = .ok (.aload_n 0, 1) := by decide +kernel
theorem dX12_behindSum_78 : decode cX12_behindSum 78 = .ok (.invokevirtual 206, 3) := by decide +kernel
theorem dX12_behindSum_81 : decode cX12_behindSum 81 = .ok (.iconst 1, 1) := by decide +kernel
theorem dX12_behindSum_82 : decode cX12_behindSum 82 = .ok (.ireturn, 1) := by decide +kernel
theorem dX12_behindSum_83 : decode cX12_behindSum 83 = .ok (.aload_n 0, 1) := by decide +kernel
theorem dX12_behindSum_84 : decode cX12_behindSum 84 = .ok (.invokevirtual 323, 3) := by decide +kernel
theorem dX12_behindSum_87 : decode cX12_behindSum 87 = .ok (.istore_n 3, 1) := by decide +kernel
theorem dX12_behindSum_88 : decode cX12_behindSum 88 = .ok (.iload_n 3, 1) := by decide +kernel
theorem dX12_behindSum_89 : decode cX12_behindSum 89 = .ok (.bipush 31, 2) := by decide +kernel
theorem dX12_behindSum_91 : decode cX12_behindSum 91 = .ok (.if_icmp .ne 47, 3) := by decide +kernel
theorem dX12_behindSum_94 : decode cX12_behindSum 94 = .ok (.aload_n 0, 1) := by decide +kernel
theorem dX12_behindSum_95 : decode cX12_behindSum 95 = .ok (.aload_n 0, 1) := by decide +kernel
theorem dX12_behindSum_96 : decode cX12_behindSum 96 = .ok (.bipush 93, 2) := by decide +kernel
theorem dX12_behindSum_98 : decode cX12_behindSum 98 = .ok (.invokevirtual 296, 3) := by decide +kernel
theorem dX12_behindSum_101 : decode cX12_behindSum 101 = .ok (.invokevirtual 235, 3) := by decide +kernel
theorem dX12_behindSum_104 : decode cX12_behindSum 104 = .ok (.aload_n 0, 1) := by decide +kernel
theorem dX12_behindSum_105 : decode cX12_behindSum 105 = .ok (.getfield 202, 3) := by decide +kernel
theorem dX12_behindSum_108 : decode cX12_behindSum 108 = .ok (.ifCond .ne 28, 3) := by decide +kernel
theorem dX12_behindSum_111 : decode cX12_behindSum 111 = .ok (.aload_n 0, 1) := by decide +kernel
theorem dX12_behindSum_112 : decode cX12_behindSum 112 = .ok (.iconst 5, 1) := by decide +kernel
theorem dX12_behindSum_113 : decode cX12_behindSum 113 = .ok (.invokevirtual 320, 3) := by decide +kernel
theorem dX12_behindSum_116 : decode cX12_behindSum 116 = .ok (.aload_n 0, 1) := by decide +kernel
theorem dX12_behindSum_117 : decode cX12_behindSum 117 = .ok (.dup, 1) := by decide +kernel
theorem dX12_behindSum_118 : decode cX12_behindSum 118 = .ok (.getfield 242, 3) := by decide +kernel
theorem dX12_behindSum_121 : decode cX12_behindSum 121 = .ok (.iconst 1, 1) := by decide +kernel
theorem dX12_behindSum_122 : decode cX12_behindSum 122 = .ok (.isub, 1) := by decide +kernel
theorem dX12_behindSum_123 : decode cX12_behindSum 123 = .ok (.putfield 242, 3) := by decide +kernel
theorem dX12_behindSum_126 : decode cX12_behindSum 126 = .ok (.aload_n 0, 1) := by decide +kernel
theorem dX12_behindSum_127 : decode cX12_behindSum 127 = .ok (.dup, 1) := by decide +kernel
theorem dX12_behindSum_128 : decode cX12_behindSum 128 = .ok (.getfield 287, 3) := by decide +kernel
theorem dX12_behindSum_131 : decode cX12_behindSum 131 = .ok (.iconst 1, 1) := by decide +kernel
theorem dX12_behindSum_132 : decode cX12_behindSum 132 = .ok (.isub, 1) := by decide +kernel
theorem dX12_behindSum_133 : decode cX12_behindSum 133 = .ok (.putfield 287, 3) := by decide +kernel
theorem dX12_behindSum_136 : decode cX12_behindSum 136 = .ok (.iconst 3, 1) := by decide +kernel
theorem dX12_behindSum_137 : decode cX12_behindSum 137 = .ok (.ireturn, 1) := by decide +kernel
theorem dX12_behindSum_138 : decode cX12_behindSum 138 = .ok (.iload_n 3, 1) := by decide +kernel
theorem dX12_behindSum_139 : decode cX12_behindSum 139 = .ok (.iconst (-1), 1) := by decide +kernel
theorem dX12_behindSum_140 : decode cX12_behindSum 140 = .ok (.if_icmp .ne 9, 3) := by decide +kernel
theorem dX12_behindSum_143 : decode cX12_behindSum 143 = .ok (.iload_n 1, 1) := by decide +kernel
theorem dX12_behindSum_144 : decode cX12_behindSum 144 = .ok (.ifCond .ne 5, 3) := by decide +kernel
theorem dX12_behindSum_147 : decode cX12_behindSum 147 = .ok (.iconst 4, 1) := by decide +kernel
theorem dX12_behindSum_148 : decode cX12_behindSum 148 = .ok (.ireturn, 1) := by decide +kernel
theorem dX12_behindSum_149 : decode cX12_behindSum 149 = .ok (.aload_n 0, 1) := by decide +kernel
theorem dX12_behindSum_150 : decode cX12_behindSum 150 = .ok (.invokevirtual 326, 3) := by decide +kernel
theorem dX12_behindSum_153 : decode cX12_behindSum 153 = .ok (.ifCond .eq 5, 3) := by decide +kernel
theorem dX12_behindSum_156 : decode cX12_behindSum 156 = .ok (.iconst 2, 1) := by decide +kernel
theorem dX12_behindSum_157 : decode cX12_behindSum 157 = .ok (.ireturn, 1) := by decide +kernel
theorem dX12_behindSum_158 : decode cX12_behindSum 158 = .ok (.aload_n 0, 1) := by decide +kernel
theorem dX12_behindSum_159 : decode cX12_behindSum 159 = .ok (.bipush 60, 2) := by decide +kernel
theorem dX12_behindSum_161 : decode cX12_behindSum 161 = .ok (.invokevirtual 296, 3) := by decide +kernel
theorem dX12_behindSum_164 : decode cX12_behindSum 164 = .ok (.ifCond .eq 8, 3) := by decide +kernel
theorem dX12_behindSum_167 : decode cX12_behindSum 167 = .ok (.bipush 24, 2) := by decide +kernel
theorem dX12_behindSum_169 : decode cX12_behindSum 169 = .ok (.goto 19, 3) := by decide +kernel
theorem dX12_behindSum_172 : decode cX12_behindSum 172 = .ok (.aload_n 0, 1) := by decide +kernel
theorem dX12_behindSum_173 : decode cX12_behindSum 173 = .ok (.bipush 62, 2) := by decide +kernel
theorem dX12_behindSum_175 : decode cX12_behindSum 175 = .ok (.invokevirtual 296, 3) := by decide +kernel
theorem dX12_behindSum_178 : decode cX12_behindSum 178 = .ok (.ifCond .eq 8, 3) := by decide +kernel
theorem dX12_behindSum_181 : decode cX12_behindSum 181 = .ok (.bipush 25, 2) := by decide +kernel
theorem dX12_behindSum_183 : decode cX12_behindSum 183 = .ok (.goto 5, 3) := by decide +kernel
theorem dX12_behindSum_186 : decode cX12_behindSum 186 = .ok (.bipush 26, 2) := by decide +kernel
theorem dX12_behindSum_188 : decode cX12_behindSum 188 = .ok (.istore_n 2, 1) := by decide +kernel
theorem dX12_behindSum_189 : decode cX12_behindSum 189 = .ok (.aload_n 0, 1) := by decide +kernel
theorem dX12_behindSum_190 : decode cX12_behindSum 190 = .ok (.iload_n 2, 1) := by decide +kernel
theorem dX12_behindSum_191 : decode cX12_behindSum 191 = .ok (.bipush 26, 2) := by decide +kernel
theorem dX12_behindSum_193 : decode cX12_behindSum 193 = .ok (.if_icmp .ne 12, 3) := by decide +kernel
theorem dX12_behindSum_196 : decode cX12_behindSum 196 = .ok (.aload_n 0, 1) := by decide +kernel
theorem dX12_behindSum_197 : decode cX12_behindSum 197 = .ok (.bipush 61, 2) := by decide +kernel
theorem dX12_behindSum_199 : decode cX12_behindSum 199 = .ok (.invokevirtual 296, 3) := by decide +kernel
theorem dX12_behindSum_202 : decode cX12_behindSum 202 = .ok (.ifCond .eq 7, 3) := by decide +kernel
theorem dX12_behindSum_205 : decode cX12_behindSum 205 = .ok (.iconst 1, 1) := by decide +kernel
theorem dX12_behindSum_206 : decode cX12_behindSum 206 = .ok (.goto 4, 3) := by decide +kernel
theorem dX12_behindSum_209 : decode cX12_behindSum 209 = .ok (.iconst 0, 1) := by decide +kernel
theorem dX12_behindSum_210 : decode cX12_behindSum 210 = .ok (.invokevirtual 235, 3) := by decide +kernel
theorem dX12_behindSum_213 : decode cX12_behindSum 213 = .ok (.aload_n 0, 1) := by decide +kernel
theorem dX12_behindSum_214 : decode cX12_behindSum 214 = .ok (.getfield 202, 3) := by decide +kernel
theorem dX12_behindSum_217 : decode cX12_behindSum 217 = .ok (.ifCond .ne 14, 3) := by decide +kernel
theorem dX12_behindSum_220 : decode cX12_behindSum 220 = .ok (.aload_n 0, 1) := by decide +kernel
theorem dX12_behindSum_221 : decode cX12_behindSum 221 = .ok (.iconst 5, 1) := by decide +kernel
theorem dX12_behindSum_222 : decode cX12_behindSum 222 = .ok (.invokevirtual 320, 3) := by decide +kernel
theorem dX12_behindSum_225 : decode cX12_behindSum 225 = .ok (.aload_n 0, 1) := by decide +kernel
theorem dX12_behindSum_226 : decode cX12_behindSum 226 = .ok (.iload_n 2, 1) := by decide +kernel
theorem dX12_behindSum_227 : decode cX12_behindSum 227 = .ok (.iconst 0, 1) := by decide +kernel
theorem dX12_behindSum_228 : decode cX12_behindSum 228 = .ok (.invokevirtual 290, 3) := by decide +kernel
theorem dX12_behindSum_231 : decode cX12_behindSum 231 = .ok (.iconst 1, 1) := by decide +kernel
theorem dX12_behindSum_232 : decode cX12_behindSum 232 = .ok (.ireturn, 1) := by decide +kernel
theorem dX12_behindTest_0 : decode cX12_behindTest 0 = .ok (.aload_n 0, 1) := by decide +kernel
theorem dX12_behindTest_1 : decode cX12_behindTest 1 = .ok (.ldc2_w 330, 3) := by decide +kernel
theorem dX12_behindTest_4 : decode cX12_behindTest 4 = .ok (.invokevirtual 261, 3) := by decide +kernel
theorem dX12_behindTest_7 : decode cX12_behindTest 7 = .ok (.istore_n 1, 1) := by decide +kernel
theorem dX12_behindTest_8 : decode cX12_behindTest 8 = .ok (.iload_n 1, 1) := by decide +kernel
theorem dX12_behindTest_9 : decode cX12_behindTest 9 = .ok (.ifCond .ne 13, 3) := by decide +kernel
theorem dX12_behindTest_12 : decode cX12_behindTest 12 = .ok (.aload_n 0, 1) := by decide +kernel
theorem dX12_behindTest_13 : decode cX12_behindTest 13 = .ok (.ldc2_w 332, 3) := by decide +kernel
theorem dX12_behindTest_16 : decode cX12_behindTest 16 = .ok (.invokevirtual 261, 3) := by decide +kernel
theorem dX12_behindTest_19 : decode cX12_behindTest 19 = .ok (.ifCond .eq 57, 3) := by decide +kernel
theorem dX12_behindTest_22 : decode cX12_behindTest 22 = .ok (.aload_n 0, 1) := by decide +kernel
theorem dX12_behindTest_23 : decode cX12_behindTest 23 = .ok (.iload_n 1, 1) := by decide +kernel
theorem dX12_behindTest_24 : decode cX12_behindTest 24 = .ok (.ifCond .eq 7, 3) := by decide +kernel
theorem dX12_behindTest_27 : decode cX12_behindTest 27 = .ok (.iconst 2, 1) := by decide +kernel
theorem dX12_behindTest_28 : decode cX12_behindTest 28 = .ok (.goto 4, 3) := by decide +kernel
theorem dX12_behindTest_31 : decode cX12_behindTest 31 = .ok (.iconst 1, 1) := by decide +kernel
theorem dX12_behindTest_32 : decode cX12_behindTest 32 = .ok (.invokevirtual 320, 3) := by decide +kernel
theorem dX12_behindTest_35 : decode cX12_behindTest 35 = .ok (.aload_n 0, 1) := by decide +kernel
theorem dX12_behindTest_36 : decode cX12_behindTest 36 = .ok (.iload_n 1, 1) := by decide +kernel
theorem dX12_behindTest_37 : decode cX12_behindTest 37 = .ok (.ifCond .eq 8, 3) := by decide +kernel
theorem dX12_behindTest_40 : decode cX12_behindTest 40 = .ok (.bipush 28, 2) := by decide +kernel
theorem dX12_behindTest_42 : decode cX12_behindTest 42 = .ok (.goto 5, 3) := by decide +kernel
theorem dX12_behindTest_45 : decode cX12_behindTest 45 = .ok (.bipush 29, 2) := by decide +kernel
theorem dX12_behindTest_47 : decode cX12_behindTest 47 = .ok (.aload_n 0, 1) := by decide +kernel
theorem dX12_behindTest_48 : decode cX12_behindTest 48 = .ok (.getfield 239, 3) := by decide +kernel
theorem dX12_behindTest_51 : decode cX12_behindTest 51 = .ok (.invokevirtual 290, 3) := by decide +kernel
theorem dX12_behindTest_54 : decode cX12_behindTest 54 = .ok (.aload_n 0, 1) := by decide +kernel
theorem dX12_behindTest_55 : decode cX12_behindTest 55 = .ok (.iload_n 1, 1) := by decide +kernel
theorem dX12_behindTest_56 : decode cX12_behindTest 56 = .ok (.ifCond .eq 8, 3) := by decide +kernel
theorem dX12_behindTest_59 : decode cX12_behindTest 59 = .ok (.bipush 28, 2) := by decide +kernel
theorem dX12_behindTest_61 : decode cX12_behindTest 61 = .ok (.goto 5, 3) := by decide +kernel
theorem dX12_behindTest_64 : decode cX12_behindTest 64 = .ok (.bipush 29, 2) := by decide +kernel
theorem dX12_behindTest_66 : decode cX12_behindTest 66 = .ok (.iconst 0, 1) := by decide +kernel
theorem dX12_behindTest_67 : decode cX12_behindTest 67 = .ok (.invokevirtual 248, 3) := by decide +kernel
theorem dX12_behindTest_70 : decode cX12_behindTest 70 = .ok (.aload_n 0, 1) := by decide +kernel
theorem dX12_behindTest_71 : decode cX12_behindTest 71 = .ok (.invokevirtual 206, 3) := by decide +kernel
theorem dX12_behindTest_74 : decode cX12_behindTest 74 = .ok (.iconst 0, 1) := by decide +kernel
theorem dX12_behindTest_75 : decode cX12_behindTest 75 = .ok (.ireturn, 1) := by decide +kernel
theorem dX12_behindTest_76 : decode cX12_behindTest 76 = .ok (.aload_n 0, 1) := by decide +kernel
theorem dX12_behindTest_77 : decode cX12_behindTest 77 = .ok (.invokevirtual 323, 3) := by decide +kernel
theorem dX12_behindTest_80 : decode cX12_behindTest 80 = .ok (.iconst (-1), 1) := by decide +kernel
theorem dX12_behindTest_81 : decode cX12_behindTest 81 = .ok (.if_icmp .ne 5, 3) := by decide +kernel
theorem dX12_behindTest_84 : decode cX12_behindTest 84 = .ok (.iconst 4, 1) := by decide +kernel
theorem dX12_behindTest_85 : decode cX12_behindTest 85 = .ok (.ireturn, 1) := by decide +kernel
theorem dX12_behindTest_86 : decode cX12_behindTest 86 = .ok (.aload_n 0, 1) := by decide +kernel
theorem dX12_behindTest_87 : decode cX12_behindTest 87 = .ok (.aload_n 0, 1) := by decide +kernel
theorem dX12_behindTest_88 : decode cX12_behindTest 88 = .ok (.bipush 41, 2) := by decide +kernel
theorem dX12_behindTest_90 : decode cX12_behindTest 90 = .ok (.invokevirtual 296, 3) := by decide +kernel
theorem dX12_behindTest_93 : decode cX12_behindTest 93 = .ok (.invokevirtual 235, 3) := by decide +kernel
theorem dX12_behindTest_96 : decode cX12_behindTest 96 = .ok (.aload_n 0, 1) := by decide +kernel
theorem dX12_behindTest_97 : decode cX12_behindTest 97 = .ok (.getfield 202, 3) := by decide +kernel
theorem dX12_behindTest_100 : decode cX12_behindTest 100 = .ok (.ifCond .ne 28, 3) := by decide +kernel
theorem dX12_behindTest_103 : decode cX12_behindTest 103 = .ok (.aload_n 0, 1) := by decide +kernel
theorem dX12_behindTest_104 : decode cX12_behindTest 104 = .ok (.iconst 1, 1) := by decide +kernel
theorem dX12_behindTest_105 : decode cX12_behindTest 105 = .ok (.invokevirtual 320, 3) := by decide +kernel
theorem dX12_behindTest_108 : decode cX12_behindTest 108 = .ok (.aload_n 0, 1) := by decide +kernel
theorem dX12_behindTest_109 : decode cX12_behindTest 109 = .ok (.dup, 1) := by decide +kernel
theorem dX12_behindTest_110 : decode cX12_behindTest 110 = .ok (.getfield 242, 3) := by decide +kernel
theorem dX12_behindTest_113 : decode cX12_behindTest 113 = .ok (.iconst 1, 1) := by decide +kernel
theorem dX12_behindTest_114 : decode cX12_behindTest 114 = .ok (.isub, 1) := by decide +kernel
theorem dX12_behindTest_115 : decode cX12_behindTest 115 = .ok (.putfield 242, 3) := by decide +kernel
theorem dX12_behindTest_118 : decode cX12_behindTest 118 = .ok (.aload_n 0, 1) := by decide +kernel
theorem dX12_behindTest_119 : decode cX12_behindTest 119 = .ok (.dup, 1) := by decide +kernel
theorem dX12_behindTest_120 : decode cX12_behindTest 120 = .ok (.getfield 287, 3) := by decide +kernel
theorem dX12_behindTest_123 : decode cX12_behindTest 123 = .ok (.iconst 1, 1) := by decide +kernel
theorem dX12_behindTest_124 : decode cX12_behindTest 124 = .ok (.isub, 1) := by decide +kernel
theorem dX12_behindTest_125 : decode cX12_behindTest 125 = .ok (.putfield 287, 3) := by decide +kernel
theorem dX12_behindTest_128 : decode cX12_behindTest 128 = .ok (.iconst 2, 1) := by decide +kernel
theorem dX12_behindTest_129 : decode cX12_behindTest 129 = .ok (.ireturn, 1) := by decide +kernel
theorem dX12_beside_0 : decode cX12_beside 0 = .ok (.aload_n 0, 1) := by decide +kernel
theorem dX12_beside_1 : decode cX12_beside 1 = .ok (.iconst 0, 1) := by decide +kernel
theorem dX12_beside_2 : decode cX12_beside 2 = .ok (.putfield 92, 3) := by decide +kernel
theorem dX12_beside_5 : decode cX12_beside 5 = .ok (.iload_n 1, 1) := by decide +kernel
theorem dX12_beside_6 : decode cX12_beside 6 = .ok (.invokestatic 127, 3) := by decide +kernel
theorem dX12_beside_9 : decode cX12_beside 9 = .ok (.ifCond .eq 21, 3) := by decide +kernel
theorem dX12_beside_12 : decode cX12_beside 12 = .ok (.iload_n 2, 1) := by decide +kernel
theorem dX12_beside_13 : decode cX12_beside 13 = .ok (.invokestatic 127, 3) := by decide +kernel
theorem dX12_beside_16 : decode cX12_beside 16 = .ok (.ifCond .eq 14, 3) := by decide +kernel
theorem dX12_beside_19 : decode cX12_beside 19 = .ok (.aload_n 0, 1) := by decide +kernel
theorem dX12_beside_20 : decode cX12_beside 20 = .ok (.getfield 7, 3) := by decide +kernel
theorem dX12_beside_23 : decode cX12_beside 23 = .ok (.iconst 4, 1) := by decide +kernel
theorem dX12_beside_24 : decode cX12_beside 24 = .ok (.iaload, 1) := by decide +kernel
theorem dX12_beside_25 : decode cX12_beside 25 = .ok (.bipush 20, 2) := by decide +kernel
theorem dX12_beside_27 : decode cX12_beside 27 = .ok (.if_icmp .ne 10, 3) := by decide +kernel
theorem dX12_beside_30 : decode cX12_beside 30 = .ok (.aload_n 0, 1) := by decide +kernel
theorem dX12_beside_31 : decode cX12_beside 31 = .ok (.iconst 0, 1) := by decide +kernel
theorem dX12_beside_32 : decode cX12_beside 32 = .ok (.putfield 193, 3) := by decide +kernel
theorem dX12_beside_35 : decode cX12_beside 35 = .ok (.iconst (-1), 1) := by decide +kernel
theorem dX12_beside_36 : decode cX12_beside 36 = .ok (.ireturn, 1) := by decide +kernel
theorem dX12_beside_37 : decode cX12_beside 37 = .ok (.aload_n 0, 1) := by decide +kernel
theorem dX12_beside_38 : decode cX12_beside 38 = .ok (.iload_n 1, 1) := by decide +kernel
theorem dX12_beside_39 : decode cX12_beside 39 = .ok (.invokevirtual 406, 3) := by decide +kernel
theorem dX12_beside_42 : decode cX12_beside 42 = .ok (.istore_n 3, 1) := by decide +kernel
theorem dX12_beside_43 : decode cX12_beside 43 = .ok (.aload_n 0, 1) := by decide +kernel
theorem dX12_beside_44 : decode cX12_beside 44 = .ok (.iconst 0, 1) := by decide +kernel
theorem dX12_beside_45 : decode cX12_beside 45 = .ok (.putfield 193, 3) := by decide +kernel
theorem dX12_beside_48 : decode cX12_beside 48 = .ok (.iload_n 3, 1) := by decide +kernel
theorem dX12_beside_49 : decode cX12_beside 49 = .ok (.ifCond .ne 5, 3) := by decide +kernel
theorem dX12_beside_52 : decode cX12_beside 52 = .ok (.iconst (-1), 1) := by decide +kernel
theorem dX12_beside_53 : decode cX12_beside 53 = .ok (.ireturn, 1) := by decide +kernel
theorem dX12_beside_54 : decode cX12_beside 54 = .ok (.aload_n 0, 1) := by decide +kernel
theorem dX12_beside_55 : decode cX12_beside 55 = .ok (.getfield 7, 3) := by decide +kernel
theorem dX12_beside_58 : decode cX12_beside 58 = .ok (.iconst 4, 1) := by decide +kernel
theorem dX12_beside_59 : decode cX12_beside 59 = .ok (.dup2, 1) := by decide +kernel
theorem dX12_beside_60 : decode cX12_beside 60 = .ok (.iaload, 1) := by decide +kernel
theorem dX12_beside_61 : decode cX12_beside 61 = .ok (.iconst 1, 1) := by decide +kernel
theorem dX12_beside_62 : decode cX12_beside 62 = .ok (.isub, 1) := by decide +kernel
theorem dX12_beside_63 : decode cX12_beside 63 = .ok (.iastore, 1) := by decide +kernel
theorem dX12_beside_64 : decode cX12_beside 64 = .ok (.aload_n 0, 1) := by decide +kernel
theorem dX12_beside_65 : decode cX12_beside 65 = .ok (.iload_n 2, 1) := by decide +kernel
theorem dX12_beside_66 : decode cX12_beside 66 = .ok (.invokevirtual 186, 3) := by decide +kernel
theorem dX12_beside_69 : decode cX12_beside 69 = .ok (.iconst 0, 1) := by decide +kernel
theorem dX12_beside_70 : decode cX12_beside 70 = .ok (.istore 4, 2) := by decide +kernel
theorem dX12_beside_72 : decode cX12_beside 72 = .ok (.iload 4, 2) := by decide +kernel
theorem dX12_beside_74 : decode cX12_beside 74 = .ok (.aload_n 0, 1) := by decide +kernel
theorem dX12_beside_75 : decode cX12_beside 75 = .ok (.getfield 7, 3) := by decide +kernel
theorem dX12_beside_78 : decode cX12_beside 78 = .ok (.iconst 3, 1) := by decide +kernel
theorem dX12_beside_79 : decode cX12_beside 79 = .ok (.iaload, 1) := by decide +kernel
theorem dX12_beside_80 : decode cX12_beside 80 = .ok (.if_icmp .ge 23, 3) := by decide +kernel
theorem dX12_beside_83 : decode cX12_beside 83 = .ok (.aload_n 0, 1) := by decide +kernel
theorem dX12_beside_84 : decode cX12_beside 84 = .ok (.getfield 89, 3) := by decide +kernel
theorem dX12_beside_87 : decode cX12_beside 87 = .ok (.iload 4, 2) := by decide +kernel
theorem dX12_beside_89 : decode cX12_beside 89 = .ok (.aload_n 0, 1) := by decide +kernel
theorem dX12_beside_90 : decode cX12_beside 90 = .ok (.getfield 27, 3) := by decide +kernel
theorem dX12_beside_93 : decode cX12_beside 93 = .ok (.iload 4, 2) := by decide +kernel
theorem dX12_beside_95 : decode cX12_beside 95 = .ok (.iaload, 1) := by decide +kernel
theorem dX12_beside_96 : decode cX12_beside 96 = .ok (.iastore, 1) := by decide +kernel
theorem dX12_beside_97 : decode cX12_beside 97 = .ok (.iinc 4 1, 3) := by decide +kernel
theorem dX12_beside_100 : decode cX12_beside 100 = .ok (.goto (-28), 3) := by decide +kernel
theorem dX12_beside_103 : decode cX12_beside 103 = .ok (.aload_n 0, 1) := by decide +kernel
theorem dX12_beside_104 : decode cX12_beside 104 = .ok (.getfield 7, 3) := by decide +kernel
theorem dX12_beside_107 : decode cX12_beside 107 = .ok (.iconst 4, 1) := by decide +kernel
theorem dX12_beside_108 : decode cX12_beside 108 = .ok (.dup2, 1) := by decide +kernel
theorem dX12_beside_109 : decode cX12_beside 109 = .ok (.iaload, 1) := by decide +kernel
theorem dX12_beside_110 : decode cX12_beside 110 = .ok (.iconst 1, 1) := by decide +kernel
theorem dX12_beside_111 : decode cX12_beside 111 = .ok (.iadd, 1) := by decide +kernel
theorem dX12_beside_112 : decode cX12_beside 112 = .ok (.iastore, 1) := by decide +kernel
theorem dX12_beside_113 : decode cX12_beside 113 = .ok (.aload_n 0, 1) := by decide +kernel
theorem dX12_beside_114 : decode cX12_beside 114 = .ok (.iload_n 2, 1) := by decide +kernel
theorem dX12_beside_115 : decode cX12_beside 115 = .ok (.invokevirtual 186, 3) := by decide +kernel
theorem dX12_beside_118 : decode cX12_beside 118 = .ok (.iconst 0, 1) := by decide +kernel
theorem dX12_beside_119 : decode cX12_beside 119 = .ok (.istore 4, 2) := by decide +kernel
theorem dX12_beside_121 : decode cX12_beside 121 = .ok (.iconst 0, 1) := by decide +kernel
theorem dX12_beside_122 : decode cX12_beside 122 = .ok (.istore 5, 2) := by decide +kernel
theorem dX12_beside_124 : decode cX12_beside 124 = .ok (.iload 5, 2) := by decide +kernel
theorem dX12_beside_126 : decode cX12_beside 126 = .ok (.aload_n 0, 1) := by decide +kernel
theorem dX12_beside_127 : decode cX12_beside 127 = .ok (.getfield 7, 3) := by decide +kernel
theorem dX12_beside_130 : decode cX12_beside 130 = .ok (.iconst 3, 1) := by decide +kernel
theorem dX12_beside_131 : decode cX12_beside 131 = .ok (.iaload, 1) := by decide +kernel
theorem dX12_beside_132 : decode cX12_beside 132 = .ok (.if_icmp .ge 46, 3) := by decide +kernel
theorem dX12_beside_135 : decode cX12_beside 135 = .ok (.iload 4, 2) := by decide +kernel
theorem dX12_beside_137 : decode cX12_beside 137 = .ok (.aload_n 0, 1) := by decide +kernel
theorem dX12_beside_138 : decode cX12_beside 138 = .ok (.getfield 21, 3) := by decide +kernel
theorem dX12_beside_141 : decode cX12_beside 141 = .ok (.iload 5, 2) := by decide +kernel
theorem dX12_beside_143 : decode cX12_beside 143 = .ok (.baload, 1) := by decide +kernel
theorem dX12_beside_144 : decode cX12_beside 144 = .ok (.ifCond .eq 24, 3) := by decide +kernel
theorem dX12_beside_147 : decode cX12_beside 147 = .ok (.aload_n 0, 1) := by decide +kernel
theorem dX12_beside_148 : decode cX12_beside 148 = .ok (.getfield 27, 3) := by decide +kernel
theorem dX12_beside_151 : decode cX12_beside 151 = .ok (.iload 5, 2) := by decide +kernel
theorem dX12_beside_153 : decode cX12_beside 153 = .ok (.iaload, 1) := by decide +kernel
theorem dX12_beside_154 : decode cX12_beside 154 = .ok (.aload_n 0, 1) := by decide +kernel
theorem dX12_beside_155 : decode cX12_beside 155 = .ok (.getfield 89, 3) := by decide +kernel
theorem dX12_beside_158 : decode cX12_beside 158 = .ok (.iload 5, 2) := by decide +kernel
theorem dX12_beside_160 : decode cX12_beside 160 = .ok (.iaload, 1) := by decide +kernel
theorem dX12_beside_161 : decode cX12_beside 161 = .ok (.if_icmp .eq 7, 3) := by decide +kernel
theorem dX12_beside_164 : decode cX12_beside 164 = .ok (.iconst 1, 1) := by decide +kernel
theorem dX12_beside_165 : decode cX12_beside 165 = .ok (.goto 4, 3) := by decide +kernel
theorem dX12_beside_168 : decode cX12_beside 168 = .ok (.iconst 0, 1) := by decide +kernel
theorem dX12_beside_169 : decode cX12_beside 169 = .ok (.iadd, 1) := by decide +kernel
theorem dX12_beside_170 : decode cX12_beside 170 = .ok (.istore 4, 2) := by decide +kernel
theorem dX12_beside_172 : decode cX12_beside 172 = .ok (.iinc 5 1, 3) := by decide +kernel
theorem dX12_beside_175 : decode cX12_beside 175 = .ok (.goto (-51), 3) := by decide +kernel
theorem dX12_beside_178 : decode cX12_beside 178 = .ok (.aload_n 0, 1) := by decide +kernel
theorem dX12_beside_179 : decode cX12_beside 179 = .ok (.getfield 7, 3) := by decide +kernel
theorem dX12_beside_182 : decode cX12_beside 182 = .ok (.iconst 4, 1) := by decide +kernel
theorem dX12_beside_183 : decode cX12_beside 183 = .ok (.dup2, 1) := by decide +kernel
theorem dX12_beside_184 : decode cX12_beside 184 = .ok (.iaload, 1) := by decide +kernel
theorem dX12_beside_185 : decode cX12_beside 185 = .ok (.iconst 1, 1) := by decide +kernel
theorem dX12_beside_186 : decode cX12_beside 186 = .ok (.isub, 1) := by decide +kernel
theorem dX12_beside_187 : decode cX12_beside 187 = .ok (.iastore, 1) := by decide +kernel
theorem dX12_beside_188 : decode cX12_beside 188 = .ok (.iload 4, 2) := by decide +kernel
theorem dX12_beside_190 : decode cX12_beside 190 = .ok (.ireturn, 1) := by decide +kernel
theorem dX12_binds_0 : decode cX12_binds 0 = .ok (.iload_n 0, 1) := by decide +kernel
theorem dX12_binds_1 : decode cX12_binds 1 = .ok (.bipush 30, 2) := by decide +kernel
theorem dX12_binds_3 : decode cX12_binds 3 = .ok (.if_icmp .lt 7, 3) := by decide +kernel
theorem dX12_binds_6 : decode cX12_binds 6 = .ok (.iconst 0, 1) := by decide +kernel
theorem dX12_binds_7 : decode cX12_binds 7 = .ok (.goto 55, 3) := by decide +kernel
theorem dX12_binds_10 : decode cX12_binds 10 = .ok (.iload_n 0, 1) := by decide +kernel
theorem dX12_binds_11 : decode cX12_binds 11 = .ok (.bipush 29, 2) := by decide +kernel
theorem dX12_binds_13 : decode cX12_binds 13 = .ok (.if_icmp .ne 7, 3) := by decide +kernel
theorem dX12_binds_16 : decode cX12_binds 16 = .ok (.iconst 1, 1) := by decide +kernel
theorem dX12_binds_17 : decode cX12_binds 17 = .ok (.goto 45, 3) := by decide +kernel
theorem dX12_binds_20 : decode cX12_binds 20 = .ok (.iload_n 0, 1) := by decide +kernel
theorem dX12_binds_21 : decode cX12_binds 21 = .ok (.bipush 28, 2) := by decide +kernel
theorem dX12_binds_23 : decode cX12_binds 23 = .ok (.if_icmp .ne 7, 3) := by decide +kernel
theorem dX12_binds_26 : decode cX12_binds 26 = .ok (.iconst 2, 1) := by decide +kernel
theorem dX12_binds_27 : decode cX12_binds 27 = .ok (.goto 35, 3) := by decide +kernel
theorem dX12_binds_30 : decode cX12_binds 30 = .ok (.iload_n 0, 1) := by decide +kernel
theorem dX12_binds_31 : decode cX12_binds 31 = .ok (.bipush 27, 2) := by decide +kernel
theorem dX12_binds_33 : decode cX12_binds 33 = .ok (.if_icmp .ne 7, 3) := by decide +kernel
theorem dX12_binds_36 : decode cX12_binds 36 = .ok (.iconst 3, 1) := by decide +kernel
theorem dX12_binds_37 : decode cX12_binds 37 = .ok (.goto 25, 3) := by decide +kernel
theorem dX12_binds_40 : decode cX12_binds 40 = .ok (.iload_n 0, 1) := by decide +kernel
theorem dX12_binds_41 : decode cX12_binds 41 = .ok (.bipush 24, 2) := by decide +kernel
theorem dX12_binds_43 : decode cX12_binds 43 = .ok (.if_icmp .lt 7, 3) := by decide +kernel
theorem dX12_binds_46 : decode cX12_binds 46 = .ok (.iconst 4, 1) := by decide +kernel
theorem dX12_binds_47 : decode cX12_binds 47 = .ok (.goto 15, 3) := by decide +kernel
theorem dX12_binds_50 : decode cX12_binds 50 = .ok (.iload_n 0, 1) := by decide +kernel
theorem dX12_binds_51 : decode cX12_binds 51 = .ok (.bipush 22, 2) := by decide +kernel
theorem dX12_binds_53 : decode cX12_binds 53 = .ok (.if_icmp .lt 8, 3) := by decide +kernel
theorem dX12_binds_56 : decode cX12_binds 56 = .ok (.bipush 6, 2) := by decide +kernel
theorem dX12_binds_58 : decode cX12_binds 58 = .ok (.goto 4, 3) := by decide +kernel
theorem dX12_binds_61 : decode cX12_binds 61 = .ok (.iconst 5, 1) := by decide +kernel
theorem dX12_binds_62 : decode cX12_binds 62 = .ok (.ireturn, 1) := by decide +kernel
theorem dX12_emit_0 : decode cX12_emit 0 = .ok (.aload_n 0, 1) := by decide +kernel
theorem dX12_emit_1 : decode cX12_emit 1 = .ok (.getfield 43, 3) := by decide +kernel
theorem dX12_emit_4 : decode cX12_emit 4 = .ok (.aload_n 0, 1) := by decide +kernel
theorem dX12_emit_5 : decode cX12_emit 5 = .ok (.getfield 239, 3) := by decide +kernel
theorem dX12_emit_8 : decode cX12_emit 8 = .ok (.iload_n 1, 1) := by decide +kernel
theorem dX12_emit_9 : decode cX12_emit 9 = .ok (.iastore, 1) := by decide +kernel
theorem dX12_emit_10 : decode cX12_emit 10 = .ok (.aload_n 0, 1) := by decide +kernel
theorem dX12_emit_11 : decode cX12_emit 11 = .ok (.getfield 46, 3) := by decide +kernel
theorem dX12_emit_14 : decode cX12_emit 14 = .ok (.aload_n 0, 1) := by decide +kernel
theorem dX12_emit_15 : decode cX12_emit 15 = .ok (.getfield 239, 3) := by decide +kernel
theorem dX12_emit_18 : decode cX12_emit 18 = .ok (.iload_n 2, 1) := by decide +kernel
theorem dX12_emit_19 : decode cX12_emit 19 = .ok (.iastore, 1) := by decide +kernel
theorem dX12_emit_20 : decode cX12_emit 20 = .ok (.aload_n 0, 1) := by decide +kernel
theorem dX12_emit_21 : decode cX12_emit 21 = .ok (.dup, 1) := by decide +kernel
theorem dX12_emit_22 : decode cX12_emit 22 = .ok (.getfield 239, 3) := by decide +kernel
theorem dX12_emit_25 : decode cX12_emit 25 = .ok (.iconst 1, 1) := by decide +kernel
theorem dX12_emit_26 : decode cX12_emit 26 = .ok (.iadd, 1) := by decide +kernel
theorem dX12_emit_27 : decode cX12_emit 27 = .ok (.putfield 239, 3) := by decide +kernel
theorem dX12_emit_30 : decode cX12_emit 30 = .ok (.return_, 1) := by decide +kernel
theorem dX12_headAt_0 : decode cX12_headAt 0 = .ok (.aload_n 0, 1) := by decide +kernel
theorem dX12_headAt_1 : decode cX12_headAt 1 = .ok (.ldc2_w 344, 3) := by decide +kernel
theorem dX12_headAt_4 : decode cX12_headAt 4 = .ok (.invokevirtual 261, 3) := by decide +kernel
theorem dX12_headAt_7 : decode cX12_headAt 7 = .ok (.ifCond .ne 23, 3) := by decide +kernel
theorem dX12_headAt_10 : decode cX12_headAt 10 = .ok (.aload_n 0, 1) := by decide +kernel
theorem dX12_headAt_11 : decode cX12_headAt 11 = .ok (.ldc2_w 346, 3) := by decide +kernel
theorem dX12_headAt_14 : decode cX12_headAt 14 = .ok (.invokevirtual 261, 3) := by decide +kernel
theorem dX12_headAt_17 : decode cX12_headAt 17 = .ok (.ifCond .ne 13, 3) := by decide +kernel
theorem dX12_headAt_20 : decode cX12_headAt 20 = .ok (.aload_n 0, 1) := by decide +kernel
theorem dX12_headAt_21 : decode cX12_headAt 21 = .ok (.ldc2_w 348, 3) := by decide +kernel
theorem dX12_headAt_24 : decode cX12_headAt 24 = .ok (.invokevirtual 261, 3) := by decide +kernel
theorem dX12_headAt_27 : decode cX12_headAt 27 = .ok (.ifCond .eq 33, 3) := by decide +kernel
theorem dX12_headAt_30 : decode cX12_headAt 30 = .ok (.aload_n 0, 1) := by decide +kernel
theorem dX12_headAt_31 : decode cX12_headAt 31 = .ok (.ldc2_w 344, 3) := by decide +kernel
theorem dX12_headAt_34 : decode cX12_headAt 34 = .ok (.invokevirtual 261, 3) := by decide +kernel
theorem dX12_headAt_37 : decode cX12_headAt 37 = .ok (.ifCond .eq 7, 3) := by decide +kernel
theorem dX12_headAt_40 : decode cX12_headAt 40 = .ok (.iconst 0, 1) := by decide +kernel
theorem dX12_headAt_41 : decode cX12_headAt 41 = .ok (.goto 18, 3) := by decide +kernel
theorem dX12_headAt_44 : decode cX12_headAt 44 = .ok (.aload_n 0, 1) := by decide +kernel
theorem dX12_headAt_45 : decode cX12_headAt 45 = .ok (.ldc2_w 346, 3) := by decide +kernel
theorem dX12_headAt_48 : decode cX12_headAt 48 = .ok (.invokevirtual 261, 3) := by decide +kernel
theorem dX12_headAt_51 : decode cX12_headAt 51 = .ok (.ifCond .eq 7, 3) := by decide +kernel
theorem dX12_headAt_54 : decode cX12_headAt 54 = .ok (.iconst 1, 1) := by decide +kernel
theorem dX12_headAt_55 : decode cX12_headAt 55 = .ok (.goto 4, 3) := by decide +kernel
theorem dX12_headAt_58 : decode cX12_headAt 58 = .ok (.iconst 2, 1) := by decide +kernel
theorem dX12_headAt_59 : decode cX12_headAt 59 = .ok (.ireturn, 1) := by decide +kernel
theorem dX12_headAt_60 : decode cX12_headAt 60 = .ok (.aload_n 0, 1) := by decide +kernel
theorem dX12_headAt_61 : decode cX12_headAt 61 = .ok (.ldc2_w 350, 3) := by decide +kernel
theorem dX12_headAt_64 : decode cX12_headAt 64 = .ok (.invokevirtual 261, 3) := by decide +kernel
theorem dX12_headAt_67 : decode cX12_headAt 67 = .ok (.ifCond .eq 7, 3) := by decide +kernel
theorem dX12_headAt_70 : decode cX12_headAt 70 = .ok (.iconst 3, 1) := by decide +kernel
theorem dX12_headAt_71 : decode cX12_headAt 71 = .ok (.goto 32, 3) := by decide +kernel
theorem dX12_headAt_74 : decode cX12_headAt 74 = .ok (.aload_n 0, 1) := by decide +kernel
theorem dX12_headAt_75 : decode cX12_headAt 75 = .ok (.ldc2_w 352, 3) := by decide +kernel
theorem dX12_headAt_78 : decode cX12_headAt 78 = .ok (.invokevirtual 261, 3) := by decide +kernel
theorem dX12_headAt_81 : decode cX12_headAt 81 = .ok (.ifCond .eq 7, 3) := by decide +kernel
theorem dX12_headAt_84 : decode cX12_headAt 84 = .ok (.iconst 4, 1) := by decide +kernel
theorem dX12_headAt_85 : decode cX12_headAt 85 = .ok (.goto 18, 3) := by decide +kernel
theorem dX12_headAt_88 : decode cX12_headAt 88 = .ok (.aload_n 0, 1) := by decide +kernel
theorem dX12_headAt_89 : decode cX12_headAt 89 = .ok (.ldc2_w 354, 3) := by decide +kernel
theorem dX12_headAt_92 : decode cX12_headAt 92 = .ok (.invokevirtual 261, 3) := by decide +kernel
theorem dX12_headAt_95 : decode cX12_headAt 95 = .ok (.ifCond .eq 7, 3) := by decide +kernel
theorem dX12_headAt_98 : decode cX12_headAt 98 = .ok (.iconst 5, 1) := by decide +kernel
theorem dX12_headAt_99 : decode cX12_headAt 99 = .ok (.goto 4, 3) := by decide +kernel
theorem dX12_headAt_102 : decode cX12_headAt 102 = .ok (.iconst (-1), 1) := by decide +kernel
theorem dX12_headAt_103 : decode cX12_headAt 103 = .ok (.ireturn, 1) := by decide +kernel
theorem dX12_inner_0 : decode cX12_inner 0 = .ok (.iconst (-1), 1) := by decide +kernel
theorem dX12_inner_1 : decode cX12_inner 1 = .ok (.istore_n 1, 1) := by decide +kernel
theorem dX12_inner_2 : decode cX12_inner 2 = .ok (.iconst 0, 1) := by decide +kernel
theorem dX12_inner_3 : decode cX12_inner 3 = .ok (.istore_n 2, 1) := by decide +kernel
theorem dX12_inner_4 : decode cX12_inner 4 = .ok (.iload_n 2, 1) := by decide +kernel
theorem dX12_inner_5 : decode cX12_inner 5 = .ok (.aload_n 0, 1) := by decide +kernel
theorem dX12_inner_6 : decode cX12_inner 6 = .ok (.getfield 242, 3) := by decide +kernel
theorem dX12_inner_9 : decode cX12_inner 9 = .ok (.if_icmp .ge 31, 3) := by decide +kernel
theorem dX12_inner_12 : decode cX12_inner 12 = .ok (.aload_n 0, 1) := by decide +kernel
theorem dX12_inner_13 : decode cX12_inner 13 = .ok (.getfield 49, 3) := by decide +kernel
theorem dX12_inner_16 : decode cX12_inner 16 = .ok (.iload_n 2, 1) := by decide +kernel
theorem dX12_inner_17 : decode cX12_inner 17 = .ok (.iaload, 1) := by decide +kernel
theorem dX12_inner_18 : decode cX12_inner 18 = .ok (.bipush 30, 2) := by decide +kernel
theorem dX12_inner_20 : decode cX12_inner 20 = .ok (.if_icmp .lt 12, 3) := by decide +kernel
theorem dX12_inner_23 : decode cX12_inner 23 = .ok (.aload_n 0, 1) := by decide +kernel
theorem dX12_inner_24 : decode cX12_inner 24 = .ok (.getfield 49, 3) := by decide +kernel
theorem dX12_inner_27 : decode cX12_inner 27 = .ok (.iload_n 2, 1) := by decide +kernel
theorem dX12_inner_28 : decode cX12_inner 28 = .ok (.iaload, 1) := by decide +kernel
theorem dX12_inner_29 : decode cX12_inner 29 = .ok (.goto 4, 3) := by decide +kernel
theorem dX12_inner_32 : decode cX12_inner 32 = .ok (.iload_n 1, 1) := by decide +kernel
theorem dX12_inner_33 : decode cX12_inner 33 = .ok (.istore_n 1, 1) := by decide +kernel
theorem dX12_inner_34 : decode cX12_inner 34 = .ok (.iinc 2 1, 3) := by decide +kernel
theorem dX12_inner_37 : decode cX12_inner 37 = .ok (.goto (-33), 3) := by decide +kernel
theorem dX12_inner_40 : decode cX12_inner 40 = .ok (.iload_n 1, 1) := by decide +kernel
theorem dX12_inner_41 : decode cX12_inner 41 = .ok (.ireturn, 1) := by decide +kernel
theorem dX12_isCompared_0 : decode cX12_isCompared 0 = .ok (.aload_n 0, 1) := by decide +kernel
theorem dX12_isCompared_1 : decode cX12_isCompared 1 = .ok (.getfield 242, 3) := by decide +kernel
theorem dX12_isCompared_4 : decode cX12_isCompared 4 = .ok (.iconst 1, 1) := by decide +kernel
theorem dX12_isCompared_5 : decode cX12_isCompared 5 = .ok (.isub, 1) := by decide +kernel
theorem dX12_isCompared_6 : decode cX12_isCompared 6 = .ok (.istore_n 1, 1) := by decide +kernel
theorem dX12_isCompared_7 : decode cX12_isCompared 7 = .ok (.iload_n 1, 1) := by decide +kernel
theorem dX12_isCompared_8 : decode cX12_isCompared 8 = .ok (.ifCond .lt 28, 3) := by decide +kernel
theorem dX12_isCompared_11 : decode cX12_isCompared 11 = .ok (.aload_n 0, 1) := by decide +kernel
theorem dX12_isCompared_12 : decode cX12_isCompared 12 = .ok (.getfield 49, 3) := by decide +kernel
theorem dX12_isCompared_15 : decode cX12_isCompared 15 = .ok (.iload_n 1, 1) := by decide +kernel
theorem dX12_isCompared_16 : decode cX12_isCompared 16 = .ok (.iaload, 1) := by decide +kernel
theorem dX12_isCompared_17 : decode cX12_isCompared 17 = .ok (.i2l, 1) := by decide +kernel
theorem dX12_isCompared_18 : decode cX12_isCompared 18 = .ok (.ldc2_w 251, 3) := by decide +kernel
theorem dX12_isCompared_21 : decode cX12_isCompared 21 = .ok (.ldc2_w 253, 3) := by decide +kernel
theorem dX12_isCompared_24 : decode cX12_isCompared 24 = .ok (.invokestatic 100, 3) := by decide +kernel
theorem dX12_isCompared_27 : decode cX12_isCompared 27 = .ok (.ifCond .eq 9, 3) := by decide +kernel
theorem dX12_isCompared_30 : decode cX12_isCompared 30 = .ok (.iinc 1 (-1), 3) := by decide +kernel
theorem dX12_isCompared_33 : decode cX12_isCompared 33 = .ok (.goto (-26), 3) := by decide +kernel
theorem dX12_isCompared_36 : decode cX12_isCompared 36 = .ok (.iload_n 1, 1) := by decide +kernel
theorem dX12_isCompared_37 : decode cX12_isCompared 37 = .ok (.ifCond .lt 26, 3) := by decide +kernel
theorem dX12_isCompared_40 : decode cX12_isCompared 40 = .ok (.aload_n 0, 1) := by decide +kernel
theorem dX12_isCompared_41 : decode cX12_isCompared 41 = .ok (.getfield 49, 3) := by decide +kernel
theorem dX12_isCompared_44 : decode cX12_isCompared 44 = .ok (.iload_n 1, 1) := by decide +kernel
theorem dX12_isCompared_45 : decode cX12_isCompared 45 = .ok (.iaload, 1) := by decide +kernel
theorem dX12_isCompared_46 : decode cX12_isCompared 46 = .ok (.i2l, 1) := by decide +kernel
theorem dX12_isCompared_47 : decode cX12_isCompared 47 = .ok (.ldc2_w 255, 3) := by decide +kernel
theorem dX12_isCompared_50 : decode cX12_isCompared 50 = .ok (.ldc2_w 257, 3) := by decide +kernel
theorem dX12_isCompared_53 : decode cX12_isCompared 53 = .ok (.invokestatic 100, 3) := by decide +kernel
theorem dX12_isCompared_56 : decode cX12_isCompared 56 = .ok (.ifCond .eq 7, 3) := by decide +kernel
theorem dX12_isCompared_59 : decode cX12_isCompared 59 = .ok (.iconst 1, 1) := by decide +kernel
theorem dX12_isCompared_60 : decode cX12_isCompared 60 = .ok (.goto 4, 3) := by decide +kernel
theorem dX12_isCompared_63 : decode cX12_isCompared 63 = .ok (.iconst 0, 1) := by decide +kernel
theorem dX12_isCompared_64 : decode cX12_isCompared 64 = .ok (.ireturn, 1) := by decide +kernel
theorem dX12_isDigit_0 : decode cX12_isDigit 0 = .ok (.iload_n 0, 1) := by decide +kernel
theorem dX12_isDigit_1 : decode cX12_isDigit 1 = .ok (.bipush 48, 2) := by decide +kernel
theorem dX12_isDigit_3 : decode cX12_isDigit 3 = .ok (.if_icmp .lt 13, 3) := by decide +kernel
theorem dX12_isDigit_6 : decode cX12_isDigit 6 = .ok (.iload_n 0, 1) := by decide +kernel
theorem dX12_isDigit_7 : decode cX12_isDigit 7 = .ok (.bipush 57, 2) := by decide +kernel
theorem dX12_isDigit_9 : decode cX12_isDigit 9 = .ok (.if_icmp .gt 7, 3) := by decide +kernel
theorem dX12_isDigit_12 : decode cX12_isDigit 12 = .ok (.iconst 1, 1) := by decide +kernel
theorem dX12_isDigit_13 : decode cX12_isDigit 13 = .ok (.goto 4, 3) := by decide +kernel
theorem dX12_isDigit_16 : decode cX12_isDigit 16 = .ok (.iconst 0, 1) := by decide +kernel
theorem dX12_isDigit_17 : decode cX12_isDigit 17 = .ok (.ireturn, 1) := by decide +kernel
theorem dX12_isSign_0 : decode cX12_isSign 0 = .ok (.aload_n 0, 1) := by decide +kernel
theorem dX12_isSign_1 : decode cX12_isSign 1 = .ok (.getfield 222, 3) := by decide +kernel
theorem dX12_isSign_4 : decode cX12_isSign 4 = .ok (.iconst 3, 1) := by decide +kernel
theorem dX12_isSign_5 : decode cX12_isSign 5 = .ok (.if_icmp .ne 17, 3) := by decide +kernel
theorem dX12_isSign_8 : decode cX12_isSign 8 = .ok (.aload_n 0, 1) := by decide +kernel
theorem dX12_isSign_9 : decode cX12_isSign 9 = .ok (.getfield 212, 3) := by decide +kernel
theorem dX12_isSign_12 : decode cX12_isSign 12 = .ok (.iload_n 1, 1) := by decide +kernel
theorem dX12_isSign_13 : decode cX12_isSign 13 = .ok (.i2l, 1) := by decide +kernel
theorem dX12_isSign_14 : decode cX12_isSign 14 = .ok (.lcmp, 1) := by decide +kernel
theorem dX12_isSign_15 : decode cX12_isSign 15 = .ok (.ifCond .ne 7, 3) := by decide +kernel
theorem dX12_isSign_18 : decode cX12_isSign 18 = .ok (.iconst 1, 1) := by decide +kernel
theorem dX12_isSign_19 : decode cX12_isSign 19 = .ok (.goto 4, 3) := by decide +kernel
theorem dX12_isSign_22 : decode cX12_isSign 22 = .ok (.iconst 0, 1) := by decide +kernel
theorem dX12_isSign_23 : decode cX12_isSign 23 = .ok (.ireturn, 1) := by decide +kernel
theorem dX12_isSmall_0 : decode cX12_isSmall 0 = .ok (.iload_n 0, 1) := by decide +kernel
theorem dX12_isSmall_1 : decode cX12_isSmall 1 = .ok (.bipush 97, 2) := by decide +kernel
theorem dX12_isSmall_3 : decode cX12_isSmall 3 = .ok (.if_icmp .lt 13, 3) := by decide +kernel
theorem dX12_isSmall_6 : decode cX12_isSmall 6 = .ok (.iload_n 0, 1) := by decide +kernel
theorem dX12_isSmall_7 : decode cX12_isSmall 7 = .ok (.bipush 122, 2) := by decide +kernel
theorem dX12_isSmall_9 : decode cX12_isSmall 9 = .ok (.if_icmp .gt 7, 3) := by decide +kernel
theorem dX12_isSmall_12 : decode cX12_isSmall 12 = .ok (.iconst 1, 1) := by decide +kernel
theorem dX12_isSmall_13 : decode cX12_isSmall 13 = .ok (.goto 4, 3) := by decide +kernel
theorem dX12_isSmall_16 : decode cX12_isSmall 16 = .ok (.iconst 0, 1) := by decide +kernel
theorem dX12_isSmall_17 : decode cX12_isSmall 17 = .ok (.ireturn, 1) := by decide +kernel
theorem dX12_isWord_0 : decode cX12_isWord 0 = .ok (.aload_n 0, 1) := by decide +kernel
theorem dX12_isWord_1 : decode cX12_isWord 1 = .ok (.getfield 222, 3) := by decide +kernel
theorem dX12_isWord_4 : decode cX12_isWord 4 = .ok (.iconst 1, 1) := by decide +kernel
theorem dX12_isWord_5 : decode cX12_isWord 5 = .ok (.if_icmp .ne 16, 3) := by decide +kernel
theorem dX12_isWord_8 : decode cX12_isWord 8 = .ok (.aload_n 0, 1) := by decide +kernel
theorem dX12_isWord_9 : decode cX12_isWord 9 = .ok (.getfield 212, 3) := by decide +kernel
theorem dX12_isWord_12 : decode cX12_isWord 12 = .ok (.lload_n 1, 1) := by decide +kernel
theorem dX12_isWord_13 : decode cX12_isWord 13 = .ok (.lcmp, 1) := by decide +kernel
theorem dX12_isWord_14 : decode cX12_isWord 14 = .ok (.ifCond .ne 7, 3) := by decide +kernel
theorem dX12_isWord_17 : decode cX12_isWord 17 = .ok (.iconst 1, 1) := by decide +kernel
theorem dX12_isWord_18 : decode cX12_isWord 18 = .ok (.goto 4, 3) := by decide +kernel
theorem dX12_isWord_21 : decode cX12_isWord 21 = .ok (.iconst 0, 1) := by decide +kernel
theorem dX12_isWord_22 : decode cX12_isWord 22 = .ok (.ireturn, 1) := by decide +kernel
theorem dX12_kind_0 : decode cX12_kind 0 = .ok (.aload_n 0, 1) := by decide +kernel
theorem dX12_kind_1 : decode cX12_kind 1 = .ok (.ldc2_w 356, 3) := by decide +kernel
theorem dX12_kind_4 : decode cX12_kind 4 = .ok (.invokevirtual 261, 3) := by decide +kernel
theorem dX12_kind_7 : decode cX12_kind 7 = .ok (.ifCond .eq 7, 3) := by decide +kernel
theorem dX12_kind_10 : decode cX12_kind 10 = .ok (.iconst 0, 1) := by decide +kernel
theorem dX12_kind_11 : decode cX12_kind 11 = .ok (.goto 60, 3) := by decide +kernel
theorem dX12_kind_14 : decode cX12_kind 14 = .ok (.aload_n 0, 1) := by decide +kernel
theorem dX12_kind_15 : decode cX12_kind 15 = .ok (.ldc2_w 358, 3) := by decide +kernel
theorem dX12_kind_18 : decode cX12_kind 18 = .ok (.invokevirtual 261, 3) := by decide +kernel
theorem dX12_kind_21 : decode cX12_kind 21 = .ok (.ifCond .eq 7, 3) := by decide +kernel
theorem dX12_kind_24 : decode cX12_kind 24 = .ok (.iconst 1, 1) := by decide +kernel
theorem dX12_kind_25 : decode cX12_kind 25 = .ok (.goto 46, 3) := by decide +kernel
theorem dX12_kind_28 : decode cX12_kind 28 = .ok (.aload_n 0, 1) := by decide +kernel
theorem dX12_kind_29 : decode cX12_kind 29 = .ok (.ldc2_w 360, 3) := by decide +kernel
theorem dX12_kind_32 : decode cX12_kind 32 = .ok (.invokevirtual 261, 3) := by decide +kernel
theorem dX12_kind_35 : decode cX12_kind 35 = .ok (.ifCond .eq 7, 3) := by decide +kernel
theorem dX12_kind_38 : decode cX12_kind 38 = .ok (.iconst 2, 1) := by decide +kernel
theorem dX12_kind_39 : decode cX12_kind 39 = .ok (.goto 32, 3) := by decide +kernel
theorem dX12_kind_42 : decode cX12_kind 42 = .ok (.aload_n 0, 1) := by decide +kernel
theorem dX12_kind_43 : decode cX12_kind 43 = .ok (.ldc2_w 275, 3) := by decide +kernel
theorem dX12_kind_46 : decode cX12_kind 46 = .ok (.invokevirtual 261, 3) := by decide +kernel
theorem dX12_kind_49 : decode cX12_kind 49 = .ok (.ifCond .eq 7, 3) := by decide +kernel
theorem dX12_kind_52 : decode cX12_kind 52 = .ok (.iconst 3, 1) := by decide +kernel
theorem dX12_kind_53 : decode cX12_kind 53 = .ok (.goto 18, 3) := by decide +kernel
theorem dX12_kind_56 : decode cX12_kind 56 = .ok (.aload_n 0, 1) := by decide +kernel
theorem dX12_kind_57 : decode cX12_kind 57 = .ok (.ldc2_w 362, 3) := by decide +kernel
theorem dX12_kind_60 : decode cX12_kind 60 = .ok (.invokevirtual 261, 3) := by decide +kernel
theorem dX12_kind_63 : decode cX12_kind 63 = .ok (.ifCond .eq 7, 3) := by decide +kernel
theorem dX12_kind_66 : decode cX12_kind 66 = .ok (.iconst 4, 1) := by decide +kernel
theorem dX12_kind_67 : decode cX12_kind 67 = .ok (.goto 4, 3) := by decide +kernel
theorem dX12_kind_70 : decode cX12_kind 70 = .ok (.iconst (-1), 1) := by decide +kernel
theorem dX12_kind_71 : decode cX12_kind 71 = .ok (.istore_n 1, 1) := by decide +kernel
theorem dX12_kind_72 : decode cX12_kind 72 = .ok (.aload_n 0, 1) := by decide +kernel
theorem dX12_kind_73 : decode cX12_kind 73 = .ok (.iload_n 1, 1) := by decide +kernel
theorem dX12_kind_74 : decode cX12_kind 74 = .ok (.iconst (-1), 1) := by decide +kernel
theorem dX12_kind_75 : decode cX12_kind 75 = .ok (.if_icmp .eq 7, 3) := by decide +kernel
theorem dX12_kind_78 : decode cX12_kind 78 = .ok (.iconst 1, 1) := by decide +kernel
theorem dX12_kind_79 : decode cX12_kind 79 = .ok (.goto 4, 3) := by decide +kernel
theorem dX12_kind_82 : decode cX12_kind 82 = .ok (.iconst 0, 1) := by decide +kernel
theorem dX12_kind_83 : decode cX12_kind 83 = .ok (.invokevirtual 235, 3) := by decide +kernel
theorem dX12_kind_86 : decode cX12_kind 86 = .ok (.iload_n 1, 1) := by decide +kernel
theorem dX12_kind_87 : decode cX12_kind 87 = .ok (.ireturn, 1) := by decide +kernel
theorem dX12_leaf_0 : decode cX12_leaf 0 = .ok (.aload_n 0, 1) := by decide +kernel
theorem dX12_leaf_1 : decode cX12_leaf 1 = .ok (.iload_n 1, 1) := by decide +kernel
theorem dX12_leaf_2 : decode cX12_leaf 2 = .ok (.ifCond .eq 16, 3) := by decide +kernel
theorem dX12_leaf_5 : decode cX12_leaf 5 = .ok (.aload_n 0, 1) := by decide +kernel
theorem dX12_leaf_6 : decode cX12_leaf 6 = .ok (.getfield 293, 3) := by decide +kernel
theorem dX12_leaf_9 : decode cX12_leaf 9 = .ok (.bipush 50, 2) := by decide +kernel
theorem dX12_leaf_11 : decode cX12_leaf 11 = .ok (.if_icmp .ge 7, 3) := by decide +kernel
theorem dX12_leaf_14 : decode cX12_leaf 14 = .ok (.iconst 1, 1) := by decide +kernel
theorem dX12_leaf_15 : decode cX12_leaf 15 = .ok (.goto 4, 3) := by decide +kernel
theorem dX12_leaf_18 : decode cX12_leaf 18 = .ok (.iconst 0, 1) := by decide +kernel
theorem dX12_leaf_19 : decode cX12_leaf 19 = .ok (.invokevirtual 235, 3) := by decide +kernel
theorem dX12_leaf_22 : decode cX12_leaf 22 = .ok (.aload_n 0, 1) := by decide +kernel
theorem dX12_leaf_23 : decode cX12_leaf 23 = .ok (.getfield 202, 3) := by decide +kernel
theorem dX12_leaf_26 : decode cX12_leaf 26 = .ok (.ifCond .ne 19, 3) := by decide +kernel
theorem dX12_leaf_29 : decode cX12_leaf 29 = .ok (.aload_n 0, 1) := by decide +kernel
theorem dX12_leaf_30 : decode cX12_leaf 30 = .ok (.iload_n 2, 1) := by decide +kernel
theorem dX12_leaf_31 : decode cX12_leaf 31 = .ok (.iload_n 3, 1) := by decide +kernel
theorem dX12_leaf_32 : decode cX12_leaf 32 = .ok (.invokevirtual 248, 3) := by decide +kernel
theorem dX12_leaf_35 : decode cX12_leaf 35 = .ok (.aload_n 0, 1) := by decide +kernel
theorem dX12_leaf_36 : decode cX12_leaf 36 = .ok (.dup, 1) := by decide +kernel
theorem dX12_leaf_37 : decode cX12_leaf 37 = .ok (.getfield 293, 3) := by decide +kernel
theorem dX12_leaf_40 : decode cX12_leaf 40 = .ok (.iconst 1, 1) := by decide +kernel
theorem dX12_leaf_41 : decode cX12_leaf 41 = .ok (.iadd, 1) := by decide +kernel
theorem dX12_leaf_42 : decode cX12_leaf 42 = .ok (.putfield 293, 3) := by decide +kernel
theorem dX12_leaf_45 : decode cX12_leaf 45 = .ok (.return_, 1) := by decide +kernel
theorem dX12_letter_0 : decode cX12_letter 0 = .ok (.aload_n 0, 1) := by decide +kernel
theorem dX12_letter_1 : decode cX12_letter 1 = .ok (.getfield 212, 3) := by decide +kernel
theorem dX12_letter_4 : decode cX12_letter 4 = .ok (.l2i, 1) := by decide +kernel
theorem dX12_letter_5 : decode cX12_letter 5 = .ok (.iconst 1, 1) := by decide +kernel
theorem dX12_letter_6 : decode cX12_letter 6 = .ok (.isub, 1) := by decide +kernel
theorem dX12_letter_7 : decode cX12_letter 7 = .ok (.istore_n 1, 1) := by decide +kernel
theorem dX12_letter_8 : decode cX12_letter 8 = .ok (.aload_n 0, 1) := by decide +kernel
theorem dX12_letter_9 : decode cX12_letter 9 = .ok (.aload_n 0, 1) := by decide +kernel
theorem dX12_letter_10 : decode cX12_letter 10 = .ok (.getfield 222, 3) := by decide +kernel
theorem dX12_letter_13 : decode cX12_letter 13 = .ok (.iconst 1, 1) := by decide +kernel
theorem dX12_letter_14 : decode cX12_letter 14 = .ok (.if_icmp .ne 20, 3) := by decide +kernel
theorem dX12_letter_17 : decode cX12_letter 17 = .ok (.aload_n 0, 1) := by decide +kernel
theorem dX12_letter_18 : decode cX12_letter 18 = .ok (.getfield 199, 3) := by decide +kernel
theorem dX12_letter_21 : decode cX12_letter 21 = .ok (.aload_n 0, 1) := by decide +kernel
theorem dX12_letter_22 : decode cX12_letter 22 = .ok (.getfield 209, 3) := by decide +kernel
theorem dX12_letter_25 : decode cX12_letter 25 = .ok (.isub, 1) := by decide +kernel
theorem dX12_letter_26 : decode cX12_letter 26 = .ok (.iconst 1, 1) := by decide +kernel
theorem dX12_letter_27 : decode cX12_letter 27 = .ok (.if_icmp .ne 7, 3) := by decide +kernel
theorem dX12_letter_30 : decode cX12_letter 30 = .ok (.iconst 1, 1) := by decide +kernel
theorem dX12_letter_31 : decode cX12_letter 31 = .ok (.goto 4, 3) := by decide +kernel
theorem dX12_letter_34 : decode cX12_letter 34 = .ok (.iconst 0, 1) := by decide +kernel
theorem dX12_letter_35 : decode cX12_letter 35 = .ok (.invokevirtual 235, 3) := by decide +kernel
theorem dX12_letter_38 : decode cX12_letter 38 = .ok (.iload_n 1, 1) := by decide +kernel
theorem dX12_letter_39 : decode cX12_letter 39 = .ok (.ireturn, 1) := by decide +kernel
theorem dX12_must_0 : decode cX12_must 0 = .ok (.aload_n 0, 1) := by decide +kernel
theorem dX12_must_1 : decode cX12_must 1 = .ok (.getfield 202, 3) := by decide +kernel
theorem dX12_must_4 : decode cX12_must 4 = .ok (.ifCond .ne 20, 3) := by decide +kernel
theorem dX12_must_7 : decode cX12_must 7 = .ok (.iload_n 1, 1) := by decide +kernel
theorem dX12_must_8 : decode cX12_must 8 = .ok (.ifCond .ne 16, 3) := by decide +kernel
theorem dX12_must_11 : decode cX12_must 11 = .ok (.aload_n 0, 1) := by decide +kernel
theorem dX12_must_12 : decode cX12_must 12 = .ok (.iconst 1, 1) := by decide +kernel
theorem dX12_must_13 : decode cX12_must 13 = .ok (.putfield 202, 3) := by decide +kernel
theorem dX12_must_16 : decode cX12_must 16 = .ok (.aload_n 0, 1) := by decide +kernel
theorem dX12_must_17 : decode cX12_must 17 = .ok (.aload_n 0, 1) := by decide +kernel
theorem dX12_must_18 : decode cX12_must 18 = .ok (.getfield 209, 3) := by decide +kernel
theorem dX12_must_21 : decode cX12_must 21 = .ok (.putfield 36, 3) := by decide +kernel
theorem dX12_must_24 : decode cX12_must 24 = .ok (.aload_n 0, 1) := by decide +kernel
theorem dX12_must_25 : decode cX12_must 25 = .ok (.getfield 202, 3) := by decide +kernel
theorem dX12_must_28 : decode cX12_must 28 = .ok (.ifCond .ne 7, 3) := by decide +kernel
theorem dX12_must_31 : decode cX12_must 31 = .ok (.aload_n 0, 1) := by decide +kernel
theorem dX12_must_32 : decode cX12_must 32 = .ok (.invokevirtual 206, 3) := by decide +kernel
theorem dX12_must_35 : decode cX12_must 35 = .ok (.return_, 1) := by decide +kernel
theorem dX12_next_0 : decode cX12_next 0 = .ok (.aload_n 0, 1) := by decide +kernel
theorem dX12_next_1 : decode cX12_next 1 = .ok (.aload_n 0, 1) := by decide +kernel
theorem dX12_next_2 : decode cX12_next 2 = .ok (.getfield 199, 3) := by decide +kernel
theorem dX12_next_5 : decode cX12_next 5 = .ok (.putfield 209, 3) := by decide +kernel
theorem dX12_next_8 : decode cX12_next 8 = .ok (.aload_n 0, 1) := by decide +kernel
theorem dX12_next_9 : decode cX12_next 9 = .ok (.getfield 209, 3) := by decide +kernel
theorem dX12_next_12 : decode cX12_next 12 = .ok (.aload_n 0, 1) := by decide +kernel
theorem dX12_next_13 : decode cX12_next 13 = .ok (.getfield 193, 3) := by decide +kernel
theorem dX12_next_16 : decode cX12_next 16 = .ok (.if_icmp .ge 30, 3) := by decide +kernel
theorem dX12_next_19 : decode cX12_next 19 = .ok (.aload_n 0, 1) := by decide +kernel
theorem dX12_next_20 : decode cX12_next 20 = .ok (.getfield 33, 3) := by decide +kernel
theorem dX12_next_23 : decode cX12_next 23 = .ok (.aload_n 0, 1) := by decide +kernel
theorem dX12_next_24 : decode cX12_next 24 = .ok (.getfield 209, 3) := by decide +kernel
theorem dX12_next_27 : decode cX12_next 27 = .ok (.iaload, 1) := by decide +kernel
theorem dX12_next_28 : decode cX12_next 28 = .ok (.bipush 32, 2) := by decide +kernel
theorem dX12_next_30 : decode cX12_next 30 = .ok (.if_icmp .ne 16, 3) := by decide +kernel
theorem dX12_next_33 : decode cX12_next 33 = .ok (.aload_n 0, 1) := by decide +kernel
theorem dX12_next_34 : decode cX12_next 34 = .ok (.dup, 1) := by decide +kernel
theorem dX12_next_35 : decode cX12_next 35 = .ok (.getfield 209, 3) := by decide +kernel
theorem dX12_next_38 : decode cX12_next 38 = .ok (.iconst 1, 1) := by decide +kernel
theorem dX12_next_39 : decode cX12_next 39 = .ok (.iadd, 1) := by decide +kernel
theorem dX12_next_40 : decode cX12_next 40 = .ok (.putfield 209, 3) := by decide +kernel
theorem dX12_next_43 : decode cX12_next 43 = .ok (.goto (-35), 3) := by decide +kernel
theorem dX12_next_46 : decode cX12_next 46 = .ok (.aload_n 0, 1) := by decide +kernel
theorem dX12_next_47 : decode cX12_next 47 = .ok (.aload_n 0, 1) := by decide +kernel
theorem dX12_next_48 : decode cX12_next 48 = .ok (.getfield 209, 3) := by decide +kernel
theorem dX12_next_51 : decode cX12_next 51 = .ok (.putfield 199, 3) := by decide +kernel
theorem dX12_next_54 : decode cX12_next 54 = .ok (.aload_n 0, 1) := by decide +kernel
theorem dX12_next_55 : decode cX12_next 55 = .ok (.lconst 0, 1) := by decide +kernel
theorem dX12_next_56 : decode cX12_next 56 = .ok (.putfield 212, 3) := by decide +kernel
theorem dX12_next_59 : decode cX12_next 59 = .ok (.aload_n 0, 1) := by decide +kernel
theorem dX12_next_60 : decode cX12_next 60 = .ok (.aload_n 0, 1) := by decide +kernel
theorem dX12_next_61 : decode cX12_next 61 = .ok (.getfield 209, 3) := by decide +kernel
theorem dX12_next_64 : decode cX12_next 64 = .ok (.aload_n 0, 1) := by decide +kernel
theorem dX12_next_65 : decode cX12_next 65 = .ok (.getfield 193, 3) := by decide +kernel
theorem dX12_next_68 : decode cX12_next 68 = .ok (.if_icmp .ne 7, 3) := by decide +kernel
theorem dX12_next_71 : decode cX12_next 71 = .ok (.iconst 0, 1) := by decide +kernel
theorem dX12_next_72 : decode cX12_next 72 = .ok (.goto 42, 3) := by decide +kernel
theorem dX12_next_75 : decode cX12_next 75 = .ok (.aload_n 0, 1) := by decide +kernel
theorem dX12_next_76 : decode cX12_next 76 = .ok (.getfield 33, 3) := by decide +kernel
theorem dX12_next_79 : decode cX12_next 79 = .ok (.aload_n 0, 1) := by decide +kernel
theorem dX12_next_80 : decode cX12_next 80 = .ok (.getfield 209, 3) := by decide +kernel
theorem dX12_next_83 : decode cX12_next 83 = .ok (.iaload, 1) := by decide +kernel
theorem dX12_next_84 : decode cX12_next 84 = .ok (.invokestatic 216, 3) := by decide +kernel
theorem dX12_next_87 : decode cX12_next 87 = .ok (.ifCond .eq 7, 3) := by decide +kernel
theorem dX12_next_90 : decode cX12_next 90 = .ok (.iconst 1, 1) := by decide +kernel
theorem dX12_next_91 : decode cX12_next 91 = .ok (.goto 23, 3) := by decide +kernel
theorem dX12_next_94 : decode cX12_next 94 = .ok (.aload_n 0, 1) := by decide +kernel
theorem dX12_next_95 : decode cX12_next 95 = .ok (.getfield 33, 3) := by decide +kernel
theorem dX12_next_98 : decode cX12_next 98 = .ok (.aload_n 0, 1) := by decide +kernel
theorem dX12_next_99 : decode cX12_next 99 = .ok (.getfield 209, 3) := by decide +kernel
theorem dX12_next_102 : decode cX12_next 102 = .ok (.iaload, 1) := by decide +kernel
theorem dX12_next_103 : decode cX12_next 103 = .ok (.invokestatic 219, 3) := by decide +kernel
theorem dX12_next_106 : decode cX12_next 106 = .ok (.ifCond .eq 7, 3) := by decide +kernel
theorem dX12_next_109 : decode cX12_next 109 = .ok (.iconst 2, 1) := by decide +kernel
theorem dX12_next_110 : decode cX12_next 110 = .ok (.goto 4, 3) := by decide +kernel
theorem dX12_next_113 : decode cX12_next 113 = .ok (.iconst 3, 1) := by decide +kernel
theorem dX12_next_114 : decode cX12_next 114 = .ok (.putfield 222, 3) := by decide +kernel
theorem dX12_next_117 : decode cX12_next 117 = .ok (.aload_n 0, 1) := by decide +kernel
theorem dX12_next_118 : decode cX12_next 118 = .ok (.getfield 222, 3) := by decide +kernel
theorem dX12_next_121 : decode cX12_next 121 = .ok (.iconst 3, 1) := by decide +kernel
theorem dX12_next_122 : decode cX12_next 122 = .ok (.if_icmp .ne 27, 3) := by decide +kernel
theorem dX12_next_125 : decode cX12_next 125 = .ok (.aload_n 0, 1) := by decide +kernel
theorem dX12_next_126 : decode cX12_next 126 = .ok (.aload_n 0, 1) := by decide +kernel
theorem dX12_next_127 : decode cX12_next 127 = .ok (.getfield 33, 3) := by decide +kernel
theorem dX12_next_130 : decode cX12_next 130 = .ok (.aload_n 0, 1) := by decide +kernel
theorem dX12_next_131 : decode cX12_next 131 = .ok (.getfield 209, 3) := by decide +kernel
theorem dX12_next_134 : decode cX12_next 134 = .ok (.iaload, 1) := by decide +kernel
theorem dX12_next_135 : decode cX12_next 135 = .ok (.i2l, 1) := by decide +kernel
theorem dX12_next_136 : decode cX12_next 136 = .ok (.putfield 212, 3) := by decide +kernel
theorem dX12_next_139 : decode cX12_next 139 = .ok (.aload_n 0, 1) := by decide +kernel
theorem dX12_next_140 : decode cX12_next 140 = .ok (.dup, 1) := by decide +kernel
theorem dX12_next_141 : decode cX12_next 141 = .ok (.getfield 199, 3) := by decide +kernel
theorem dX12_next_144 : decode cX12_next 144 = .ok (.iconst 1, 1) := by decide +kernel
theorem dX12_next_145 : decode cX12_next 145 = .ok (.iadd, 1) := by decide +kernel
theorem dX12_next_146 : decode cX12_next 146 = .ok (.putfield 199, 3) := by decide +kernel
theorem dX12_next_149 : decode cX12_next 149 = .ok (.aload_n 0, 1) := by decide +kernel
theorem dX12_next_150 : decode cX12_next 150 = .ok (.getfield 222, 3) := by decide +kernel
theorem dX12_next_153 : decode cX12_next 153 = .ok (.iconst 1, 1) := by decide +kernel
theorem dX12_next_154 : decode cX12_next 154 = .ok (.if_icmp .ne 89, 3) := by decide +kernel
theorem dX12_next_157 : decode cX12_next 157 = .ok (.aload_n 0, 1) := by decide +kernel
theorem dX12_next_158 : decode cX12_next 158 = .ok (.getfield 199, 3) := by decide +kernel
theorem dX12_next_161 : decode cX12_next 161 = .ok (.aload_n 0, 1) := by decide +kernel
theorem dX12_next_162 : decode cX12_next 162 = .ok (.getfield 193, 3) := by decide +kernel
theorem dX12_next_165 : decode cX12_next 165 = .ok (.if_icmp .ge 78, 3) := by decide +kernel
theorem dX12_next_168 : decode cX12_next 168 = .ok (.aload_n 0, 1) := by decide +kernel
theorem dX12_next_169 : decode cX12_next 169 = .ok (.getfield 33, 3) := by decide +kernel
theorem dX12_next_172 : decode cX12_next 172 = .ok (.aload_n 0, 1) := by decide +kernel
theorem dX12_next_173 : decode cX12_next 173 = .ok (.getfield 199, 3) := by decide +kernel
theorem dX12_next_176 : decode cX12_next 176 = .ok (.iaload, 1) := by decide +kernel
theorem dX12_next_177 : decode cX12_next 177 = .ok (.invokestatic 216, 3) := by decide +kernel
theorem dX12_next_180 : decode cX12_next 180 = .ok (.ifCond .eq 63, 3) := by decide +kernel
theorem dX12_next_183 : decode cX12_next 183 = .ok (.aload_n 0, 1) := by decide +kernel
theorem dX12_next_184 : decode cX12_next 184 = .ok (.aload_n 0, 1) := by decide +kernel
theorem dX12_next_185 : decode cX12_next 185 = .ok (.getfield 199, 3) := by decide +kernel
theorem dX12_next_188 : decode cX12_next 188 = .ok (.aload_n 0, 1) := by decide +kernel
theorem dX12_next_189 : decode cX12_next 189 = .ok (.getfield 209, 3) := by decide +kernel
theorem dX12_next_192 : decode cX12_next 192 = .ok (.isub, 1) := by decide +kernel
theorem dX12_next_193 : decode cX12_next 193 = .ok (.bipush 10, 2) := by decide +kernel
theorem dX12_next_195 : decode cX12_next 195 = .ok (.if_icmp .ge 29, 3) := by decide +kernel
theorem dX12_next_198 : decode cX12_next 198 = .ok (.aload_n 0, 1) := by decide +kernel
theorem dX12_next_199 : decode cX12_next 199 = .ok (.getfield 212, 3) := by decide +kernel
theorem dX12_next_202 : decode cX12_next 202 = .ok (.ldc2_w 225, 3) := by decide +kernel
theorem dX12_next_205 : decode cX12_next 205 = .ok (.lmul, 1) := by decide +kernel
theorem dX12_next_206 : decode cX12_next 206 = .ok (.aload_n 0, 1) := by decide +kernel
theorem dX12_next_207 : decode cX12_next 207 = .ok (.getfield 33, 3) := by decide +kernel
theorem dX12_next_210 : decode cX12_next 210 = .ok (.aload_n 0, 1) := by decide +kernel
theorem dX12_next_211 : decode cX12_next 211 = .ok (.getfield 199, 3) := by decide +kernel
theorem dX12_next_214 : decode cX12_next 214 = .ok (.iaload, 1) := by decide +kernel
theorem dX12_next_215 : decode cX12_next 215 = .ok (.i2l, 1) := by decide +kernel
theorem dX12_next_216 : decode cX12_next 216 = .ok (.ladd, 1) := by decide +kernel
theorem dX12_next_217 : decode cX12_next 217 = .ok (.ldc2_w 227, 3) := by decide +kernel
theorem dX12_next_220 : decode cX12_next 220 = .ok (.lsub, 1) := by decide +kernel
theorem dX12_next_221 : decode cX12_next 221 = .ok (.goto 6, 3) := by decide +kernel
theorem dX12_next_224 : decode cX12_next 224 = .ok (.ldc2_w 114, 3) := by decide +kernel
theorem dX12_next_227 : decode cX12_next 227 = .ok (.putfield 212, 3) := by decide +kernel
theorem dX12_next_230 : decode cX12_next 230 = .ok (.aload_n 0, 1) := by decide +kernel
theorem dX12_next_231 : decode cX12_next 231 = .ok (.dup, 1) := by decide +kernel
theorem dX12_next_232 : decode cX12_next 232 = .ok (.getfield 199, 3) := by decide +kernel
theorem dX12_next_235 : decode cX12_next 235 = .ok (.iconst 1, 1) := by decide +kernel
theorem dX12_next_236 : decode cX12_next 236 = .ok (.iadd, 1) := by decide +kernel
theorem dX12_next_237 : decode cX12_next 237 = .ok (.putfield 199, 3) := by decide +kernel
theorem dX12_next_240 : decode cX12_next 240 = .ok (.goto (-91), 3) := by decide +kernel
theorem dX12_next_243 : decode cX12_next 243 = .ok (.aload_n 0, 1) := by decide +kernel
theorem dX12_next_244 : decode cX12_next 244 = .ok (.getfield 222, 3) := by decide +kernel
theorem dX12_next_247 : decode cX12_next 247 = .ok (.iconst 2, 1) := by decide +kernel
theorem dX12_next_248 : decode cX12_next 248 = .ok (.if_icmp .ne 87, 3) := by decide +kernel
theorem dX12_next_251 : decode cX12_next 251 = .ok (.aload_n 0, 1) := by decide +kernel
theorem dX12_next_252 : decode cX12_next 252 = .ok (.getfield 199, 3) := by decide +kernel
theorem dX12_next_255 : decode cX12_next 255 = .ok (.aload_n 0, 1) := by decide +kernel
theorem dX12_next_256 : decode cX12_next 256 = .ok (.getfield 193, 3) := by decide +kernel
theorem dX12_next_259 : decode cX12_next 259 = .ok (.if_icmp .ge 76, 3) := by decide +kernel
theorem dX12_next_262 : decode cX12_next 262 = .ok (.aload_n 0, 1) := by decide +kernel
theorem dX12_next_263 : decode cX12_next 263 = .ok (.getfield 33, 3) := by decide +kernel
theorem dX12_next_266 : decode cX12_next 266 = .ok (.aload_n 0, 1) := by decide +kernel
theorem dX12_next_267 : decode cX12_next 267 = .ok (.getfield 199, 3) := by decide +kernel
theorem dX12_next_270 : decode cX12_next 270 = .ok (.iaload, 1) := by decide +kernel
theorem dX12_next_271 : decode cX12_next 271 = .ok (.invokestatic 219, 3) := by decide +kernel
theorem dX12_next_274 : decode cX12_next 274 = .ok (.ifCond .eq 61, 3) := by decide +kernel
theorem dX12_next_277 : decode cX12_next 277 = .ok (.aload_n 0, 1) := by decide +kernel
theorem dX12_next_278 : decode cX12_next 278 = .ok (.aload_n 0, 1) := by decide +kernel
theorem dX12_next_279 : decode cX12_next 279 = .ok (.getfield 212, 3) := by decide +kernel
theorem dX12_next_282 : decode cX12_next 282 = .ok (.ldc2_w 229, 3) := by decide +kernel
theorem dX12_next_285 : decode cX12_next 285 = .ok (.lcmp, 1) := by decide +kernel
theorem dX12_next_286 : decode cX12_next 286 = .ok (.ifCond .le 10, 3) := by decide +kernel
theorem dX12_next_289 : decode cX12_next 289 = .ok (.aload_n 0, 1) := by decide +kernel
theorem dX12_next_290 : decode cX12_next 290 = .ok (.getfield 212, 3) := by decide +kernel
theorem dX12_next_293 : decode cX12_next 293 = .ok (.goto 26, 3) := by decide +kernel
theorem dX12_next_296 : decode cX12_next 296 = .ok (.aload_n 0, 1) := by decide +kernel
theorem dX12_next_297 : decode cX12_next 297 = .ok (.getfield 212, 3) := by decide +kernel
theorem dX12_next_300 : decode cX12_next 300 = .ok (.ldc2_w 231, 3) := by decide +kernel
theorem dX12_next_303 : decode cX12_next 303 = .ok (.lmul, 1) := by decide +kernel
theorem dX12_next_304 : decode cX12_next 304 = .ok (.aload_n 0, 1) := by decide +kernel
theorem dX12_next_305 : decode cX12_next 305 = .ok (.getfield 33, 3) := by decide +kernel
theorem dX12_next_308 : decode cX12_next 308 = .ok (.aload_n 0, 1) := by decide +kernel
theorem dX12_next_309 : decode cX12_next 309 = .ok (.getfield 199, 3) := by decide +kernel
theorem dX12_next_312 : decode cX12_next 312 = .ok (.iaload, 1) := by decide +kernel
theorem dX12_next_313 : decode cX12_next 313 = .ok (.i2l, 1) := by decide +kernel
theorem dX12_next_314 : decode cX12_next 314 = .ok (.ladd, 1) := by decide +kernel
theorem dX12_next_315 : decode cX12_next 315 = .ok (.ldc2_w 233, 3) := by decide +kernel
theorem dX12_next_318 : decode cX12_next 318 = .ok (.lsub, 1) := by decide +kernel
theorem dX12_next_319 : decode cX12_next 319 = .ok (.putfield 212, 3) := by decide +kernel
theorem dX12_next_322 : decode cX12_next 322 = .ok (.aload_n 0, 1) := by decide +kernel
theorem dX12_next_323 : decode cX12_next 323 = .ok (.dup, 1) := by decide +kernel
theorem dX12_next_324 : decode cX12_next 324 = .ok (.getfield 199, 3) := by decide +kernel
theorem dX12_next_327 : decode cX12_next 327 = .ok (.iconst 1, 1) := by decide +kernel
theorem dX12_next_328 : decode cX12_next 328 = .ok (.iadd, 1) := by decide +kernel
theorem dX12_next_329 : decode cX12_next 329 = .ok (.putfield 199, 3) := by decide +kernel
theorem dX12_next_332 : decode cX12_next 332 = .ok (.goto (-89), 3) := by decide +kernel
theorem dX12_next_335 : decode cX12_next 335 = .ok (.return_, 1) := by decide +kernel
theorem dX12_number_0 : decode cX12_number 0 = .ok (.aload_n 0, 1) := by decide +kernel
theorem dX12_number_1 : decode cX12_number 1 = .ok (.getfield 212, 3) := by decide +kernel
theorem dX12_number_4 : decode cX12_number 4 = .ok (.l2i, 1) := by decide +kernel
theorem dX12_number_5 : decode cX12_number 5 = .ok (.istore 5, 2) := by decide +kernel
theorem dX12_number_7 : decode cX12_number 7 = .ok (.aload_n 0, 1) := by decide +kernel
theorem dX12_number_8 : decode cX12_number 8 = .ok (.aload_n 0, 1) := by decide +kernel
theorem dX12_number_9 : decode cX12_number 9 = .ok (.getfield 222, 3) := by decide +kernel
theorem dX12_number_12 : decode cX12_number 12 = .ok (.iconst 2, 1) := by decide +kernel
theorem dX12_number_13 : decode cX12_number 13 = .ok (.if_icmp .ne 19, 3) := by decide +kernel
theorem dX12_number_16 : decode cX12_number 16 = .ok (.aload_n 0, 1) := by decide +kernel
theorem dX12_number_17 : decode cX12_number 17 = .ok (.getfield 212, 3) := by decide +kernel
theorem dX12_number_20 : decode cX12_number 20 = .ok (.lload_n 1, 1) := by decide +kernel
theorem dX12_number_21 : decode cX12_number 21 = .ok (.lload_n 3, 1) := by decide +kernel
theorem dX12_number_22 : decode cX12_number 22 = .ok (.invokestatic 100, 3) := by decide +kernel
theorem dX12_number_25 : decode cX12_number 25 = .ok (.ifCond .eq 7, 3) := by decide +kernel
theorem dX12_number_28 : decode cX12_number 28 = .ok (.iconst 1, 1) := by decide +kernel
theorem dX12_number_29 : decode cX12_number 29 = .ok (.goto 4, 3) := by decide +kernel
theorem dX12_number_32 : decode cX12_number 32 = .ok (.iconst 0, 1) := by decide +kernel
theorem dX12_number_33 : decode cX12_number 33 = .ok (.invokevirtual 235, 3) := by decide +kernel
theorem dX12_number_36 : decode cX12_number 36 = .ok (.iload 5, 2) := by decide +kernel
theorem dX12_number_38 : decode cX12_number 38 = .ok (.ireturn, 1) := by decide +kernel
theorem dX12_open_0 : decode cX12_open 0 = .ok (.aload_n 0, 1) := by decide +kernel
theorem dX12_open_1 : decode cX12_open 1 = .ok (.aload_n 0, 1) := by decide +kernel
theorem dX12_open_2 : decode cX12_open 2 = .ok (.getfield 287, 3) := by decide +kernel
theorem dX12_open_5 : decode cX12_open 5 = .ok (.bipush 8, 2) := by decide +kernel
theorem dX12_open_7 : decode cX12_open 7 = .ok (.if_icmp .ge 7, 3) := by decide +kernel
theorem dX12_open_10 : decode cX12_open 10 = .ok (.iconst 1, 1) := by decide +kernel
theorem dX12_open_11 : decode cX12_open 11 = .ok (.goto 4, 3) := by decide +kernel
theorem dX12_open_14 : decode cX12_open 14 = .ok (.iconst 0, 1) := by decide +kernel
theorem dX12_open_15 : decode cX12_open 15 = .ok (.invokevirtual 235, 3) := by decide +kernel
theorem dX12_open_18 : decode cX12_open 18 = .ok (.aload_n 0, 1) := by decide +kernel
theorem dX12_open_19 : decode cX12_open 19 = .ok (.getfield 202, 3) := by decide +kernel
theorem dX12_open_22 : decode cX12_open 22 = .ok (.ifCond .ne 19, 3) := by decide +kernel
theorem dX12_open_25 : decode cX12_open 25 = .ok (.aload_n 0, 1) := by decide +kernel
theorem dX12_open_26 : decode cX12_open 26 = .ok (.dup, 1) := by decide +kernel
theorem dX12_open_27 : decode cX12_open 27 = .ok (.getfield 287, 3) := by decide +kernel
theorem dX12_open_30 : decode cX12_open 30 = .ok (.iconst 1, 1) := by decide +kernel
theorem dX12_open_31 : decode cX12_open 31 = .ok (.iadd, 1) := by decide +kernel
theorem dX12_open_32 : decode cX12_open 32 = .ok (.putfield 287, 3) := by decide +kernel
theorem dX12_open_35 : decode cX12_open 35 = .ok (.aload_n 0, 1) := by decide +kernel
theorem dX12_open_36 : decode cX12_open 36 = .ok (.iload_n 1, 1) := by decide +kernel
theorem dX12_open_37 : decode cX12_open 37 = .ok (.iconst 0, 1) := by decide +kernel
theorem dX12_open_38 : decode cX12_open 38 = .ok (.invokevirtual 290, 3) := by decide +kernel
theorem dX12_open_41 : decode cX12_open 41 = .ok (.return_, 1) := by decide +kernel
theorem dX12_partAt_0 : decode cX12_partAt 0 = .ok (.aload_n 0, 1) := by decide +kernel
theorem dX12_partAt_1 : decode cX12_partAt 1 = .ok (.ldc2_w 259, 3) := by decide +kernel
theorem dX12_partAt_4 : decode cX12_partAt 4 = .ok (.invokevirtual 261, 3) := by decide +kernel
theorem dX12_partAt_7 : decode cX12_partAt 7 = .ok (.ifCond .ne 33, 3) := by decide +kernel
theorem dX12_partAt_10 : decode cX12_partAt 10 = .ok (.aload_n 0, 1) := by decide +kernel
theorem dX12_partAt_11 : decode cX12_partAt 11 = .ok (.ldc2_w 265, 3) := by decide +kernel
theorem dX12_partAt_14 : decode cX12_partAt 14 = .ok (.invokevirtual 261, 3) := by decide +kernel
theorem dX12_partAt_17 : decode cX12_partAt 17 = .ok (.ifCond .ne 23, 3) := by decide +kernel
theorem dX12_partAt_20 : decode cX12_partAt 20 = .ok (.aload_n 0, 1) := by decide +kernel
theorem dX12_partAt_21 : decode cX12_partAt 21 = .ok (.ldc2_w 267, 3) := by decide +kernel
theorem dX12_partAt_24 : decode cX12_partAt 24 = .ok (.invokevirtual 261, 3) := by decide +kernel
theorem dX12_partAt_27 : decode cX12_partAt 27 = .ok (.ifCond .ne 13, 3) := by decide +kernel
theorem dX12_partAt_30 : decode cX12_partAt 30 = .ok (.aload_n 0, 1) := by decide +kernel
theorem dX12_partAt_31 : decode cX12_partAt 31 = .ok (.ldc2_w 269, 3) := by decide +kernel
theorem dX12_partAt_34 : decode cX12_partAt 34 = .ok (.invokevirtual 261, 3) := by decide +kernel
theorem dX12_partAt_37 : decode cX12_partAt 37 = .ok (.ifCond .eq 47, 3) := by decide +kernel
theorem dX12_partAt_40 : decode cX12_partAt 40 = .ok (.aload_n 0, 1) := by decide +kernel
theorem dX12_partAt_41 : decode cX12_partAt 41 = .ok (.ldc2_w 259, 3) := by decide +kernel
theorem dX12_partAt_44 : decode cX12_partAt 44 = .ok (.invokevirtual 261, 3) := by decide +kernel
theorem dX12_partAt_47 : decode cX12_partAt 47 = .ok (.ifCond .eq 7, 3) := by decide +kernel
theorem dX12_partAt_50 : decode cX12_partAt 50 = .ok (.iconst 1, 1) := by decide +kernel
theorem dX12_partAt_51 : decode cX12_partAt 51 = .ok (.goto 32, 3) := by decide +kernel
theorem dX12_partAt_54 : decode cX12_partAt 54 = .ok (.aload_n 0, 1) := by decide +kernel
theorem dX12_partAt_55 : decode cX12_partAt 55 = .ok (.ldc2_w 265, 3) := by decide +kernel
theorem dX12_partAt_58 : decode cX12_partAt 58 = .ok (.invokevirtual 261, 3) := by decide +kernel
theorem dX12_partAt_61 : decode cX12_partAt 61 = .ok (.ifCond .eq 7, 3) := by decide +kernel
theorem dX12_partAt_64 : decode cX12_partAt 64 = .ok (.iconst 2, 1) := by decide +kernel
theorem dX12_partAt_65 : decode cX12_partAt 65 = .ok (.goto 18, 3) := by decide +kernel
theorem dX12_partAt_68 : decode cX12_partAt 68 = .ok (.aload_n 0, 1) := by decide +kernel
theorem dX12_partAt_69 : decode cX12_partAt 69 = .ok (.ldc2_w 267, 3) := by decide +kernel
theorem dX12_partAt_72 : decode cX12_partAt 72 = .ok (.invokevirtual 261, 3) := by decide +kernel
theorem dX12_partAt_75 : decode cX12_partAt 75 = .ok (.ifCond .eq 7, 3) := by decide +kernel
theorem dX12_partAt_78 : decode cX12_partAt 78 = .ok (.iconst 3, 1) := by decide +kernel
theorem dX12_partAt_79 : decode cX12_partAt 79 = .ok (.goto 4, 3) := by decide +kernel
theorem dX12_partAt_82 : decode cX12_partAt 82 = .ok (.iconst 4, 1) := by decide +kernel
theorem dX12_partAt_83 : decode cX12_partAt 83 = .ok (.ireturn, 1) := by decide +kernel
theorem dX12_partAt_84 : decode cX12_partAt 84 = .ok (.aload_n 0, 1) := by decide +kernel
theorem dX12_partAt_85 : decode cX12_partAt 85 = .ok (.ldc2_w 271, 3) := by decide +kernel
theorem dX12_partAt_88 : decode cX12_partAt 88 = .ok (.invokevirtual 261, 3) := by decide +kernel
theorem dX12_partAt_91 : decode cX12_partAt 91 = .ok (.ifCond .eq 7, 3) := by decide +kernel
theorem dX12_partAt_94 : decode cX12_partAt 94 = .ok (.iconst 5, 1) := by decide +kernel
theorem dX12_partAt_95 : decode cX12_partAt 95 = .ok (.goto 49, 3) := by decide +kernel
theorem dX12_partAt_98 : decode cX12_partAt 98 = .ok (.aload_n 0, 1) := by decide +kernel
theorem dX12_partAt_99 : decode cX12_partAt 99 = .ok (.ldc2_w 273, 3) := by decide +kernel
theorem dX12_partAt_102 : decode cX12_partAt 102 = .ok (.invokevirtual 261, 3) := by decide +kernel
theorem dX12_partAt_105 : decode cX12_partAt 105 = .ok (.ifCond .eq 8, 3) := by decide +kernel
theorem dX12_partAt_108 : decode cX12_partAt 108 = .ok (.bipush 6, 2) := by decide +kernel
theorem dX12_partAt_110 : decode cX12_partAt 110 = .ok (.goto 34, 3) := by decide +kernel
theorem dX12_partAt_113 : decode cX12_partAt 113 = .ok (.aload_n 0, 1) := by decide +kernel
theorem dX12_partAt_114 : decode cX12_partAt 114 = .ok (.ldc2_w 275, 3) := by decide +kernel
theorem dX12_partAt_117 : decode cX12_partAt 117 = .ok (.invokevirtual 261, 3) := by decide +kernel
theorem dX12_partAt_120 : decode cX12_partAt 120 = .ok (.ifCond .eq 8, 3) := by decide +kernel
theorem dX12_partAt_123 : decode cX12_partAt 123 = .ok (.bipush 7, 2) := by decide +kernel
theorem dX12_partAt_125 : decode cX12_partAt 125 = .ok (.goto 19, 3) := by decide +kernel
theorem dX12_partAt_128 : decode cX12_partAt 128 = .ok (.aload_n 0, 1) := by decide +kernel
theorem dX12_partAt_129 : decode cX12_partAt 129 = .ok (.ldc2_w 277, 3) := by decide +kernel
theorem dX12_partAt_132 : decode cX12_partAt 132 = .ok (.invokevirtual 261, 3) := by decide +kernel
theorem dX12_partAt_135 : decode cX12_partAt 135 = .ok (.ifCond .eq 8, 3) := by decide +kernel
theorem dX12_partAt_138 : decode cX12_partAt 138 = .ok (.bipush 8, 2) := by decide +kernel
theorem dX12_partAt_140 : decode cX12_partAt 140 = .ok (.goto 4, 3) := by decide +kernel
theorem dX12_partAt_143 : decode cX12_partAt 143 = .ok (.iconst (-1), 1) := by decide +kernel
theorem dX12_partAt_144 : decode cX12_partAt 144 = .ok (.ireturn, 1) := by decide +kernel
theorem dX12_plainAt_0 : decode cX12_plainAt 0 = .ok (.aload_n 0, 1) := by decide +kernel
theorem dX12_plainAt_1 : decode cX12_plainAt 1 = .ok (.ldc2_w 279, 3) := by decide +kernel
theorem dX12_plainAt_4 : decode cX12_plainAt 4 = .ok (.invokevirtual 261, 3) := by decide +kernel
theorem dX12_plainAt_7 : decode cX12_plainAt 7 = .ok (.ifCond .eq 8, 3) := by decide +kernel
theorem dX12_plainAt_10 : decode cX12_plainAt 10 = .ok (.bipush 12, 2) := by decide +kernel
theorem dX12_plainAt_12 : decode cX12_plainAt 12 = .ok (.goto 49, 3) := by decide +kernel
theorem dX12_plainAt_15 : decode cX12_plainAt 15 = .ok (.aload_n 0, 1) := by decide +kernel
theorem dX12_plainAt_16 : decode cX12_plainAt 16 = .ok (.ldc2_w 281, 3) := by decide +kernel
theorem dX12_plainAt_19 : decode cX12_plainAt 19 = .ok (.invokevirtual 261, 3) := by decide +kernel
theorem dX12_plainAt_22 : decode cX12_plainAt 22 = .ok (.ifCond .eq 8, 3) := by decide +kernel
theorem dX12_plainAt_25 : decode cX12_plainAt 25 = .ok (.bipush 13, 2) := by decide +kernel
theorem dX12_plainAt_27 : decode cX12_plainAt 27 = .ok (.goto 34, 3) := by decide +kernel
theorem dX12_plainAt_30 : decode cX12_plainAt 30 = .ok (.aload_n 0, 1) := by decide +kernel
theorem dX12_plainAt_31 : decode cX12_plainAt 31 = .ok (.ldc2_w 283, 3) := by decide +kernel
theorem dX12_plainAt_34 : decode cX12_plainAt 34 = .ok (.invokevirtual 261, 3) := by decide +kernel
theorem dX12_plainAt_37 : decode cX12_plainAt 37 = .ok (.ifCond .eq 8, 3) := by decide +kernel
theorem dX12_plainAt_40 : decode cX12_plainAt 40 = .ok (.bipush 14, 2) := by decide +kernel
theorem dX12_plainAt_42 : decode cX12_plainAt 42 = .ok (.goto 19, 3) := by decide +kernel
theorem dX12_plainAt_45 : decode cX12_plainAt 45 = .ok (.aload_n 0, 1) := by decide +kernel
theorem dX12_plainAt_46 : decode cX12_plainAt 46 = .ok (.ldc2_w 285, 3) := by decide +kernel
theorem dX12_plainAt_49 : decode cX12_plainAt 49 = .ok (.invokevirtual 261, 3) := by decide +kernel
theorem dX12_plainAt_52 : decode cX12_plainAt 52 = .ok (.ifCond .eq 8, 3) := by decide +kernel
theorem dX12_plainAt_55 : decode cX12_plainAt 55 = .ok (.bipush 15, 2) := by decide +kernel
theorem dX12_plainAt_57 : decode cX12_plainAt 57 = .ok (.goto 4, 3) := by decide +kernel
theorem dX12_plainAt_60 : decode cX12_plainAt 60 = .ok (.iconst (-1), 1) := by decide +kernel
theorem dX12_plainAt_61 : decode cX12_plainAt 61 = .ok (.ireturn, 1) := by decide +kernel
theorem dX12_push_0 : decode cX12_push 0 = .ok (.aload_n 0, 1) := by decide +kernel
theorem dX12_push_1 : decode cX12_push 1 = .ok (.getfield 49, 3) := by decide +kernel
theorem dX12_push_4 : decode cX12_push 4 = .ok (.aload_n 0, 1) := by decide +kernel
theorem dX12_push_5 : decode cX12_push 5 = .ok (.getfield 242, 3) := by decide +kernel
theorem dX12_push_8 : decode cX12_push 8 = .ok (.iload_n 1, 1) := by decide +kernel
theorem dX12_push_9 : decode cX12_push 9 = .ok (.iastore, 1) := by decide +kernel
theorem dX12_push_10 : decode cX12_push 10 = .ok (.aload_n 0, 1) := by decide +kernel
theorem dX12_push_11 : decode cX12_push 11 = .ok (.getfield 52, 3) := by decide +kernel
theorem dX12_push_14 : decode cX12_push 14 = .ok (.aload_n 0, 1) := by decide +kernel
theorem dX12_push_15 : decode cX12_push 15 = .ok (.getfield 242, 3) := by decide +kernel
theorem dX12_push_18 : decode cX12_push 18 = .ok (.iload_n 2, 1) := by decide +kernel
theorem dX12_push_19 : decode cX12_push 19 = .ok (.iastore, 1) := by decide +kernel
theorem dX12_push_20 : decode cX12_push 20 = .ok (.aload_n 0, 1) := by decide +kernel
theorem dX12_push_21 : decode cX12_push 21 = .ok (.dup, 1) := by decide +kernel
theorem dX12_push_22 : decode cX12_push 22 = .ok (.getfield 242, 3) := by decide +kernel
theorem dX12_push_25 : decode cX12_push 25 = .ok (.iconst 1, 1) := by decide +kernel
theorem dX12_push_26 : decode cX12_push 26 = .ok (.iadd, 1) := by decide +kernel
theorem dX12_push_27 : decode cX12_push 27 = .ok (.putfield 242, 3) := by decide +kernel
theorem dX12_push_30 : decode cX12_push 30 = .ok (.return_, 1) := by decide +kernel
theorem dX12_readClause_0 : decode cX12_readClause 0 = .ok (.aload_n 0, 1) := by decide +kernel
theorem dX12_readClause_1 : decode cX12_readClause 1 = .ok (.invokevirtual 364, 3) := by decide +kernel
theorem dX12_readClause_4 : decode cX12_readClause 4 = .ok (.istore_n 1, 1) := by decide +kernel
theorem dX12_readClause_5 : decode cX12_readClause 5 = .ok (.aload_n 0, 1) := by decide +kernel
theorem dX12_readClause_6 : decode cX12_readClause 6 = .ok (.iload_n 1, 1) := by decide +kernel
theorem dX12_readClause_7 : decode cX12_readClause 7 = .ok (.iconst (-1), 1) := by decide +kernel
theorem dX12_readClause_8 : decode cX12_readClause 8 = .ok (.if_icmp .eq 16, 3) := by decide +kernel
theorem dX12_readClause_11 : decode cX12_readClause 11 = .ok (.aload_n 0, 1) := by decide +kernel
theorem dX12_readClause_12 : decode cX12_readClause 12 = .ok (.getfield 367, 3) := by decide +kernel
theorem dX12_readClause_15 : decode cX12_readClause 15 = .ok (.bipush 12, 2) := by decide +kernel
theorem dX12_readClause_17 : decode cX12_readClause 17 = .ok (.if_icmp .ge 7, 3) := by decide +kernel
theorem dX12_readClause_20 : decode cX12_readClause 20 = .ok (.iconst 1, 1) := by decide +kernel
theorem dX12_readClause_21 : decode cX12_readClause 21 = .ok (.goto 4, 3) := by decide +kernel
theorem dX12_readClause_24 : decode cX12_readClause 24 = .ok (.iconst 0, 1) := by decide +kernel
theorem dX12_readClause_25 : decode cX12_readClause 25 = .ok (.invokevirtual 235, 3) := by decide +kernel
theorem dX12_readClause_28 : decode cX12_readClause 28 = .ok (.aload_n 0, 1) := by decide +kernel
theorem dX12_readClause_29 : decode cX12_readClause 29 = .ok (.getfield 202, 3) := by decide +kernel
theorem dX12_readClause_32 : decode cX12_readClause 32 = .ok (.ifCond .eq 4, 3) := by decide +kernel
theorem dX12_readClause_35 : decode cX12_readClause 35 = .ok (.return_, 1) := by decide +kernel
theorem dX12_readClause_36 : decode cX12_readClause 36 = .ok (.bipush 10, 2) := by decide +kernel
theorem dX12_readClause_38 : decode cX12_readClause 38 = .ok (.aload_n 0, 1) := by decide +kernel
theorem dX12_readClause_39 : decode cX12_readClause 39 = .ok (.getfield 367, 3) := by decide +kernel
theorem dX12_readClause_42 : decode cX12_readClause 42 = .ok (.imul, 1) := by decide +kernel
theorem dX12_readClause_43 : decode cX12_readClause 43 = .ok (.istore_n 2, 1) := by decide +kernel
theorem dX12_readClause_44 : decode cX12_readClause 44 = .ok (.iconst 0, 1) := by decide +kernel
theorem dX12_readClause_45 : decode cX12_readClause 45 = .ok (.istore_n 3, 1) := by decide +kernel
theorem dX12_readClause_46 : decode cX12_readClause 46 = .ok (.iload_n 3, 1) := by decide +kernel
theorem dX12_readClause_47 : decode cX12_readClause 47 = .ok (.bipush 10, 2) := by decide +kernel
theorem dX12_readClause_49 : decode cX12_readClause 49 = .ok (.if_icmp .ge 18, 3) := by decide +kernel
theorem dX12_readClause_52 : decode cX12_readClause 52 = .ok (.aload_n 0, 1) := by decide +kernel
theorem dX12_readClause_53 : decode cX12_readClause 53 = .ok (.getfield 40, 3) := by decide +kernel
theorem dX12_readClause_56 : decode cX12_readClause 56 = .ok (.iload_n 2, 1) := by decide +kernel
theorem dX12_readClause_57 : decode cX12_readClause 57 = .ok (.iload_n 3, 1) := by decide +kernel
theorem dX12_readClause_58 : decode cX12_readClause 58 = .ok (.iadd, 1) := by decide +kernel
theorem dX12_readClause_59 : decode cX12_readClause 59 = .ok (.iconst 0, 1) := by decide +kernel
theorem dX12_readClause_60 : decode cX12_readClause 60 = .ok (.iastore, 1) := by decide +kernel
theorem dX12_readClause_61 : decode cX12_readClause 61 = .ok (.iinc 3 1, 3) := by decide +kernel
theorem dX12_readClause_64 : decode cX12_readClause 64 = .ok (.goto (-18), 3) := by decide +kernel
theorem dX12_readClause_67 : decode cX12_readClause 67 = .ok (.aload_n 0, 1) := by decide +kernel
theorem dX12_readClause_68 : decode cX12_readClause 68 = .ok (.getfield 40, 3) := by decide +kernel
theorem dX12_readClause_71 : decode cX12_readClause 71 = .ok (.iload_n 2, 1) := by decide +kernel
theorem dX12_readClause_72 : decode cX12_readClause 72 = .ok (.iload_n 1, 1) := by decide +kernel
theorem dX12_readClause_73 : decode cX12_readClause 73 = .ok (.iastore, 1) := by decide +kernel
theorem dX12_readClause_74 : decode cX12_readClause 74 = .ok (.aload_n 0, 1) := by decide +kernel
theorem dX12_readClause_75 : decode cX12_readClause 75 = .ok (.dup, 1) := by decide +kernel
theorem dX12_readClause_76 : decode cX12_readClause 76 = .ok (.getfield 367, 3) := by decide +kernel
theorem dX12_readClause_79 : decode cX12_readClause 79 = .ok (.iconst 1, 1) := by decide +kernel
theorem dX12_readClause_80 : decode cX12_readClause 80 = .ok (.iadd, 1) := by decide +kernel
theorem dX12_readClause_81 : decode cX12_readClause 81 = .ok (.putfield 367, 3) := by decide +kernel
theorem dX12_readClause_84 : decode cX12_readClause 84 = .ok (.iload_n 1, 1) := by decide +kernel
theorem dX12_readClause_85 : decode cX12_readClause 85 = .ok (.ifCond .ne 47, 3) := by decide +kernel
theorem dX12_readClause_88 : decode cX12_readClause 88 = .ok (.aload_n 0, 1) := by decide +kernel
theorem dX12_readClause_89 : decode cX12_readClause 89 = .ok (.getfield 40, 3) := by decide +kernel
theorem dX12_readClause_92 : decode cX12_readClause 92 = .ok (.iload_n 2, 1) := by decide +kernel
theorem dX12_readClause_93 : decode cX12_readClause 93 = .ok (.iconst 1, 1) := by decide +kernel
theorem dX12_readClause_94 : decode cX12_readClause 94 = .ok (.iadd, 1) := by decide +kernel
theorem dX12_readClause_95 : decode cX12_readClause 95 = .ok (.aload_n 0, 1) := by decide +kernel
theorem dX12_readClause_96 : decode cX12_readClause 96 = .ok (.lconst 0, 1) := by decide +kernel
theorem dX12_readClause_97 : decode cX12_readClause 97 = .ok (.ldc2_w 370, 3) := by decide +kernel
theorem dX12_readClause_100 : decode cX12_readClause 100 = .ok (.invokevirtual 372, 3) := by decide +kernel
theorem dX12_readClause_103 : decode cX12_readClause 103 = .ok (.iastore, 1) := by decide +kernel
theorem dX12_readClause_104 : decode cX12_readClause 104 = .ok (.aload_n 0, 1) := by decide +kernel
theorem dX12_readClause_105 : decode cX12_readClause 105 = .ok (.aload_n 0, 1) := by decide +kernel
theorem dX12_readClause_106 : decode cX12_readClause 106 = .ok (.ldc2_w 376, 3) := by decide +kernel
theorem dX12_readClause_109 : decode cX12_readClause 109 = .ok (.invokevirtual 261, 3) := by decide +kernel
theorem dX12_readClause_112 : decode cX12_readClause 112 = .ok (.invokevirtual 235, 3) := by decide +kernel
theorem dX12_readClause_115 : decode cX12_readClause 115 = .ok (.aload_n 0, 1) := by decide +kernel
theorem dX12_readClause_116 : decode cX12_readClause 116 = .ok (.getfield 40, 3) := by decide +kernel
theorem dX12_readClause_119 : decode cX12_readClause 119 = .ok (.iload_n 2, 1) := by decide +kernel
theorem dX12_readClause_120 : decode cX12_readClause 120 = .ok (.iconst 2, 1) := by decide +kernel
theorem dX12_readClause_121 : decode cX12_readClause 121 = .ok (.iadd, 1) := by decide +kernel
theorem dX12_readClause_122 : decode cX12_readClause 122 = .ok (.aload_n 0, 1) := by decide +kernel
theorem dX12_readClause_123 : decode cX12_readClause 123 = .ok (.lconst 0, 1) := by decide +kernel
theorem dX12_readClause_124 : decode cX12_readClause 124 = .ok (.ldc2_w 378, 3) := by decide +kernel
theorem dX12_readClause_127 : decode cX12_readClause 127 = .ok (.invokevirtual 372, 3) := by decide +kernel
theorem dX12_readClause_130 : decode cX12_readClause 130 = .ok (.iastore, 1) := by decide +kernel
theorem dX12_readClause_131 : decode cX12_readClause 131 = .ok (.return_, 1) := by decide +kernel
theorem dX12_readClause_132 : decode cX12_readClause 132 = .ok (.aload_n 0, 1) := by decide +kernel
theorem dX12_readClause_133 : decode cX12_readClause 133 = .ok (.getfield 40, 3) := by decide +kernel
theorem dX12_readClause_136 : decode cX12_readClause 136 = .ok (.iload_n 2, 1) := by decide +kernel
theorem dX12_readClause_137 : decode cX12_readClause 137 = .ok (.iconst 3, 1) := by decide +kernel
theorem dX12_readClause_138 : decode cX12_readClause 138 = .ok (.iadd, 1) := by decide +kernel
theorem dX12_readClause_139 : decode cX12_readClause 139 = .ok (.aload_n 0, 1) := by decide +kernel
theorem dX12_readClause_140 : decode cX12_readClause 140 = .ok (.getfield 239, 3) := by decide +kernel
theorem dX12_readClause_143 : decode cX12_readClause 143 = .ok (.iastore, 1) := by decide +kernel
theorem dX12_readClause_144 : decode cX12_readClause 144 = .ok (.aload_n 0, 1) := by decide +kernel
theorem dX12_readClause_145 : decode cX12_readClause 145 = .ok (.getfield 40, 3) := by decide +kernel
theorem dX12_readClause_148 : decode cX12_readClause 148 = .ok (.iload_n 2, 1) := by decide +kernel
theorem dX12_readClause_149 : decode cX12_readClause 149 = .ok (.iconst 4, 1) := by decide +kernel
theorem dX12_readClause_150 : decode cX12_readClause 150 = .ok (.iadd, 1) := by decide +kernel
theorem dX12_readClause_151 : decode cX12_readClause 151 = .ok (.aload_n 0, 1) := by decide +kernel
theorem dX12_readClause_152 : decode cX12_readClause 152 = .ok (.getfield 239, 3) := by decide +kernel
theorem dX12_readClause_155 : decode cX12_readClause 155 = .ok (.iastore, 1) := by decide +kernel
theorem dX12_readClause_156 : decode cX12_readClause 156 = .ok (.iload_n 1, 1) := by decide +kernel
theorem dX12_readClause_157 : decode cX12_readClause 157 = .ok (.iconst 1, 1) := by decide +kernel
theorem dX12_readClause_158 : decode cX12_readClause 158 = .ok (.if_icmp .eq 8, 3) := by decide +kernel
theorem dX12_readClause_161 : decode cX12_readClause 161 = .ok (.iload_n 1, 1) := by decide +kernel
theorem dX12_readClause_162 : decode cX12_readClause 162 = .ok (.iconst 4, 1) := by decide +kernel
theorem dX12_readClause_163 : decode cX12_readClause 163 = .ok (.if_icmp .ne 46, 3) := by decide +kernel
theorem dX12_readClause_166 : decode cX12_readClause 166 = .ok (.aload_n 0, 1) := by decide +kernel
theorem dX12_readClause_167 : decode cX12_readClause 167 = .ok (.getfield 40, 3) := by decide +kernel
theorem dX12_readClause_170 : decode cX12_readClause 170 = .ok (.iload_n 2, 1) := by decide +kernel
theorem dX12_readClause_171 : decode cX12_readClause 171 = .ok (.iconst 1, 1) := by decide +kernel
theorem dX12_readClause_172 : decode cX12_readClause 172 = .ok (.iadd, 1) := by decide +kernel
theorem dX12_readClause_173 : decode cX12_readClause 173 = .ok (.aload_n 0, 1) := by decide +kernel
theorem dX12_readClause_174 : decode cX12_readClause 174 = .ok (.invokevirtual 380, 3) := by decide +kernel
theorem dX12_readClause_177 : decode cX12_readClause 177 = .ok (.iastore, 1) := by decide +kernel
theorem dX12_readClause_178 : decode cX12_readClause 178 = .ok (.aload_n 0, 1) := by decide +kernel
theorem dX12_readClause_179 : decode cX12_readClause 179 = .ok (.getfield 40, 3) := by decide +kernel
theorem dX12_readClause_182 : decode cX12_readClause 182 = .ok (.iload_n 2, 1) := by decide +kernel
theorem dX12_readClause_183 : decode cX12_readClause 183 = .ok (.iconst 2, 1) := by decide +kernel
theorem dX12_readClause_184 : decode cX12_readClause 184 = .ok (.iadd, 1) := by decide +kernel
theorem dX12_readClause_185 : decode cX12_readClause 185 = .ok (.iload_n 1, 1) := by decide +kernel
theorem dX12_readClause_186 : decode cX12_readClause 186 = .ok (.iconst 1, 1) := by decide +kernel
theorem dX12_readClause_187 : decode cX12_readClause 187 = .ok (.if_icmp .ne 10, 3) := by decide +kernel
theorem dX12_readClause_190 : decode cX12_readClause 190 = .ok (.aload_n 0, 1) := by decide +kernel
theorem dX12_readClause_191 : decode cX12_readClause 191 = .ok (.invokevirtual 383, 3) := by decide +kernel
theorem dX12_readClause_194 : decode cX12_readClause 194 = .ok (.goto 11, 3) := by decide +kernel
theorem dX12_readClause_197 : decode cX12_readClause 197 = .ok (.aload_n 0, 1) := by decide +kernel
theorem dX12_readClause_198 : decode cX12_readClause 198 = .ok (.lconst 0, 1) := by decide +kernel
theorem dX12_readClause_199 : decode cX12_readClause 199 = .ok (.ldc2_w 110, 3) := by decide +kernel
theorem dX12_readClause_202 : decode cX12_readClause 202 = .ok (.invokevirtual 372, 3) := by decide +kernel
theorem dX12_readClause_205 : decode cX12_readClause 205 = .ok (.iastore, 1) := by decide +kernel
theorem dX12_readClause_206 : decode cX12_readClause 206 = .ok (.goto 95, 3) := by decide +kernel
theorem dX12_readClause_209 : decode cX12_readClause 209 = .ok (.iload_n 1, 1) := by decide +kernel
theorem dX12_readClause_210 : decode cX12_readClause 210 = .ok (.iconst 2, 1) := by decide +kernel
theorem dX12_readClause_211 : decode cX12_readClause 211 = .ok (.if_icmp .eq 8, 3) := by decide +kernel
theorem dX12_readClause_214 : decode cX12_readClause 214 = .ok (.iload_n 1, 1) := by decide +kernel
theorem dX12_readClause_215 : decode cX12_readClause 215 = .ok (.iconst 3, 1) := by decide +kernel
theorem dX12_readClause_216 : decode cX12_readClause 216 = .ok (.if_icmp .ne 85, 3) := by decide +kernel
theorem dX12_readClause_219 : decode cX12_readClause 219 = .ok (.aload_n 0, 1) := by decide +kernel
theorem dX12_readClause_220 : decode cX12_readClause 220 = .ok (.getfield 40, 3) := by decide +kernel
theorem dX12_readClause_223 : decode cX12_readClause 223 = .ok (.iload_n 2, 1) := by decide +kernel
theorem dX12_readClause_224 : decode cX12_readClause 224 = .ok (.iconst 1, 1) := by decide +kernel
theorem dX12_readClause_225 : decode cX12_readClause 225 = .ok (.iadd, 1) := by decide +kernel
theorem dX12_readClause_226 : decode cX12_readClause 226 = .ok (.aload_n 0, 1) := by decide +kernel
theorem dX12_readClause_227 : decode cX12_readClause 227 = .ok (.lconst 0, 1) := by decide +kernel
theorem dX12_readClause_228 : decode cX12_readClause 228 = .ok (.ldc2_w 110, 3) := by decide +kernel
theorem dX12_readClause_231 : decode cX12_readClause 231 = .ok (.invokevirtual 372, 3) := by decide +kernel
theorem dX12_readClause_234 : decode cX12_readClause 234 = .ok (.iastore, 1) := by decide +kernel
theorem dX12_readClause_235 : decode cX12_readClause 235 = .ok (.aload_n 0, 1) := by decide +kernel
theorem dX12_readClause_236 : decode cX12_readClause 236 = .ok (.getfield 202, 3) := by decide +kernel
theorem dX12_readClause_239 : decode cX12_readClause 239 = .ok (.ifCond .ne 8, 3) := by decide +kernel
theorem dX12_readClause_242 : decode cX12_readClause 242 = .ok (.aload_n 0, 1) := by decide +kernel
theorem dX12_readClause_243 : decode cX12_readClause 243 = .ok (.iconst 0, 1) := by decide +kernel
theorem dX12_readClause_244 : decode cX12_readClause 244 = .ok (.invokevirtual 386, 3) := by decide +kernel
theorem dX12_readClause_247 : decode cX12_readClause 247 = .ok (.aload_n 0, 1) := by decide +kernel
theorem dX12_readClause_248 : decode cX12_readClause 248 = .ok (.getfield 40, 3) := by decide +kernel
theorem dX12_readClause_251 : decode cX12_readClause 251 = .ok (.iload_n 2, 1) := by decide +kernel
theorem dX12_readClause_252 : decode cX12_readClause 252 = .ok (.iconst 4, 1) := by decide +kernel
theorem dX12_readClause_253 : decode cX12_readClause 253 = .ok (.iadd, 1) := by decide +kernel
theorem dX12_readClause_254 : decode cX12_readClause 254 = .ok (.aload_n 0, 1) := by decide +kernel
theorem dX12_readClause_255 : decode cX12_readClause 255 = .ok (.getfield 239, 3) := by decide +kernel
theorem dX12_readClause_258 : decode cX12_readClause 258 = .ok (.iastore, 1) := by decide +kernel
theorem dX12_readClause_259 : decode cX12_readClause 259 = .ok (.aload_n 0, 1) := by decide +kernel
theorem dX12_readClause_260 : decode cX12_readClause 260 = .ok (.iload_n 1, 1) := by decide +kernel
theorem dX12_readClause_261 : decode cX12_readClause 261 = .ok (.iconst 2, 1) := by decide +kernel
theorem dX12_readClause_262 : decode cX12_readClause 262 = .ok (.if_icmp .ne 13, 3) := by decide +kernel
theorem dX12_readClause_265 : decode cX12_readClause 265 = .ok (.aload_n 0, 1) := by decide +kernel
theorem dX12_readClause_266 : decode cX12_readClause 266 = .ok (.ldc2_w 389, 3) := by decide +kernel
theorem dX12_readClause_269 : decode cX12_readClause 269 = .ok (.invokevirtual 261, 3) := by decide +kernel
theorem dX12_readClause_272 : decode cX12_readClause 272 = .ok (.goto 10, 3) := by decide +kernel
theorem dX12_readClause_275 : decode cX12_readClause 275 = .ok (.aload_n 0, 1) := by decide +kernel
theorem dX12_readClause_276 : decode cX12_readClause 276 = .ok (.ldc2_w 391, 3) := by decide +kernel
theorem dX12_readClause_279 : decode cX12_readClause 279 = .ok (.invokevirtual 261, 3) := by decide +kernel
theorem dX12_readClause_282 : decode cX12_readClause 282 = .ok (.invokevirtual 235, 3) := by decide +kernel
theorem dX12_readClause_285 : decode cX12_readClause 285 = .ok (.aload_n 0, 1) := by decide +kernel
theorem dX12_readClause_286 : decode cX12_readClause 286 = .ok (.getfield 40, 3) := by decide +kernel
theorem dX12_readClause_289 : decode cX12_readClause 289 = .ok (.iload_n 2, 1) := by decide +kernel
theorem dX12_readClause_290 : decode cX12_readClause 290 = .ok (.iconst 2, 1) := by decide +kernel
theorem dX12_readClause_291 : decode cX12_readClause 291 = .ok (.iadd, 1) := by decide +kernel
theorem dX12_readClause_292 : decode cX12_readClause 292 = .ok (.aload_n 0, 1) := by decide +kernel
theorem dX12_readClause_293 : decode cX12_readClause 293 = .ok (.lconst 1, 1) := by decide +kernel
theorem dX12_readClause_294 : decode cX12_readClause 294 = .ok (.ldc2_w 393, 3) := by decide +kernel
theorem dX12_readClause_297 : decode cX12_readClause 297 = .ok (.invokevirtual 372, 3) := by decide +kernel
theorem dX12_readClause_300 : decode cX12_readClause 300 = .ok (.iastore, 1) := by decide +kernel
theorem dX12_readClause_301 : decode cX12_readClause 301 = .ok (.aload_n 0, 1) := by decide +kernel
theorem dX12_readClause_302 : decode cX12_readClause 302 = .ok (.getfield 40, 3) := by decide +kernel
theorem dX12_readClause_305 : decode cX12_readClause 305 = .ok (.iload_n 2, 1) := by decide +kernel
theorem dX12_readClause_306 : decode cX12_readClause 306 = .ok (.iconst 5, 1) := by decide +kernel
theorem dX12_readClause_307 : decode cX12_readClause 307 = .ok (.iadd, 1) := by decide +kernel
theorem dX12_readClause_308 : decode cX12_readClause 308 = .ok (.aload_n 0, 1) := by decide +kernel
theorem dX12_readClause_309 : decode cX12_readClause 309 = .ok (.getfield 239, 3) := by decide +kernel
theorem dX12_readClause_312 : decode cX12_readClause 312 = .ok (.iastore, 1) := by decide +kernel
theorem dX12_readClause_313 : decode cX12_readClause 313 = .ok (.aload_n 0, 1) := by decide +kernel
theorem dX12_readClause_314 : decode cX12_readClause 314 = .ok (.getfield 202, 3) := by decide +kernel
theorem dX12_readClause_317 : decode cX12_readClause 317 = .ok (.ifCond .ne 22, 3) := by decide +kernel
theorem dX12_readClause_320 : decode cX12_readClause 320 = .ok (.aload_n 0, 1) := by decide +kernel
theorem dX12_readClause_321 : decode cX12_readClause 321 = .ok (.ldc2_w 395, 3) := by decide +kernel
theorem dX12_readClause_324 : decode cX12_readClause 324 = .ok (.invokevirtual 261, 3) := by decide +kernel
theorem dX12_readClause_327 : decode cX12_readClause 327 = .ok (.ifCond .eq 12, 3) := by decide +kernel
theorem dX12_readClause_330 : decode cX12_readClause 330 = .ok (.aload_n 0, 1) := by decide +kernel
theorem dX12_readClause_331 : decode cX12_readClause 331 = .ok (.invokevirtual 206, 3) := by decide +kernel
theorem dX12_readClause_334 : decode cX12_readClause 334 = .ok (.aload_n 0, 1) := by decide +kernel
theorem dX12_readClause_335 : decode cX12_readClause 335 = .ok (.iconst 1, 1) := by decide +kernel
theorem dX12_readClause_336 : decode cX12_readClause 336 = .ok (.invokevirtual 386, 3) := by decide +kernel
theorem dX12_readClause_339 : decode cX12_readClause 339 = .ok (.aload_n 0, 1) := by decide +kernel
theorem dX12_readClause_340 : decode cX12_readClause 340 = .ok (.getfield 40, 3) := by decide +kernel
theorem dX12_readClause_343 : decode cX12_readClause 343 = .ok (.iload_n 2, 1) := by decide +kernel
theorem dX12_readClause_344 : decode cX12_readClause 344 = .ok (.bipush 6, 2) := by decide +kernel
theorem dX12_readClause_346 : decode cX12_readClause 346 = .ok (.iadd, 1) := by decide +kernel
theorem dX12_readClause_347 : decode cX12_readClause 347 = .ok (.aload_n 0, 1) := by decide +kernel
theorem dX12_readClause_348 : decode cX12_readClause 348 = .ok (.getfield 239, 3) := by decide +kernel
theorem dX12_readClause_351 : decode cX12_readClause 351 = .ok (.iastore, 1) := by decide +kernel
theorem dX12_readClause_352 : decode cX12_readClause 352 = .ok (.return_, 1) := by decide +kernel
theorem dX12_readExpression_0 : decode cX12_readExpression 0 = .ok (.aload_n 0, 1) := by decide +kernel
theorem dX12_readExpression_1 : decode cX12_readExpression 1 = .ok (.iconst 0, 1) := by decide +kernel
theorem dX12_readExpression_2 : decode cX12_readExpression 2 = .ok (.putfield 242, 3) := by decide +kernel
theorem dX12_readExpression_5 : decode cX12_readExpression 5 = .ok (.aload_n 0, 1) := by decide +kernel
theorem dX12_readExpression_6 : decode cX12_readExpression 6 = .ok (.iconst 0, 1) := by decide +kernel
theorem dX12_readExpression_7 : decode cX12_readExpression 7 = .ok (.putfield 287, 3) := by decide +kernel
theorem dX12_readExpression_10 : decode cX12_readExpression 10 = .ok (.iload_n 1, 1) := by decide +kernel
theorem dX12_readExpression_11 : decode cX12_readExpression 11 = .ok (.ifCond .eq 7, 3) := by decide +kernel
theorem dX12_readExpression_14 : decode cX12_readExpression 14 = .ok (.iconst 0, 1) := by decide +kernel
theorem dX12_readExpression_15 : decode cX12_readExpression 15 = .ok (.goto 4, 3) := by decide +kernel
theorem dX12_readExpression_18 : decode cX12_readExpression 18 = .ok (.iconst 1, 1) := by decide +kernel
theorem dX12_readExpression_19 : decode cX12_readExpression 19 = .ok (.istore_n 2, 1) := by decide +kernel
theorem dX12_readExpression_20 : decode cX12_readExpression 20 = .ok (.aload_n 0, 1) := by decide +kernel
theorem dX12_readExpression_21 : decode cX12_readExpression 21 = .ok (.getfield 202, 3) := by decide +kernel
theorem dX12_readExpression_24 : decode cX12_readExpression 24 = .ok (.ifCond .ne 52, 3) := by decide +kernel
theorem dX12_readExpression_27 : decode cX12_readExpression 27 = .ok (.iload_n 2, 1) := by decide +kernel
theorem dX12_readExpression_28 : decode cX12_readExpression 28 = .ok (.iconst 4, 1) := by decide +kernel
theorem dX12_readExpression_29 : decode cX12_readExpression 29 = .ok (.if_icmp .eq 47, 3) := by decide +kernel
theorem dX12_readExpression_32 : decode cX12_readExpression 32 = .ok (.iload_n 2, 1) := by decide +kernel
theorem dX12_readExpression_33 : decode cX12_readExpression 33 = .ok (.ifCond .ne 10, 3) := by decide +kernel
theorem dX12_readExpression_36 : decode cX12_readExpression 36 = .ok (.aload_n 0, 1) := by decide +kernel
theorem dX12_readExpression_37 : decode cX12_readExpression 37 = .ok (.invokevirtual 334, 3) := by decide +kernel
theorem dX12_readExpression_40 : decode cX12_readExpression 40 = .ok (.goto 32, 3) := by decide +kernel
theorem dX12_readExpression_43 : decode cX12_readExpression 43 = .ok (.iload_n 2, 1) := by decide +kernel
theorem dX12_readExpression_44 : decode cX12_readExpression 44 = .ok (.iconst 1, 1) := by decide +kernel
theorem dX12_readExpression_45 : decode cX12_readExpression 45 = .ok (.if_icmp .ne 10, 3) := by decide +kernel
theorem dX12_readExpression_48 : decode cX12_readExpression 48 = .ok (.aload_n 0, 1) := by decide +kernel
theorem dX12_readExpression_49 : decode cX12_readExpression 49 = .ok (.invokevirtual 317, 3) := by decide +kernel
theorem dX12_readExpression_52 : decode cX12_readExpression 52 = .ok (.goto 20, 3) := by decide +kernel
theorem dX12_readExpression_55 : decode cX12_readExpression 55 = .ok (.iload_n 2, 1) := by decide +kernel
theorem dX12_readExpression_56 : decode cX12_readExpression 56 = .ok (.iconst 3, 1) := by decide +kernel
theorem dX12_readExpression_57 : decode cX12_readExpression 57 = .ok (.if_icmp .ne 11, 3) := by decide +kernel
theorem dX12_readExpression_60 : decode cX12_readExpression 60 = .ok (.aload_n 0, 1) := by decide +kernel
theorem dX12_readExpression_61 : decode cX12_readExpression 61 = .ok (.iload_n 1, 1) := by decide +kernel
theorem dX12_readExpression_62 : decode cX12_readExpression 62 = .ok (.invokevirtual 337, 3) := by decide +kernel
theorem dX12_readExpression_65 : decode cX12_readExpression 65 = .ok (.goto 7, 3) := by decide +kernel
theorem dX12_readExpression_68 : decode cX12_readExpression 68 = .ok (.aload_n 0, 1) := by decide +kernel
theorem dX12_readExpression_69 : decode cX12_readExpression 69 = .ok (.invokevirtual 341, 3) := by decide +kernel
theorem dX12_readExpression_72 : decode cX12_readExpression 72 = .ok (.istore_n 2, 1) := by decide +kernel
theorem dX12_readExpression_73 : decode cX12_readExpression 73 = .ok (.goto (-53), 3) := by decide +kernel
theorem dX12_readExpression_76 : decode cX12_readExpression 76 = .ok (.aload_n 0, 1) := by decide +kernel
theorem dX12_readExpression_77 : decode cX12_readExpression 77 = .ok (.iconst 1, 1) := by decide +kernel
theorem dX12_readExpression_78 : decode cX12_readExpression 78 = .ok (.invokevirtual 320, 3) := by decide +kernel
theorem dX12_readExpression_81 : decode cX12_readExpression 81 = .ok (.return_, 1) := by decide +kernel
theorem dX12_readPart_0 : decode cX12_readPart 0 = .ok (.aload_n 0, 1) := by decide +kernel
theorem dX12_readPart_1 : decode cX12_readPart 1 = .ok (.bipush 91, 2) := by decide +kernel
theorem dX12_readPart_3 : decode cX12_readPart 3 = .ok (.invokevirtual 296, 3) := by decide +kernel
theorem dX12_readPart_6 : decode cX12_readPart 6 = .ok (.ifCond .eq 11, 3) := by decide +kernel
theorem dX12_readPart_9 : decode cX12_readPart 9 = .ok (.aload_n 0, 1) := by decide +kernel
theorem dX12_readPart_10 : decode cX12_readPart 10 = .ok (.bipush 31, 2) := by decide +kernel
theorem dX12_readPart_12 : decode cX12_readPart 12 = .ok (.invokevirtual 299, 3) := by decide +kernel
theorem dX12_readPart_15 : decode cX12_readPart 15 = .ok (.iconst 1, 1) := by decide +kernel
theorem dX12_readPart_16 : decode cX12_readPart 16 = .ok (.ireturn, 1) := by decide +kernel
theorem dX12_readPart_17 : decode cX12_readPart 17 = .ok (.aload_n 0, 1) := by decide +kernel
theorem dX12_readPart_18 : decode cX12_readPart 18 = .ok (.invokevirtual 302, 3) := by decide +kernel
theorem dX12_readPart_21 : decode cX12_readPart 21 = .ok (.istore_n 1, 1) := by decide +kernel
theorem dX12_readPart_22 : decode cX12_readPart 22 = .ok (.aload_n 0, 1) := by decide +kernel
theorem dX12_readPart_23 : decode cX12_readPart 23 = .ok (.getfield 222, 3) := by decide +kernel
theorem dX12_readPart_26 : decode cX12_readPart 26 = .ok (.iconst 2, 1) := by decide +kernel
theorem dX12_readPart_27 : decode cX12_readPart 27 = .ok (.if_icmp .ne 18, 3) := by decide +kernel
theorem dX12_readPart_30 : decode cX12_readPart 30 = .ok (.aload_n 0, 1) := by decide +kernel
theorem dX12_readPart_31 : decode cX12_readPart 31 = .ok (.getfield 212, 3) := by decide +kernel
theorem dX12_readPart_34 : decode cX12_readPart 34 = .ok (.ldc2_w 306, 3) := by decide +kernel
theorem dX12_readPart_37 : decode cX12_readPart 37 = .ok (.lcmp, 1) := by decide +kernel
theorem dX12_readPart_38 : decode cX12_readPart 38 = .ok (.ifCond .gt 7, 3) := by decide +kernel
theorem dX12_readPart_41 : decode cX12_readPart 41 = .ok (.iconst 1, 1) := by decide +kernel
theorem dX12_readPart_42 : decode cX12_readPart 42 = .ok (.goto 4, 3) := by decide +kernel
theorem dX12_readPart_45 : decode cX12_readPart 45 = .ok (.iconst 0, 1) := by decide +kernel
theorem dX12_readPart_46 : decode cX12_readPart 46 = .ok (.istore_n 2, 1) := by decide +kernel
theorem dX12_readPart_47 : decode cX12_readPart 47 = .ok (.aload_n 0, 1) := by decide +kernel
theorem dX12_readPart_48 : decode cX12_readPart 48 = .ok (.iload_n 1, 1) := by decide +kernel
theorem dX12_readPart_49 : decode cX12_readPart 49 = .ok (.iconst (-1), 1) := by decide +kernel
theorem dX12_readPart_50 : decode cX12_readPart 50 = .ok (.if_icmp .ne 7, 3) := by decide +kernel
theorem dX12_readPart_53 : decode cX12_readPart 53 = .ok (.iload_n 2, 1) := by decide +kernel
theorem dX12_readPart_54 : decode cX12_readPart 54 = .ok (.ifCond .eq 7, 3) := by decide +kernel
theorem dX12_readPart_57 : decode cX12_readPart 57 = .ok (.iconst 1, 1) := by decide +kernel
theorem dX12_readPart_58 : decode cX12_readPart 58 = .ok (.goto 4, 3) := by decide +kernel
theorem dX12_readPart_61 : decode cX12_readPart 61 = .ok (.iconst 0, 1) := by decide +kernel
theorem dX12_readPart_62 : decode cX12_readPart 62 = .ok (.iload_n 1, 1) := by decide +kernel
theorem dX12_readPart_63 : decode cX12_readPart 63 = .ok (.iconst (-1), 1) := by decide +kernel
theorem dX12_readPart_64 : decode cX12_readPart 64 = .ok (.if_icmp .ne 7, 3) := by decide +kernel
theorem dX12_readPart_67 : decode cX12_readPart 67 = .ok (.iconst 0, 1) := by decide +kernel
theorem dX12_readPart_68 : decode cX12_readPart 68 = .ok (.goto 4, 3) := by decide +kernel
theorem dX12_readPart_71 : decode cX12_readPart 71 = .ok (.iload_n 1, 1) := by decide +kernel
theorem dX12_readPart_72 : decode cX12_readPart 72 = .ok (.iload_n 2, 1) := by decide +kernel
theorem dX12_readPart_73 : decode cX12_readPart 73 = .ok (.ifCond .eq 11, 3) := by decide +kernel
theorem dX12_readPart_76 : decode cX12_readPart 76 = .ok (.aload_n 0, 1) := by decide +kernel
theorem dX12_readPart_77 : decode cX12_readPart 77 = .ok (.getfield 212, 3) := by decide +kernel
theorem dX12_readPart_80 : decode cX12_readPart 80 = .ok (.l2i, 1) := by decide +kernel
theorem dX12_readPart_81 : decode cX12_readPart 81 = .ok (.goto 4, 3) := by decide +kernel
theorem dX12_readPart_84 : decode cX12_readPart 84 = .ok (.iconst 0, 1) := by decide +kernel
theorem dX12_readPart_85 : decode cX12_readPart 85 = .ok (.invokevirtual 308, 3) := by decide +kernel
theorem dX12_readPart_88 : decode cX12_readPart 88 = .ok (.iconst 3, 1) := by decide +kernel
theorem dX12_readPart_89 : decode cX12_readPart 89 = .ok (.ireturn, 1) := by decide +kernel
theorem dX12_readPlain_0 : decode cX12_readPlain 0 = .ok (.aload_n 0, 1) := by decide +kernel
theorem dX12_readPlain_1 : decode cX12_readPlain 1 = .ok (.ldc2_w 312, 3) := by decide +kernel
theorem dX12_readPlain_4 : decode cX12_readPlain 4 = .ok (.invokevirtual 261, 3) := by decide +kernel
theorem dX12_readPlain_7 : decode cX12_readPlain 7 = .ok (.ifCond .eq 16, 3) := by decide +kernel
theorem dX12_readPlain_10 : decode cX12_readPlain 10 = .ok (.aload_n 0, 1) := by decide +kernel
theorem dX12_readPlain_11 : decode cX12_readPlain 11 = .ok (.bipush 27, 2) := by decide +kernel
theorem dX12_readPlain_13 : decode cX12_readPlain 13 = .ok (.iconst 0, 1) := by decide +kernel
theorem dX12_readPlain_14 : decode cX12_readPlain 14 = .ok (.invokevirtual 290, 3) := by decide +kernel
theorem dX12_readPlain_17 : decode cX12_readPlain 17 = .ok (.aload_n 0, 1) := by decide +kernel
theorem dX12_readPlain_18 : decode cX12_readPlain 18 = .ok (.invokevirtual 206, 3) := by decide +kernel
theorem dX12_readPlain_21 : decode cX12_readPlain 21 = .ok (.iconst 0, 1) := by decide +kernel
theorem dX12_readPlain_22 : decode cX12_readPlain 22 = .ok (.ireturn, 1) := by decide +kernel
theorem dX12_readPlain_23 : decode cX12_readPlain 23 = .ok (.aload_n 0, 1) := by decide +kernel
theorem dX12_readPlain_24 : decode cX12_readPlain 24 = .ok (.bipush 40, 2) := by decide +kernel
theorem dX12_readPlain_26 : decode cX12_readPlain 26 = .ok (.invokevirtual 296, 3) := by decide +kernel
theorem dX12_readPlain_29 : decode cX12_readPlain 29 = .ok (.ifCond .eq 11, 3) := by decide +kernel
theorem dX12_readPlain_32 : decode cX12_readPlain 32 = .ok (.aload_n 0, 1) := by decide +kernel
theorem dX12_readPlain_33 : decode cX12_readPlain 33 = .ok (.bipush 30, 2) := by decide +kernel
theorem dX12_readPlain_35 : decode cX12_readPlain 35 = .ok (.invokevirtual 299, 3) := by decide +kernel
theorem dX12_readPlain_38 : decode cX12_readPlain 38 = .ok (.iconst 0, 1) := by decide +kernel
theorem dX12_readPlain_39 : decode cX12_readPlain 39 = .ok (.ireturn, 1) := by decide +kernel
theorem dX12_readPlain_40 : decode cX12_readPlain 40 = .ok (.aload_n 0, 1) := by decide +kernel
theorem dX12_readPlain_41 : decode cX12_readPlain 41 = .ok (.invokevirtual 314, 3) := by decide +kernel
theorem dX12_readPlain_44 : decode cX12_readPlain 44 = .ok (.istore_n 1, 1) := by decide +kernel
theorem dX12_readPlain_45 : decode cX12_readPlain 45 = .ok (.iload_n 1, 1) := by decide +kernel
theorem dX12_readPlain_46 : decode cX12_readPlain 46 = .ok (.iconst (-1), 1) := by decide +kernel
theorem dX12_readPlain_47 : decode cX12_readPlain 47 = .ok (.if_icmp .eq 12, 3) := by decide +kernel
theorem dX12_readPlain_50 : decode cX12_readPlain 50 = .ok (.aload_n 0, 1) := by decide +kernel
theorem dX12_readPlain_51 : decode cX12_readPlain 51 = .ok (.iconst 1, 1) := by decide +kernel
theorem dX12_readPlain_52 : decode cX12_readPlain 52 = .ok (.iload_n 1, 1) := by decide +kernel
theorem dX12_readPlain_53 : decode cX12_readPlain 53 = .ok (.iconst 0, 1) := by decide +kernel
theorem dX12_readPlain_54 : decode cX12_readPlain 54 = .ok (.invokevirtual 308, 3) := by decide +kernel
theorem dX12_readPlain_57 : decode cX12_readPlain 57 = .ok (.iconst 2, 1) := by decide +kernel
theorem dX12_readPlain_58 : decode cX12_readPlain 58 = .ok (.ireturn, 1) := by decide +kernel
theorem dX12_readPlain_59 : decode cX12_readPlain 59 = .ok (.aload_n 0, 1) := by decide +kernel
theorem dX12_readPlain_60 : decode cX12_readPlain 60 = .ok (.invokevirtual 317, 3) := by decide +kernel
theorem dX12_readPlain_63 : decode cX12_readPlain 63 = .ok (.ireturn, 1) := by decide +kernel
theorem dX12_readText_0 : decode cX12_readText 0 = .ok (.aload_n 0, 1) := by decide +kernel
theorem dX12_readText_1 : decode cX12_readText 1 = .ok (.invokevirtual 397, 3) := by decide +kernel
theorem dX12_readText_4 : decode cX12_readText 4 = .ok (.aload_n 0, 1) := by decide +kernel
theorem dX12_readText_5 : decode cX12_readText 5 = .ok (.iconst 0, 1) := by decide +kernel
theorem dX12_readText_6 : decode cX12_readText 6 = .ok (.putfield 367, 3) := by decide +kernel
theorem dX12_readText_9 : decode cX12_readText 9 = .ok (.aload_n 0, 1) := by decide +kernel
theorem dX12_readText_10 : decode cX12_readText 10 = .ok (.iconst 0, 1) := by decide +kernel
theorem dX12_readText_11 : decode cX12_readText 11 = .ok (.putfield 239, 3) := by decide +kernel
theorem dX12_readText_14 : decode cX12_readText 14 = .ok (.aload_n 0, 1) := by decide +kernel
theorem dX12_readText_15 : decode cX12_readText 15 = .ok (.iconst 0, 1) := by decide +kernel
theorem dX12_readText_16 : decode cX12_readText 16 = .ok (.putfield 293, 3) := by decide +kernel
theorem dX12_readText_19 : decode cX12_readText 19 = .ok (.aload_n 0, 1) := by decide +kernel
theorem dX12_readText_20 : decode cX12_readText 20 = .ok (.invokevirtual 400, 3) := by decide +kernel
theorem dX12_readText_23 : decode cX12_readText 23 = .ok (.aload_n 0, 1) := by decide +kernel
theorem dX12_readText_24 : decode cX12_readText 24 = .ok (.getfield 202, 3) := by decide +kernel
theorem dX12_readText_27 : decode cX12_readText 27 = .ok (.ifCond .ne 23, 3) := by decide +kernel
theorem dX12_readText_30 : decode cX12_readText 30 = .ok (.aload_n 0, 1) := by decide +kernel
theorem dX12_readText_31 : decode cX12_readText 31 = .ok (.bipush 59, 2) := by decide +kernel
theorem dX12_readText_33 : decode cX12_readText 33 = .ok (.invokevirtual 296, 3) := by decide +kernel
theorem dX12_readText_36 : decode cX12_readText 36 = .ok (.ifCond .eq 14, 3) := by decide +kernel
theorem dX12_readText_39 : decode cX12_readText 39 = .ok (.aload_n 0, 1) := by decide +kernel
theorem dX12_readText_40 : decode cX12_readText 40 = .ok (.invokevirtual 206, 3) := by decide +kernel
theorem dX12_readText_43 : decode cX12_readText 43 = .ok (.aload_n 0, 1) := by decide +kernel
theorem dX12_readText_44 : decode cX12_readText 44 = .ok (.invokevirtual 400, 3) := by decide +kernel
theorem dX12_readText_47 : decode cX12_readText 47 = .ok (.goto (-24), 3) := by decide +kernel
theorem dX12_readText_50 : decode cX12_readText 50 = .ok (.aload_n 0, 1) := by decide +kernel
theorem dX12_readText_51 : decode cX12_readText 51 = .ok (.getfield 202, 3) := by decide +kernel
theorem dX12_readText_54 : decode cX12_readText 54 = .ok (.ifCond .ne 15, 3) := by decide +kernel
theorem dX12_readText_57 : decode cX12_readText 57 = .ok (.aload_n 0, 1) := by decide +kernel
theorem dX12_readText_58 : decode cX12_readText 58 = .ok (.getfield 222, 3) := by decide +kernel
theorem dX12_readText_61 : decode cX12_readText 61 = .ok (.ifCond .eq 8, 3) := by decide +kernel
theorem dX12_readText_64 : decode cX12_readText 64 = .ok (.aload_n 0, 1) := by decide +kernel
theorem dX12_readText_65 : decode cX12_readText 65 = .ok (.iconst 0, 1) := by decide +kernel
theorem dX12_readText_66 : decode cX12_readText 66 = .ok (.invokevirtual 235, 3) := by decide +kernel
theorem dX12_readText_69 : decode cX12_readText 69 = .ok (.aload_n 0, 1) := by decide +kernel
theorem dX12_readText_70 : decode cX12_readText 70 = .ok (.getfield 202, 3) := by decide +kernel
theorem dX12_readText_73 : decode cX12_readText 73 = .ok (.ifCond .eq 5, 3) := by decide +kernel
theorem dX12_readText_76 : decode cX12_readText 76 = .ok (.iconst 0, 1) := by decide +kernel
theorem dX12_readText_77 : decode cX12_readText 77 = .ok (.ireturn, 1) := by decide +kernel
theorem dX12_readText_78 : decode cX12_readText 78 = .ok (.aload_n 0, 1) := by decide +kernel
theorem dX12_readText_79 : decode cX12_readText 79 = .ok (.getfield 7, 3) := by decide +kernel
theorem dX12_readText_82 : decode cX12_readText 82 = .ok (.iconst 4, 1) := by decide +kernel
theorem dX12_readText_83 : decode cX12_readText 83 = .ok (.iaload, 1) := by decide +kernel
theorem dX12_readText_84 : decode cX12_readText 84 = .ok (.invokestatic 403, 3) := by decide +kernel
theorem dX12_readText_87 : decode cX12_readText 87 = .ok (.istore_n 2, 1) := by decide +kernel
theorem dX12_readText_88 : decode cX12_readText 88 = .ok (.aload_n 0, 1) := by decide +kernel
theorem dX12_readText_89 : decode cX12_readText 89 = .ok (.getfield 7, 3) := by decide +kernel
theorem dX12_readText_92 : decode cX12_readText 92 = .ok (.iload_n 2, 1) := by decide +kernel
theorem dX12_readText_93 : decode cX12_readText 93 = .ok (.iload_n 1, 1) := by decide +kernel
theorem dX12_readText_94 : decode cX12_readText 94 = .ok (.iastore, 1) := by decide +kernel
theorem dX12_readText_95 : decode cX12_readText 95 = .ok (.aload_n 0, 1) := by decide +kernel
theorem dX12_readText_96 : decode cX12_readText 96 = .ok (.getfield 7, 3) := by decide +kernel
theorem dX12_readText_99 : decode cX12_readText 99 = .ok (.iload_n 2, 1) := by decide +kernel
theorem dX12_readText_100 : decode cX12_readText 100 = .ok (.iconst 1, 1) := by decide +kernel
theorem dX12_readText_101 : decode cX12_readText 101 = .ok (.iadd, 1) := by decide +kernel
theorem dX12_readText_102 : decode cX12_readText 102 = .ok (.aload_n 0, 1) := by decide +kernel
theorem dX12_readText_103 : decode cX12_readText 103 = .ok (.getfield 367, 3) := by decide +kernel
theorem dX12_readText_106 : decode cX12_readText 106 = .ok (.iastore, 1) := by decide +kernel
theorem dX12_readText_107 : decode cX12_readText 107 = .ok (.iconst 0, 1) := by decide +kernel
theorem dX12_readText_108 : decode cX12_readText 108 = .ok (.istore_n 3, 1) := by decide +kernel
theorem dX12_readText_109 : decode cX12_readText 109 = .ok (.iload_n 3, 1) := by decide +kernel
theorem dX12_readText_110 : decode cX12_readText 110 = .ok (.bipush 10, 2) := by decide +kernel
theorem dX12_readText_112 : decode cX12_readText 112 = .ok (.aload_n 0, 1) := by decide +kernel
theorem dX12_readText_113 : decode cX12_readText 113 = .ok (.getfield 367, 3) := by decide +kernel
theorem dX12_readText_116 : decode cX12_readText 116 = .ok (.imul, 1) := by decide +kernel
theorem dX12_readText_117 : decode cX12_readText 117 = .ok (.if_icmp .ge 25, 3) := by decide +kernel
theorem dX12_readText_120 : decode cX12_readText 120 = .ok (.aload_n 0, 1) := by decide +kernel
theorem dX12_readText_121 : decode cX12_readText 121 = .ok (.getfield 7, 3) := by decide +kernel
theorem dX12_readText_124 : decode cX12_readText 124 = .ok (.iload_n 2, 1) := by decide +kernel
theorem dX12_readText_125 : decode cX12_readText 125 = .ok (.iconst 2, 1) := by decide +kernel
theorem dX12_readText_126 : decode cX12_readText 126 = .ok (.iadd, 1) := by decide +kernel
theorem dX12_readText_127 : decode cX12_readText 127 = .ok (.iload_n 3, 1) := by decide +kernel
theorem dX12_readText_128 : decode cX12_readText 128 = .ok (.iadd, 1) := by decide +kernel
theorem dX12_readText_129 : decode cX12_readText 129 = .ok (.aload_n 0, 1) := by decide +kernel
theorem dX12_readText_130 : decode cX12_readText 130 = .ok (.getfield 40, 3) := by decide +kernel
theorem dX12_readText_133 : decode cX12_readText 133 = .ok (.iload_n 3, 1) := by decide +kernel
theorem dX12_readText_134 : decode cX12_readText 134 = .ok (.iaload, 1) := by decide +kernel
theorem dX12_readText_135 : decode cX12_readText 135 = .ok (.iastore, 1) := by decide +kernel
theorem dX12_readText_136 : decode cX12_readText 136 = .ok (.iinc 3 1, 3) := by decide +kernel
theorem dX12_readText_139 : decode cX12_readText 139 = .ok (.goto (-30), 3) := by decide +kernel
theorem dX12_readText_142 : decode cX12_readText 142 = .ok (.iconst 0, 1) := by decide +kernel
theorem dX12_readText_143 : decode cX12_readText 143 = .ok (.istore_n 3, 1) := by decide +kernel
theorem dX12_readText_144 : decode cX12_readText 144 = .ok (.iload_n 3, 1) := by decide +kernel
theorem dX12_readText_145 : decode cX12_readText 145 = .ok (.aload_n 0, 1) := by decide +kernel
theorem dX12_readText_146 : decode cX12_readText 146 = .ok (.getfield 239, 3) := by decide +kernel
theorem dX12_readText_149 : decode cX12_readText 149 = .ok (.if_icmp .ge 49, 3) := by decide +kernel
theorem dX12_readText_152 : decode cX12_readText 152 = .ok (.aload_n 0, 1) := by decide +kernel
theorem dX12_readText_153 : decode cX12_readText 153 = .ok (.getfield 7, 3) := by decide +kernel
theorem dX12_readText_156 : decode cX12_readText 156 = .ok (.iload_n 2, 1) := by decide +kernel
theorem dX12_readText_157 : decode cX12_readText 157 = .ok (.bipush 122, 2) := by decide +kernel
theorem dX12_readText_159 : decode cX12_readText 159 = .ok (.iadd, 1) := by decide +kernel
theorem dX12_readText_160 : decode cX12_readText 160 = .ok (.iconst 2, 1) := by decide +kernel
theorem dX12_readText_161 : decode cX12_readText 161 = .ok (.iload_n 3, 1) := by decide +kernel
theorem dX12_readText_162 : decode cX12_readText 162 = .ok (.imul, 1) := by decide +kernel
theorem dX12_readText_163 : decode cX12_readText 163 = .ok (.iadd, 1) := by decide +kernel
theorem dX12_readText_164 : decode cX12_readText 164 = .ok (.aload_n 0, 1) := by decide +kernel
theorem dX12_readText_165 : decode cX12_readText 165 = .ok (.getfield 43, 3) := by decide +kernel
theorem dX12_readText_168 : decode cX12_readText 168 = .ok (.iload_n 3, 1) := by decide +kernel
theorem dX12_readText_169 : decode cX12_readText 169 = .ok (.iaload, 1) := by decide +kernel
theorem dX12_readText_170 : decode cX12_readText 170 = .ok (.iastore, 1) := by decide +kernel
theorem dX12_readText_171 : decode cX12_readText 171 = .ok (.aload_n 0, 1) := by decide +kernel
theorem dX12_readText_172 : decode cX12_readText 172 = .ok (.getfield 7, 3) := by decide +kernel
theorem dX12_readText_175 : decode cX12_readText 175 = .ok (.iload_n 2, 1) := by decide +kernel
theorem dX12_readText_176 : decode cX12_readText 176 = .ok (.bipush 122, 2) := by decide +kernel
theorem dX12_readText_178 : decode cX12_readText 178 = .ok (.iadd, 1) := by decide +kernel
theorem dX12_readText_179 : decode cX12_readText 179 = .ok (.iconst 2, 1) := by decide +kernel
theorem dX12_readText_180 : decode cX12_readText 180 = .ok (.iload_n 3, 1) := by decide +kernel
theorem dX12_readText_181 : decode cX12_readText 181 = .ok (.imul, 1) := by decide +kernel
theorem dX12_readText_182 : decode cX12_readText 182 = .ok (.iadd, 1) := by decide +kernel
theorem dX12_readText_183 : decode cX12_readText 183 = .ok (.iconst 1, 1) := by decide +kernel
theorem dX12_readText_184 : decode cX12_readText 184 = .ok (.iadd, 1) := by decide +kernel
theorem dX12_readText_185 : decode cX12_readText 185 = .ok (.aload_n 0, 1) := by decide +kernel
theorem dX12_readText_186 : decode cX12_readText 186 = .ok (.getfield 46, 3) := by decide +kernel
theorem dX12_readText_189 : decode cX12_readText 189 = .ok (.iload_n 3, 1) := by decide +kernel
theorem dX12_readText_190 : decode cX12_readText 190 = .ok (.iaload, 1) := by decide +kernel
theorem dX12_readText_191 : decode cX12_readText 191 = .ok (.iastore, 1) := by decide +kernel
theorem dX12_readText_192 : decode cX12_readText 192 = .ok (.iinc 3 1, 3) := by decide +kernel
theorem dX12_readText_195 : decode cX12_readText 195 = .ok (.goto (-51), 3) := by decide +kernel
theorem dX12_readText_198 : decode cX12_readText 198 = .ok (.aload_n 0, 1) := by decide +kernel
theorem dX12_readText_199 : decode cX12_readText 199 = .ok (.getfield 7, 3) := by decide +kernel
theorem dX12_readText_202 : decode cX12_readText 202 = .ok (.iconst 4, 1) := by decide +kernel
theorem dX12_readText_203 : decode cX12_readText 203 = .ok (.dup2, 1) := by decide +kernel
theorem dX12_readText_204 : decode cX12_readText 204 = .ok (.iaload, 1) := by decide +kernel
theorem dX12_readText_205 : decode cX12_readText 205 = .ok (.iconst 1, 1) := by decide +kernel
theorem dX12_readText_206 : decode cX12_readText 206 = .ok (.iadd, 1) := by decide +kernel
theorem dX12_readText_207 : decode cX12_readText 207 = .ok (.iastore, 1) := by decide +kernel
theorem dX12_readText_208 : decode cX12_readText 208 = .ok (.iconst 1, 1) := by decide +kernel
theorem dX12_readText_209 : decode cX12_readText 209 = .ok (.ireturn, 1) := by decide +kernel
theorem dX12_settle_0 : decode cX12_settle 0 = .ok (.aload_n 0, 1) := by decide +kernel
theorem dX12_settle_1 : decode cX12_settle 1 = .ok (.getfield 242, 3) := by decide +kernel
theorem dX12_settle_4 : decode cX12_settle 4 = .ok (.ifCond .le 97, 3) := by decide +kernel
theorem dX12_settle_7 : decode cX12_settle 7 = .ok (.aload_n 0, 1) := by decide +kernel
theorem dX12_settle_8 : decode cX12_settle 8 = .ok (.getfield 49, 3) := by decide +kernel
theorem dX12_settle_11 : decode cX12_settle 11 = .ok (.aload_n 0, 1) := by decide +kernel
theorem dX12_settle_12 : decode cX12_settle 12 = .ok (.getfield 242, 3) := by decide +kernel
theorem dX12_settle_15 : decode cX12_settle 15 = .ok (.iconst 1, 1) := by decide +kernel
theorem dX12_settle_16 : decode cX12_settle 16 = .ok (.isub, 1) := by decide +kernel
theorem dX12_settle_17 : decode cX12_settle 17 = .ok (.iaload, 1) := by decide +kernel
theorem dX12_settle_18 : decode cX12_settle 18 = .ok (.invokestatic 245, 3) := by decide +kernel
theorem dX12_settle_21 : decode cX12_settle 21 = .ok (.iload_n 1, 1) := by decide +kernel
theorem dX12_settle_22 : decode cX12_settle 22 = .ok (.if_icmp .lt 79, 3) := by decide +kernel
theorem dX12_settle_25 : decode cX12_settle 25 = .ok (.aload_n 0, 1) := by decide +kernel
theorem dX12_settle_26 : decode cX12_settle 26 = .ok (.dup, 1) := by decide +kernel
theorem dX12_settle_27 : decode cX12_settle 27 = .ok (.getfield 242, 3) := by decide +kernel
theorem dX12_settle_30 : decode cX12_settle 30 = .ok (.iconst 1, 1) := by decide +kernel
theorem dX12_settle_31 : decode cX12_settle 31 = .ok (.isub, 1) := by decide +kernel
theorem dX12_settle_32 : decode cX12_settle 32 = .ok (.putfield 242, 3) := by decide +kernel
theorem dX12_settle_35 : decode cX12_settle 35 = .ok (.aload_n 0, 1) := by decide +kernel
theorem dX12_settle_36 : decode cX12_settle 36 = .ok (.getfield 49, 3) := by decide +kernel
theorem dX12_settle_39 : decode cX12_settle 39 = .ok (.aload_n 0, 1) := by decide +kernel
theorem dX12_settle_40 : decode cX12_settle 40 = .ok (.getfield 242, 3) := by decide +kernel
theorem dX12_settle_43 : decode cX12_settle 43 = .ok (.iaload, 1) := by decide +kernel
theorem dX12_settle_44 : decode cX12_settle 44 = .ok (.bipush 28, 2) := by decide +kernel
theorem dX12_settle_46 : decode cX12_settle 46 = .ok (.if_icmp .eq 17, 3) := by decide +kernel
theorem dX12_settle_49 : decode cX12_settle 49 = .ok (.aload_n 0, 1) := by decide +kernel
theorem dX12_settle_50 : decode cX12_settle 50 = .ok (.getfield 49, 3) := by decide +kernel
theorem dX12_settle_53 : decode cX12_settle 53 = .ok (.aload_n 0, 1) := by decide +kernel
theorem dX12_settle_54 : decode cX12_settle 54 = .ok (.getfield 242, 3) := by decide +kernel
theorem dX12_settle_57 : decode cX12_settle 57 = .ok (.iaload, 1) := by decide +kernel
theorem dX12_settle_58 : decode cX12_settle 58 = .ok (.bipush 29, 2) := by decide +kernel
theorem dX12_settle_60 : decode cX12_settle 60 = .ok (.if_icmp .ne 24, 3) := by decide +kernel
theorem dX12_settle_63 : decode cX12_settle 63 = .ok (.aload_n 0, 1) := by decide +kernel
theorem dX12_settle_64 : decode cX12_settle 64 = .ok (.getfield 46, 3) := by decide +kernel
theorem dX12_settle_67 : decode cX12_settle 67 = .ok (.aload_n 0, 1) := by decide +kernel
theorem dX12_settle_68 : decode cX12_settle 68 = .ok (.getfield 52, 3) := by decide +kernel
theorem dX12_settle_71 : decode cX12_settle 71 = .ok (.aload_n 0, 1) := by decide +kernel
theorem dX12_settle_72 : decode cX12_settle 72 = .ok (.getfield 242, 3) := by decide +kernel
theorem dX12_settle_75 : decode cX12_settle 75 = .ok (.iaload, 1) := by decide +kernel
theorem dX12_settle_76 : decode cX12_settle 76 = .ok (.aload_n 0, 1) := by decide +kernel
theorem dX12_settle_77 : decode cX12_settle 77 = .ok (.getfield 239, 3) := by decide +kernel
theorem dX12_settle_80 : decode cX12_settle 80 = .ok (.iastore, 1) := by decide +kernel
theorem dX12_settle_81 : decode cX12_settle 81 = .ok (.goto (-81), 3) := by decide +kernel
theorem dX12_settle_84 : decode cX12_settle 84 = .ok (.aload_n 0, 1) := by decide +kernel
theorem dX12_settle_85 : decode cX12_settle 85 = .ok (.aload_n 0, 1) := by decide +kernel
theorem dX12_settle_86 : decode cX12_settle 86 = .ok (.getfield 49, 3) := by decide +kernel
theorem dX12_settle_89 : decode cX12_settle 89 = .ok (.aload_n 0, 1) := by decide +kernel
theorem dX12_settle_90 : decode cX12_settle 90 = .ok (.getfield 242, 3) := by decide +kernel
theorem dX12_settle_93 : decode cX12_settle 93 = .ok (.iaload, 1) := by decide +kernel
theorem dX12_settle_94 : decode cX12_settle 94 = .ok (.iconst 0, 1) := by decide +kernel
theorem dX12_settle_95 : decode cX12_settle 95 = .ok (.invokevirtual 248, 3) := by decide +kernel
theorem dX12_settle_98 : decode cX12_settle 98 = .ok (.goto (-98), 3) := by decide +kernel
theorem dX12_settle_101 : decode cX12_settle 101 = .ok (.return_, 1) := by decide +kernel
