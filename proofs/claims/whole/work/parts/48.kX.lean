theorem fgX_10 : xk_F RX 10 3 0 := ⟨RX, TX, 4, rfl, by decide, i_X, (xk_mem 160 (by decide +kernel) (by decide))⟩
theorem fpX_35 : xk_FP RX 35 1 8 false (.int) := ⟨RS, TS, 10, rfl, by decide, i_S, (xk_mem 80 (by decide +kernel) (by decide)), ⟨tS, tS_ok⟩, nS_ok, rfl, by decide +kernel, fun h => by cases h⟩
theorem fpX_39 : xk_FP RX 39 1 9 false (.int) := ⟨RS, TS, 10, rfl, by decide, i_S, (xk_mem 82 (by decide +kernel) (by decide)), ⟨tS, tS_ok⟩, nS_ok, rfl, by decide +kernel, fun h => by cases h⟩
theorem fgX_19 : xk_F RX 19 3 1 := ⟨RX, TX, 4, rfl, by decide, i_X, (xk_mem 161 (by decide +kernel) (by decide))⟩
theorem fpX_103 : xk_FP RX 103 0 1 false (.int) := ⟨RB, TB, 2, rfl, by decide, i_B, (xk_mem 116 (by decide +kernel) (by decide)), ⟨tB, tB_ok⟩, nB_ok, rfl, by decide +kernel, fun h => by cases h⟩
set_option maxRecDepth 100000 in
theorem kbX_71 : xk_CB RX 71 yS_extend cS_extend 7 (some .boolean) 2 := ⟨(xk_mem 184 (by rfl) rfl), (xk_mem 39 (by decide +kernel) (by decide)), (xk_mem 181 (by decide +kernel) (by decide)), by decide +kernel⟩
theorem kcX_71 : Cond.instanceMethod yS_extend ∈ xk_gt ∧ Cond.selects (yS_extend).cls yS_extend yS_extend ∈ xk_gt := ⟨(xk_mem 182 (by decide +kernel) (by decide)), (xk_mem 183 (by decide +kernel) (by decide))⟩
set_option maxRecDepth 100000 in
theorem kbX_75 : xk_CB RX 75 yS_removeLast cS_removeLast 2 (some .boolean) 0 := ⟨(xk_mem 236 (by rfl) rfl), (xk_mem 39 (by decide +kernel) (by decide)), (xk_mem 233 (by decide +kernel) (by decide)), by decide +kernel⟩
theorem kcX_75 : Cond.instanceMethod yS_removeLast ∈ xk_gt ∧ Cond.selects (yS_removeLast).cls yS_removeLast yS_removeLast ∈ xk_gt := ⟨(xk_mem 234 (by decide +kernel) (by decide)), (xk_mem 235 (by decide +kernel) (by decide))⟩
set_option maxRecDepth 100000 in
theorem kbX_79 : xk_CB RX 79 yS_repeatLast cS_repeatLast 2 (some .boolean) 0 := ⟨(xk_mem 244 (by rfl) rfl), (xk_mem 39 (by decide +kernel) (by decide)), (xk_mem 241 (by decide +kernel) (by decide)), by decide +kernel⟩
theorem kcX_79 : Cond.instanceMethod yS_repeatLast ∈ xk_gt ∧ Cond.selects (yS_repeatLast).cls yS_repeatLast yS_repeatLast ∈ xk_gt := ⟨(xk_mem 242 (by decide +kernel) (by decide)), (xk_mem 243 (by decide +kernel) (by decide))⟩
set_option maxRecDepth 100000 in
theorem kbX_82 : xk_CB RX 82 yS_openLast cS_openLast 5 (some .int) 0 := ⟨(xk_mem 263 (by rfl) rfl), (xk_mem 39 (by decide +kernel) (by decide)), (xk_mem 260 (by decide +kernel) (by decide)), by decide +kernel⟩
theorem kcX_82 : Cond.instanceMethod yS_openLast ∈ xk_gt ∧ Cond.selects (yS_openLast).cls yS_openLast yS_openLast ∈ xk_gt := ⟨(xk_mem 261 (by decide +kernel) (by decide)), (xk_mem 262 (by decide +kernel) (by decide))⟩
set_option maxRecDepth 100000 in
theorem kbX_86 : xk_CB RX 86 yS_lastRoot cS_lastRoot 1 (some .int) 0 := ⟨(xk_mem 188 (by rfl) rfl), (xk_mem 39 (by decide +kernel) (by decide)), (xk_mem 268 (by decide +kernel) (by decide)), by decide +kernel⟩
theorem kcX_86 : Cond.instanceMethod yS_lastRoot ∈ xk_gt ∧ Cond.selects (yS_lastRoot).cls yS_lastRoot yS_lastRoot ∈ xk_gt := ⟨(xk_mem 186 (by decide +kernel) (by decide)), (xk_mem 187 (by decide +kernel) (by decide))⟩
theorem fgX_89 : xk_F RX 89 1 6 := ⟨RS, TS, 10, rfl, by decide, i_S, (xk_mem 77 (by decide +kernel) (by decide))⟩
set_option maxRecDepth 100000 in
theorem kbX_93 : xk_CB RX 93 yB_room cB_room 1 (some .int) 0 := ⟨(xk_mem 272 (by rfl) rfl), (xk_mem 40 (by decide +kernel) (by decide)), (xk_mem 269 (by decide +kernel) (by decide)), by decide +kernel⟩
theorem kcX_93 : Cond.instanceMethod yB_room ∈ xk_gt ∧ Cond.selects (yB_room).cls yB_room yB_room ∈ xk_gt := ⟨(xk_mem 270 (by decide +kernel) (by decide)), (xk_mem 271 (by decide +kernel) (by decide))⟩
theorem fgX_96 : xk_F RX 96 1 3 := ⟨RS, TS, 10, rfl, by decide, i_S, (xk_mem 71 (by decide +kernel) (by decide))⟩
theorem fgX_103 : xk_F RX 103 0 1 := ⟨RB, TB, 2, rfl, by decide, i_B, (xk_mem 116 (by decide +kernel) (by decide))⟩
set_option maxRecDepth 100000 in
theorem kbX_99 : xk_CB RX 99 yS_appendNode cS_appendNode 7 none 2 := ⟨(xk_mem 276 (by rfl) rfl), (xk_mem 39 (by decide +kernel) (by decide)), (xk_mem 273 (by decide +kernel) (by decide)), by decide +kernel⟩
theorem kcX_99 : Cond.instanceMethod yS_appendNode ∈ xk_gt ∧ Cond.selects (yS_appendNode).cls yS_appendNode yS_appendNode ∈ xk_gt := ⟨(xk_mem 274 (by decide +kernel) (by decide)), (xk_mem 275 (by decide +kernel) (by decide))⟩
theorem fgX_23 : xk_F RX 23 3 2 := ⟨RX, TX, 4, rfl, by decide, i_X, (xk_mem 162 (by decide +kernel) (by decide))⟩
set_option maxRecDepth 100000 in
theorem kbX_106 : xk_CB RX 106 yF_byteOf cF_byteOf 3 (some .int) 2 := ⟨(xk_mem 202 (by rfl) rfl), (xk_mem 43 (by decide +kernel) (by decide)), (xk_mem 300 (by decide +kernel) (by decide)), by decide +kernel⟩
theorem kcX_106 : Cond.static yF_byteOf ∈ xk_gt := (xk_mem 201 (by decide +kernel) (by decide))
set_option maxRecDepth 100000 in
theorem kbX_110 : xk_CB RX 110 yB_append cB_append 2 none 1 := ⟨(xk_mem 280 (by rfl) rfl), (xk_mem 40 (by decide +kernel) (by decide)), (xk_mem 301 (by decide +kernel) (by decide)), by decide +kernel⟩
theorem kcX_110 : Cond.instanceMethod yB_append ∈ xk_gt ∧ Cond.selects (yB_append).cls yB_append yB_append ∈ xk_gt := ⟨(xk_mem 278 (by decide +kernel) (by decide)), (xk_mem 279 (by decide +kernel) (by decide))⟩
theorem fgX_31 : xk_F RX 31 3 3 := ⟨RX, TX, 4, rfl, by decide, i_X, (xk_mem 163 (by decide +kernel) (by decide))⟩
theorem fpX_114 : xk_FP RX 114 2 6 false (.int) := ⟨RR, TR, 9, rfl, by decide, i_R, (xk_mem 136 (by decide +kernel) (by decide)), ⟨tR, tR_ok⟩, nR_ok, rfl, by decide +kernel, fun h => by cases h⟩
set_option maxRecDepth 100000 in
theorem kbX_117 : xk_CB RX 117 yB_copyFrom cB_copyFrom 2 none 1 := ⟨(xk_mem 313 (by rfl) rfl), (xk_mem 40 (by decide +kernel) (by decide)), (xk_mem 310 (by decide +kernel) (by decide)), by decide +kernel⟩
theorem kcX_117 : Cond.instanceMethod yB_copyFrom ∈ xk_gt ∧ Cond.selects (yB_copyFrom).cls yB_copyFrom yB_copyFrom ∈ xk_gt := ⟨(xk_mem 311 (by decide +kernel) (by decide)), (xk_mem 312 (by decide +kernel) (by decide))⟩
set_option maxRecDepth 100000 in
theorem kbX_161 : xk_CB RX 161 yB_get cB_get 2 (some .int) 1 := ⟨(xk_mem 338 (by rfl) rfl), (xk_mem 40 (by decide +kernel) (by decide)), (xk_mem 408 (by decide +kernel) (by decide)), by decide +kernel⟩
theorem kcX_161 : Cond.instanceMethod yB_get ∈ xk_gt ∧ Cond.selects (yB_get).cls yB_get yB_get ∈ xk_gt := ⟨(xk_mem 336 (by decide +kernel) (by decide)), (xk_mem 337 (by decide +kernel) (by decide))⟩
theorem fgX_35 : xk_F RX 35 1 8 := ⟨RS, TS, 10, rfl, by decide, i_S, (xk_mem 80 (by decide +kernel) (by decide))⟩
theorem fgX_39 : xk_F RX 39 1 9 := ⟨RS, TS, 10, rfl, by decide, i_S, (xk_mem 82 (by decide +kernel) (by decide))⟩
theorem fgX_114 : xk_F RX 114 2 6 := ⟨RR, TR, 9, rfl, by decide, i_R, (xk_mem 136 (by decide +kernel) (by decide))⟩
theorem fgX_164 : xk_F RX 164 2 7 := ⟨RR, TR, 9, rfl, by decide, i_R, (xk_mem 138 (by decide +kernel) (by decide))⟩
theorem fgX_167 : xk_F RX 167 2 8 := ⟨RR, TR, 9, rfl, by decide, i_R, (xk_mem 140 (by decide +kernel) (by decide))⟩
set_option maxRecDepth 100000 in
theorem kbX_170 : xk_CB RX 170 yS_lastLength cS_lastLength 2 (some .int) 0 := ⟨(xk_mem 416 (by rfl) rfl), (xk_mem 39 (by decide +kernel) (by decide)), (xk_mem 413 (by decide +kernel) (by decide)), by decide +kernel⟩
theorem kcX_170 : Cond.instanceMethod yS_lastLength ∈ xk_gt ∧ Cond.selects (yS_lastLength).cls yS_lastLength yS_lastLength ∈ xk_gt := ⟨(xk_mem 414 (by decide +kernel) (by decide)), (xk_mem 415 (by decide +kernel) (by decide))⟩
set_option maxRecDepth 100000 in
theorem kbX_124 : xk_CB RX 124 yS_find cS_find 3 (some .int) 1 := ⟨(xk_mem 392 (by rfl) rfl), (xk_mem 39 (by decide +kernel) (by decide)), (xk_mem 389 (by decide +kernel) (by decide)), by decide +kernel⟩
theorem kcX_124 : Cond.instanceMethod yS_find ∈ xk_gt ∧ Cond.selects (yS_find).cls yS_find yS_find ∈ xk_gt := ⟨(xk_mem 390 (by decide +kernel) (by decide)), (xk_mem 391 (by decide +kernel) (by decide))⟩
theorem fgX_128 : xk_F RX 128 1 0 := ⟨RS, TS, 10, rfl, by decide, i_S, (xk_mem 66 (by decide +kernel) (by decide))⟩
theorem fgX_131 : xk_F RX 131 1 4 := ⟨RS, TS, 10, rfl, by decide, i_S, (xk_mem 73 (by decide +kernel) (by decide))⟩
theorem fgX_134 : xk_F RX 134 1 5 := ⟨RS, TS, 10, rfl, by decide, i_S, (xk_mem 75 (by decide +kernel) (by decide))⟩
set_option maxRecDepth 100000 in
theorem kbX_137 : xk_CB RX 137 yS_parentOf cS_parentOf 5 (some .int) 1 := ⟨(xk_mem 396 (by rfl) rfl), (xk_mem 39 (by decide +kernel) (by decide)), (xk_mem 393 (by decide +kernel) (by decide)), by decide +kernel⟩
theorem kcX_137 : Cond.instanceMethod yS_parentOf ∈ xk_gt ∧ Cond.selects (yS_parentOf).cls yS_parentOf yS_parentOf ∈ xk_gt := ⟨(xk_mem 394 (by decide +kernel) (by decide)), (xk_mem 395 (by decide +kernel) (by decide))⟩
set_option maxRecDepth 100000 in
theorem kbX_140 : xk_CB RX 140 yS_byteCount cS_byteCount 2 (some .int) 1 := ⟨(xk_mem 199 (by rfl) rfl), (xk_mem 39 (by decide +kernel) (by decide)), (xk_mem 398 (by decide +kernel) (by decide)), by decide +kernel⟩
theorem kcX_140 : Cond.instanceMethod yS_byteCount ∈ xk_gt ∧ Cond.selects (yS_byteCount).cls yS_byteCount yS_byteCount ∈ xk_gt := ⟨(xk_mem 197 (by decide +kernel) (by decide)), (xk_mem 198 (by decide +kernel) (by decide))⟩
set_option maxRecDepth 100000 in
theorem kbX_152 : xk_CB RX 152 yS_byteIn cS_byteIn 4 (some .int) 2 := ⟨(xk_mem 291 (by rfl) rfl), (xk_mem 39 (by decide +kernel) (by decide)), (xk_mem 403 (by decide +kernel) (by decide)), by decide +kernel⟩
theorem kcX_152 : Cond.instanceMethod yS_byteIn ∈ xk_gt ∧ Cond.selects (yS_byteIn).cls yS_byteIn yS_byteIn ∈ xk_gt := ⟨(xk_mem 289 (by decide +kernel) (by decide)), (xk_mem 290 (by decide +kernel) (by decide))⟩
set_option maxRecDepth 100000 in
theorem kbX_121 : xk_CB RX 121 yR_readTerm cR_readTerm 3 (some .int) 0 := ⟨(xk_mem 322 (by rfl) rfl), (xk_mem 41 (by decide +kernel) (by decide)), (xk_mem 319 (by decide +kernel) (by decide)), by decide +kernel⟩
theorem kcX_121 : Cond.instanceMethod yR_readTerm ∈ xk_gt ∧ Cond.selects (yR_readTerm).cls yR_readTerm yR_readTerm ∈ xk_gt := ⟨(xk_mem 320 (by decide +kernel) (by decide)), (xk_mem 321 (by decide +kernel) (by decide))⟩
set_option maxRecDepth 100000 in
theorem kbX_42 : xk_CB RX 42 yF_isKind cF_isKind 1 (some .boolean) 1 := ⟨(xk_mem 345 (by rfl) rfl), (xk_mem 43 (by decide +kernel) (by decide)), (xk_mem 426 (by decide +kernel) (by decide)), by decide +kernel⟩
theorem kcX_42 : Cond.static yF_isKind ∈ xk_gt := (xk_mem 344 (by decide +kernel) (by decide))
theorem ktX_52 : Cond.classLink RX 52 "java/lang/IllegalArgumentException" ∈ xk_gt := (xk_mem 428 (by decide +kernel) (by decide))
theorem kiX_IllegalArgumentException : Cond.initialized "java/lang/IllegalArgumentException" ∈ xk_gt := (xk_mem 47 (by decide +kernel) (by decide))
set_option maxRecDepth 100000 in
theorem kbX_48 : xk_CB RX 48 yF_fits cF_fits 3 (some .boolean) 2 := ⟨(xk_mem 368 (by rfl) rfl), (xk_mem 43 (by decide +kernel) (by decide)), (xk_mem 427 (by decide +kernel) (by decide)), by decide +kernel⟩
theorem kcX_48 : Cond.static yF_fits ∈ xk_gt := (xk_mem 367 (by decide +kernel) (by decide))
set_option maxRecDepth 100000 in
theorem kbX_59 : xk_CB RX 59 yS_put cS_put 7 (some .boolean) 2 := ⟨(xk_mem 497 (by rfl) rfl), (xk_mem 39 (by decide +kernel) (by decide)), (xk_mem 494 (by decide +kernel) (by decide)), by decide +kernel⟩
theorem kcX_59 : Cond.instanceMethod yS_put ∈ xk_gt ∧ Cond.selects (yS_put).cls yS_put yS_put ∈ xk_gt := ⟨(xk_mem 495 (by decide +kernel) (by decide)), (xk_mem 496 (by decide +kernel) (by decide))⟩
theorem ktX_62 : Cond.classLink RX 62 "java/lang/IllegalStateException" ∈ xk_gt := (xk_mem 499 (by decide +kernel) (by decide))
theorem kiX_IllegalStateException : Cond.initialized "java/lang/IllegalStateException" ∈ xk_gt := (xk_mem 50 (by decide +kernel) (by decide))
set_option maxRecDepth 100000 in
theorem kbX_143 : xk_CB RX 143 yF_hasNumber cF_hasNumber 1 (some .boolean) 1 := ⟨(xk_mem 533 (by rfl) rfl), (xk_mem 43 (by decide +kernel) (by decide)), (xk_mem 531 (by decide +kernel) (by decide)), by decide +kernel⟩
theorem kcX_143 : Cond.static yF_hasNumber ∈ xk_gt := (xk_mem 532 (by decide +kernel) (by decide))
theorem fgX_148 : xk_F RX 148 1 1 := ⟨RS, TS, 10, rfl, by decide, i_S, (xk_mem 68 (by decide +kernel) (by decide))⟩
set_option maxRecDepth 100000 in
theorem kbX_158 : xk_CB RX 158 yS_lastTwoAlike cS_lastTwoAlike 4 (some .boolean) 0 := ⟨(xk_mem 546 (by rfl) rfl), (xk_mem 39 (by decide +kernel) (by decide)), (xk_mem 543 (by decide +kernel) (by decide)), by decide +kernel⟩
theorem kcX_158 : Cond.instanceMethod yS_lastTwoAlike ∈ xk_gt ∧ Cond.selects (yS_lastTwoAlike).cls yS_lastTwoAlike yS_lastTwoAlike ∈ xk_gt := ⟨(xk_mem 544 (by decide +kernel) (by decide)), (xk_mem 545 (by decide +kernel) (by decide))⟩
