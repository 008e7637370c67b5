theorem fgR_28 : xk_F RR 28 2 7 := ⟨RR, TR, 9, rfl, by decide, i_R, (xk_mem 137 (by decide +kernel) (by decide))⟩
theorem fpR_28 : xk_FP RR 28 2 7 false (.int) := ⟨RR, TR, 9, rfl, by decide, i_R, (xk_mem 137 (by decide +kernel) (by decide)), ⟨tR, tR_ok⟩, nR_ok, rfl, by decide +kernel, fun h => by cases h⟩
theorem fpR_31 : xk_FP RR 31 2 8 false (.int) := ⟨RR, TR, 9, rfl, by decide, i_R, (xk_mem 139 (by decide +kernel) (by decide)), ⟨tR, tR_ok⟩, nR_ok, rfl, by decide +kernel, fun h => by cases h⟩
theorem fgR_34 : xk_F RR 34 2 0 := ⟨RR, TR, 9, rfl, by decide, i_R, (xk_mem 129 (by decide +kernel) (by decide))⟩
theorem fgR_22 : xk_F RR 22 2 5 := ⟨RR, TR, 9, rfl, by decide, i_R, (xk_mem 134 (by decide +kernel) (by decide))⟩
set_option maxRecDepth 100000 in
theorem kbR_117 : xk_CB RR 117 yB_get cB_get 2 (some .int) 1 := ⟨(xk_mem 338 (by rfl) rfl), (xk_mem 40 (by decide +kernel) (by decide)), (xk_mem 335 (by decide +kernel) (by decide)), by decide +kernel⟩
theorem kcR_117 : Cond.instanceMethod yB_get ∈ xk_gt ∧ Cond.selects (yB_get).cls yB_get yB_get ∈ xk_gt := ⟨(xk_mem 336 (by decide +kernel) (by decide)), (xk_mem 337 (by decide +kernel) (by decide))⟩
theorem fgR_42 : xk_F RR 42 0 1 := ⟨RB, TB, 2, rfl, by decide, i_B, (xk_mem 115 (by decide +kernel) (by decide))⟩
set_option maxRecDepth 100000 in
theorem kbR_73 : xk_CB RR 73 yR_fail cR_fail 3 none 2 := ⟨(xk_mem 342 (by rfl) rfl), (xk_mem 41 (by decide +kernel) (by decide)), (xk_mem 339 (by decide +kernel) (by decide)), by decide +kernel⟩
theorem kcR_73 : Cond.instanceMethod yR_fail ∈ xk_gt ∧ Cond.selects (yR_fail).cls yR_fail yR_fail ∈ xk_gt := ⟨(xk_mem 341 (by decide +kernel) (by decide)), (xk_mem 7 (by decide +kernel) (by decide))⟩
theorem fpR_22 : xk_FP RR 22 2 5 false (.int) := ⟨RR, TR, 9, rfl, by decide, i_R, (xk_mem 134 (by decide +kernel) (by decide)), ⟨tR, tR_ok⟩, nR_ok, rfl, by decide +kernel, fun h => by cases h⟩
theorem fgR_18 : xk_F RR 18 2 4 := ⟨RR, TR, 9, rfl, by decide, i_R, (xk_mem 133 (by decide +kernel) (by decide))⟩
theorem fgR_11 : xk_F RR 11 2 2 := ⟨RR, TR, 9, rfl, by decide, i_R, (xk_mem 131 (by decide +kernel) (by decide))⟩
theorem fgR_15 : xk_F RR 15 2 3 := ⟨RR, TR, 9, rfl, by decide, i_R, (xk_mem 132 (by decide +kernel) (by decide))⟩
theorem fpR_18 : xk_FP RR 18 2 4 false (.int) := ⟨RR, TR, 9, rfl, by decide, i_R, (xk_mem 133 (by decide +kernel) (by decide)), ⟨tR, tR_ok⟩, nR_ok, rfl, by decide +kernel, fun h => by cases h⟩
theorem klR_106 : Cond.constantLong RR 106 (2147483647) ∈ xk_gt := (xk_mem 358 (by decide +kernel) (by decide))
set_option maxRecDepth 100000 in
theorem kbR_108 : xk_CB RR 108 yF_unsignedGroups cF_unsignedGroups 3 (some .int) 1 := ⟨(xk_mem 218 (by rfl) rfl), (xk_mem 43 (by decide +kernel) (by decide)), (xk_mem 359 (by decide +kernel) (by decide)), by decide +kernel⟩
theorem kcR_108 : Cond.static yF_unsignedGroups ∈ xk_gt := (xk_mem 217 (by decide +kernel) (by decide))
set_option maxRecDepth 100000 in
theorem kbR_63 : xk_CB RR 63 yR_takeByte cR_takeByte 2 (some .int) 0 := ⟨(xk_mem 334 (by rfl) rfl), (xk_mem 41 (by decide +kernel) (by decide)), (xk_mem 331 (by decide +kernel) (by decide)), by decide +kernel⟩
theorem kcR_63 : Cond.instanceMethod yR_takeByte ∈ xk_gt ∧ Cond.selects (yR_takeByte).cls yR_takeByte yR_takeByte ∈ xk_gt := ⟨(xk_mem 333 (by decide +kernel) (by decide)), (xk_mem 6 (by decide +kernel) (by decide))⟩
set_option maxRecDepth 100000 in
theorem kbR_114 : xk_CB RR 114 yF_signedGroups cF_signedGroups 5 (some .int) 1 := ⟨(xk_mem 221 (by rfl) rfl), (xk_mem 43 (by decide +kernel) (by decide)), (xk_mem 365 (by decide +kernel) (by decide)), by decide +kernel⟩
theorem kcR_114 : Cond.static yF_signedGroups ∈ xk_gt := (xk_mem 220 (by decide +kernel) (by decide))
theorem klR_112 : Cond.constantLong RR 112 (-1) ∈ xk_gt := (xk_mem 364 (by decide +kernel) (by decide))
set_option maxRecDepth 100000 in
theorem kbR_99 : xk_CB RR 99 yR_takeUnsigned cR_takeUnsigned 5 (some .long) 0 := ⟨(xk_mem 357 (by rfl) rfl), (xk_mem 41 (by decide +kernel) (by decide)), (xk_mem 354 (by decide +kernel) (by decide)), by decide +kernel⟩
theorem kcR_99 : Cond.instanceMethod yR_takeUnsigned ∈ xk_gt ∧ Cond.selects (yR_takeUnsigned).cls yR_takeUnsigned yR_takeUnsigned ∈ xk_gt := ⟨(xk_mem 356 (by decide +kernel) (by decide)), (xk_mem 10 (by decide +kernel) (by decide))⟩
set_option maxRecDepth 100000 in
theorem kbR_103 : xk_CB RR 103 yR_takeSigned cR_takeSigned 7 (some .long) 0 := ⟨(xk_mem 363 (by rfl) rfl), (xk_mem 41 (by decide +kernel) (by decide)), (xk_mem 360 (by decide +kernel) (by decide)), by decide +kernel⟩
theorem kcR_103 : Cond.instanceMethod yR_takeSigned ∈ xk_gt ∧ Cond.selects (yR_takeSigned).cls yR_takeSigned yR_takeSigned ∈ xk_gt := ⟨(xk_mem 362 (by decide +kernel) (by decide)), (xk_mem 11 (by decide +kernel) (by decide))⟩
theorem fgR_38 : xk_F RR 38 2 1 := ⟨RR, TR, 9, rfl, by decide, i_R, (xk_mem 130 (by decide +kernel) (by decide))⟩
set_option maxRecDepth 100000 in
theorem kbR_92 : xk_CB RR 92 yS_setNode cS_setNode 5 none 3 := ⟨(xk_mem 375 (by rfl) rfl), (xk_mem 39 (by decide +kernel) (by decide)), (xk_mem 372 (by decide +kernel) (by decide)), by decide +kernel⟩
theorem kcR_92 : Cond.instanceMethod yS_setNode ∈ xk_gt ∧ Cond.selects (yS_setNode).cls yS_setNode yS_setNode ∈ xk_gt := ⟨(xk_mem 373 (by decide +kernel) (by decide)), (xk_mem 374 (by decide +kernel) (by decide))⟩
set_option maxRecDepth 100000 in
theorem kbR_96 : xk_CB RR 96 yS_setByte cS_setByte 6 none 3 := ⟨(xk_mem 206 (by rfl) rfl), (xk_mem 39 (by decide +kernel) (by decide)), (xk_mem 376 (by decide +kernel) (by decide)), by decide +kernel⟩
theorem kcR_96 : Cond.instanceMethod yS_setByte ∈ xk_gt ∧ Cond.selects (yS_setByte).cls yS_setByte yS_setByte ∈ xk_gt := ⟨(xk_mem 204 (by decide +kernel) (by decide)), (xk_mem 205 (by decide +kernel) (by decide))⟩
set_option maxRecDepth 100000 in
theorem kbR_84 : xk_CB RR 84 yR_takeNumber cR_takeNumber 2 (some .long) 1 := ⟨(xk_mem 353 (by rfl) rfl), (xk_mem 41 (by decide +kernel) (by decide)), (xk_mem 350 (by decide +kernel) (by decide)), by decide +kernel⟩
theorem kcR_84 : Cond.instanceMethod yR_takeNumber ∈ xk_gt ∧ Cond.selects (yR_takeNumber).cls yR_takeNumber yR_takeNumber ∈ xk_gt := ⟨(xk_mem 352 (by decide +kernel) (by decide)), (xk_mem 9 (by decide +kernel) (by decide))⟩
set_option maxRecDepth 100000 in
theorem kbR_88 : xk_CB RR 88 yF_fits cF_fits 3 (some .boolean) 2 := ⟨(xk_mem 368 (by rfl) rfl), (xk_mem 43 (by decide +kernel) (by decide)), (xk_mem 366 (by decide +kernel) (by decide)), by decide +kernel⟩
theorem kcR_88 : Cond.static yF_fits ∈ xk_gt := (xk_mem 367 (by decide +kernel) (by decide))
set_option maxRecDepth 100000 in
theorem kbR_67 : xk_CB RR 67 yF_isKind cF_isKind 1 (some .boolean) 1 := ⟨(xk_mem 345 (by rfl) rfl), (xk_mem 43 (by decide +kernel) (by decide)), (xk_mem 343 (by decide +kernel) (by decide)), by decide +kernel⟩
theorem kcR_67 : Cond.static yF_isKind ∈ xk_gt := (xk_mem 344 (by decide +kernel) (by decide))
set_option maxRecDepth 100000 in
theorem kbR_77 : xk_CB RR 77 yR_readNumber cR_readNumber 8 none 3 := ⟨(xk_mem 349 (by rfl) rfl), (xk_mem 41 (by decide +kernel) (by decide)), (xk_mem 346 (by decide +kernel) (by decide)), by decide +kernel⟩
theorem kcR_77 : Cond.instanceMethod yR_readNumber ∈ xk_gt ∧ Cond.selects (yR_readNumber).cls yR_readNumber yR_readNumber ∈ xk_gt := ⟨(xk_mem 348 (by decide +kernel) (by decide)), (xk_mem 8 (by decide +kernel) (by decide))⟩
set_option maxRecDepth 100000 in
theorem kbR_80 : xk_CB RR 80 yF_partsOf cF_partsOf 1 (some .int) 1 := ⟨(xk_mem 225 (by rfl) rfl), (xk_mem 43 (by decide +kernel) (by decide)), (xk_mem 377 (by decide +kernel) (by decide)), by decide +kernel⟩
theorem kcR_80 : Cond.static yF_partsOf ∈ xk_gt := (xk_mem 224 (by decide +kernel) (by decide))
set_option maxRecDepth 100000 in
theorem kbR_47 : xk_CB RR 47 yR_await cR_await 5 none 3 := ⟨(xk_mem 326 (by rfl) rfl), (xk_mem 41 (by decide +kernel) (by decide)), (xk_mem 323 (by decide +kernel) (by decide)), by decide +kernel⟩
theorem kcR_47 : Cond.instanceMethod yR_await ∈ xk_gt ∧ Cond.selects (yR_await).cls yR_await yR_await ∈ xk_gt := ⟨(xk_mem 325 (by decide +kernel) (by decide)), (xk_mem 4 (by decide +kernel) (by decide))⟩
theorem fgR_25 : xk_F RR 25 2 6 := ⟨RR, TR, 9, rfl, by decide, i_R, (xk_mem 135 (by decide +kernel) (by decide))⟩
theorem fgR_51 : xk_F RR 51 1 9 := ⟨RS, TS, 10, rfl, by decide, i_S, (xk_mem 83 (by decide +kernel) (by decide))⟩
set_option maxRecDepth 100000 in
theorem kbR_56 : xk_CB RR 56 yR_readNode cR_readNode 6 none 1 := ⟨(xk_mem 330 (by rfl) rfl), (xk_mem 41 (by decide +kernel) (by decide)), (xk_mem 327 (by decide +kernel) (by decide)), by decide +kernel⟩
theorem kcR_56 : Cond.instanceMethod yR_readNode ∈ xk_gt ∧ Cond.selects (yR_readNode).cls yR_readNode yR_readNode ∈ xk_gt := ⟨(xk_mem 329 (by decide +kernel) (by decide)), (xk_mem 5 (by decide +kernel) (by decide))⟩
set_option maxRecDepth 100000 in
theorem kbR_60 : xk_CB RR 60 yS_adopt cS_adopt 3 none 1 := ⟨(xk_mem 381 (by rfl) rfl), (xk_mem 39 (by decide +kernel) (by decide)), (xk_mem 378 (by decide +kernel) (by decide)), by decide +kernel⟩
theorem kcR_60 : Cond.instanceMethod yS_adopt ∈ xk_gt ∧ Cond.selects (yS_adopt).cls yS_adopt yS_adopt ∈ xk_gt := ⟨(xk_mem 379 (by decide +kernel) (by decide)), (xk_mem 380 (by decide +kernel) (by decide))⟩
theorem fpR_25 : xk_FP RR 25 2 6 false (.int) := ⟨RR, TR, 9, rfl, by decide, i_R, (xk_mem 135 (by decide +kernel) (by decide)), ⟨tR, tR_ok⟩, nR_ok, rfl, by decide +kernel, fun h => by cases h⟩
