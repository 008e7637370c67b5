theorem fgS_37 : xk_F RS 37 1 8 := ⟨RS, TS, 10, rfl, by decide, i_S, (xk_mem 79 (by decide +kernel) (by decide))⟩
theorem fgS_34 : xk_F RS 34 1 7 := ⟨RS, TS, 10, rfl, by decide, i_S, (xk_mem 78 (by decide +kernel) (by decide))⟩
set_option maxRecDepth 100000 in
theorem kbS_44 : xk_CB RS 44 yS_isPlace cS_isPlace 1 (some .boolean) 1 := ⟨(xk_mem 195 (by rfl) rfl), (xk_mem 39 (by decide +kernel) (by decide)), (xk_mem 193 (by decide +kernel) (by decide)), by decide +kernel⟩
theorem kcS_44 : Cond.static yS_isPlace ∈ xk_gt := (xk_mem 194 (by decide +kernel) (by decide))
set_option maxRecDepth 100000 in
theorem kbS_48 : xk_CB RS 48 yS_rootOf cS_rootOf 2 (some .int) 1 := ⟨(xk_mem 192 (by rfl) rfl), (xk_mem 39 (by decide +kernel) (by decide)), (xk_mem 189 (by decide +kernel) (by decide)), by decide +kernel⟩
theorem kcS_48 : Cond.instanceMethod yS_rootOf ∈ xk_gt ∧ Cond.selects (yS_rootOf).cls yS_rootOf yS_rootOf ∈ xk_gt := ⟨(xk_mem 191 (by decide +kernel) (by decide)), (xk_mem 0 (by decide +kernel) (by decide))⟩
set_option maxRecDepth 100000 in
theorem kbS_52 : xk_CB RS 52 yS_lastRoot cS_lastRoot 1 (some .int) 0 := ⟨(xk_mem 188 (by rfl) rfl), (xk_mem 39 (by decide +kernel) (by decide)), (xk_mem 185 (by decide +kernel) (by decide)), by decide +kernel⟩
theorem kcS_52 : Cond.instanceMethod yS_lastRoot ∈ xk_gt ∧ Cond.selects (yS_lastRoot).cls yS_lastRoot yS_lastRoot ∈ xk_gt := ⟨(xk_mem 186 (by decide +kernel) (by decide)), (xk_mem 187 (by decide +kernel) (by decide))⟩
theorem fgS_22 : xk_F RS 22 1 3 := ⟨RS, TS, 10, rfl, by decide, i_S, (xk_mem 70 (by decide +kernel) (by decide))⟩
theorem fgS_31 : xk_F RS 31 1 6 := ⟨RS, TS, 10, rfl, by decide, i_S, (xk_mem 76 (by decide +kernel) (by decide))⟩
set_option maxRecDepth 100000 in
theorem kbS_56 : xk_CB RS 56 yS_find cS_find 3 (some .int) 1 := ⟨(xk_mem 392 (by rfl) rfl), (xk_mem 39 (by decide +kernel) (by decide)), (xk_mem 397 (by decide +kernel) (by decide)), by decide +kernel⟩
theorem kcS_56 : Cond.instanceMethod yS_find ∈ xk_gt ∧ Cond.selects (yS_find).cls yS_find yS_find ∈ xk_gt := ⟨(xk_mem 390 (by decide +kernel) (by decide)), (xk_mem 391 (by decide +kernel) (by decide))⟩
theorem fgS_9 : xk_F RS 9 1 0 := ⟨RS, TS, 10, rfl, by decide, i_S, (xk_mem 65 (by decide +kernel) (by decide))⟩
theorem fgS_15 : xk_F RS 15 1 1 := ⟨RS, TS, 10, rfl, by decide, i_S, (xk_mem 67 (by decide +kernel) (by decide))⟩
theorem fgS_19 : xk_F RS 19 1 2 := ⟨RS, TS, 10, rfl, by decide, i_S, (xk_mem 69 (by decide +kernel) (by decide))⟩
set_option maxRecDepth 100000 in
theorem kbS_59 : xk_CB RS 59 yF_byteOf cF_byteOf 3 (some .int) 2 := ⟨(xk_mem 202 (by rfl) rfl), (xk_mem 43 (by decide +kernel) (by decide)), (xk_mem 200 (by decide +kernel) (by decide)), by decide +kernel⟩
theorem kcS_59 : Cond.static yF_byteOf ∈ xk_gt := (xk_mem 201 (by decide +kernel) (by decide))
theorem fpS_37 : xk_FP RS 37 1 8 false (.int) := ⟨RS, TS, 10, rfl, by decide, i_S, (xk_mem 79 (by decide +kernel) (by decide)), ⟨tS, tS_ok⟩, nS_ok, rfl, by decide +kernel, fun h => by cases h⟩
set_option maxRecDepth 100000 in
theorem kmS_126 : xk_Mx RS 126 := ⟨(xk_mem 226 (by decide +kernel) (by decide)), (xk_mem 227 (by decide +kernel) (by decide)), (xk_mem 48 (by decide +kernel) (by decide)), (xk_mem 228 (by decide +kernel) rfl)⟩
theorem kyS_129 : xk_Cp RS 129 := ⟨(xk_mem 249 (by decide +kernel) (by decide)), (xk_mem 251 (by decide +kernel) (by decide)), (xk_mem 250 (by decide +kernel) (by decide)), (xk_mem 49 (by decide +kernel) (by decide))⟩
theorem fgS_25 : xk_F RS 25 1 4 := ⟨RS, TS, 10, rfl, by decide, i_S, (xk_mem 72 (by decide +kernel) (by decide))⟩
theorem fgS_28 : xk_F RS 28 1 5 := ⟨RS, TS, 10, rfl, by decide, i_S, (xk_mem 74 (by decide +kernel) (by decide))⟩
theorem klS_65 : Cond.constantLong RS 65 (255) ∈ xk_gt := (xk_mem 207 (by decide +kernel) (by decide))
theorem klS_67 : Cond.constantLong RS 67 (-1) ∈ xk_gt := (xk_mem 208 (by decide +kernel) (by decide))
set_option maxRecDepth 100000 in
theorem kbS_122 : xk_CB RS 122 yF_ownLength cF_ownLength 3 (some .int) 2 := ⟨(xk_mem 215 (by rfl) rfl), (xk_mem 43 (by decide +kernel) (by decide)), (xk_mem 213 (by decide +kernel) (by decide)), by decide +kernel⟩
theorem kcS_122 : Cond.static yF_ownLength ∈ xk_gt := (xk_mem 214 (by decide +kernel) (by decide))
set_option maxRecDepth 100000 in
theorem kbS_69 : xk_CB RS 69 yF_partsOf cF_partsOf 1 (some .int) 1 := ⟨(xk_mem 225 (by rfl) rfl), (xk_mem 43 (by decide +kernel) (by decide)), (xk_mem 223 (by decide +kernel) (by decide)), by decide +kernel⟩
theorem kcS_69 : Cond.static yF_partsOf ∈ xk_gt := (xk_mem 224 (by decide +kernel) (by decide))
theorem fpS_41 : xk_FP RS 41 1 9 false (.int) := ⟨RS, TS, 10, rfl, by decide, i_S, (xk_mem 81 (by decide +kernel) (by decide)), ⟨tS, tS_ok⟩, nS_ok, rfl, by decide +kernel, fun h => by cases h⟩
theorem fgS_41 : xk_F RS 41 1 9 := ⟨RS, TS, 10, rfl, by decide, i_S, (xk_mem 81 (by decide +kernel) (by decide))⟩
set_option maxRecDepth 100000 in
theorem kbS_72 : xk_CB RS 72 yS_copyNodes cS_copyNodes 4 none 3 := ⟨(xk_mem 248 (by rfl) rfl), (xk_mem 39 (by decide +kernel) (by decide)), (xk_mem 245 (by decide +kernel) (by decide)), by decide +kernel⟩
theorem kcS_72 : Cond.instanceMethod yS_copyNodes ∈ xk_gt ∧ Cond.selects (yS_copyNodes).cls yS_copyNodes yS_copyNodes ∈ xk_gt := ⟨(xk_mem 247 (by decide +kernel) (by decide)), (xk_mem 2 (by decide +kernel) (by decide))⟩
set_option maxRecDepth 100000 in
theorem kbS_84 : xk_CB RS 84 yS_pushTerm cS_pushTerm 2 none 1 := ⟨(xk_mem 255 (by rfl) rfl), (xk_mem 39 (by decide +kernel) (by decide)), (xk_mem 252 (by decide +kernel) (by decide)), by decide +kernel⟩
theorem kcS_84 : Cond.instanceMethod yS_pushTerm ∈ xk_gt ∧ Cond.selects (yS_pushTerm).cls yS_pushTerm yS_pushTerm ∈ xk_gt := ⟨(xk_mem 254 (by decide +kernel) (by decide)), (xk_mem 3 (by decide +kernel) (by decide))⟩
set_option maxRecDepth 100000 in
theorem kbS_76 : xk_CB RS 76 yS_setNode cS_setNode 5 none 3 := ⟨(xk_mem 375 (by rfl) rfl), (xk_mem 39 (by decide +kernel) (by decide)), (xk_mem 498 (by decide +kernel) (by decide)), by decide +kernel⟩
theorem kcS_76 : Cond.instanceMethod yS_setNode ∈ xk_gt ∧ Cond.selects (yS_setNode).cls yS_setNode yS_setNode ∈ xk_gt := ⟨(xk_mem 373 (by decide +kernel) (by decide)), (xk_mem 374 (by decide +kernel) (by decide))⟩
set_option maxRecDepth 100000 in
theorem kbS_80 : xk_CB RS 80 yS_settle cS_settle 10 none 1 := ⟨(xk_mem 212 (by rfl) rfl), (xk_mem 39 (by decide +kernel) (by decide)), (xk_mem 209 (by decide +kernel) (by decide)), by decide +kernel⟩
theorem kcS_80 : Cond.instanceMethod yS_settle ∈ xk_gt ∧ Cond.selects (yS_settle).cls yS_settle yS_settle ∈ xk_gt := ⟨(xk_mem 211 (by decide +kernel) (by decide)), (xk_mem 1 (by decide +kernel) (by decide))⟩
set_option maxRecDepth 100000 in
theorem kbS_87 : xk_CB RS 87 yS_byteCount cS_byteCount 2 (some .int) 1 := ⟨(xk_mem 199 (by rfl) rfl), (xk_mem 39 (by decide +kernel) (by decide)), (xk_mem 196 (by decide +kernel) (by decide)), by decide +kernel⟩
theorem kcS_87 : Cond.instanceMethod yS_byteCount ∈ xk_gt ∧ Cond.selects (yS_byteCount).cls yS_byteCount yS_byteCount ∈ xk_gt := ⟨(xk_mem 197 (by decide +kernel) (by decide)), (xk_mem 198 (by decide +kernel) (by decide))⟩
set_option maxRecDepth 100000 in
theorem kbS_90 : xk_CB RS 90 yS_setByte cS_setByte 6 none 3 := ⟨(xk_mem 206 (by rfl) rfl), (xk_mem 39 (by decide +kernel) (by decide)), (xk_mem 203 (by decide +kernel) (by decide)), by decide +kernel⟩
theorem kcS_90 : Cond.instanceMethod yS_setByte ∈ xk_gt ∧ Cond.selects (yS_setByte).cls yS_setByte yS_setByte ∈ xk_gt := ⟨(xk_mem 204 (by decide +kernel) (by decide)), (xk_mem 205 (by decide +kernel) (by decide))⟩
set_option maxRecDepth 100000 in
theorem kmS_93 : xk_Mn RS 93 := ⟨(xk_mem 382 (by decide +kernel) (by decide)), (xk_mem 383 (by decide +kernel) (by decide)), (xk_mem 48 (by decide +kernel) (by decide)), (xk_mem 384 (by decide +kernel) rfl)⟩
set_option maxRecDepth 100000 in
theorem kbS_119 : xk_CB RS 119 yS_byteIn cS_byteIn 4 (some .int) 2 := ⟨(xk_mem 291 (by rfl) rfl), (xk_mem 39 (by decide +kernel) (by decide)), (xk_mem 288 (by decide +kernel) (by decide)), by decide +kernel⟩
theorem kcS_119 : Cond.instanceMethod yS_byteIn ∈ xk_gt ∧ Cond.selects (yS_byteIn).cls yS_byteIn yS_byteIn ∈ xk_gt := ⟨(xk_mem 289 (by decide +kernel) (by decide)), (xk_mem 290 (by decide +kernel) (by decide))⟩
set_option maxRecDepth 100000 in
theorem kbS_99 : xk_CB RS 99 yS_alike cS_alike 4 (some .boolean) 2 := ⟨(xk_mem 550 (by rfl) rfl), (xk_mem 39 (by decide +kernel) (by decide)), (xk_mem 547 (by decide +kernel) (by decide)), by decide +kernel⟩
theorem kcS_99 : Cond.instanceMethod yS_alike ∈ xk_gt ∧ Cond.selects (yS_alike).cls yS_alike yS_alike ∈ xk_gt := ⟨(xk_mem 549 (by decide +kernel) (by decide)), (xk_mem 13 (by decide +kernel) (by decide))⟩
set_option maxRecDepth 100000 in
theorem kbS_103 : xk_CB RS 103 yB_append cB_append 2 none 1 := ⟨(xk_mem 280 (by rfl) rfl), (xk_mem 40 (by decide +kernel) (by decide)), (xk_mem 277 (by decide +kernel) (by decide)), by decide +kernel⟩
theorem kcS_103 : Cond.instanceMethod yB_append ∈ xk_gt ∧ Cond.selects (yB_append).cls yB_append yB_append ∈ xk_gt := ⟨(xk_mem 278 (by decide +kernel) (by decide)), (xk_mem 279 (by decide +kernel) (by decide))⟩
set_option maxRecDepth 100000 in
theorem kbS_116 : xk_CB RS 116 yF_signedGroups cF_signedGroups 5 (some .int) 1 := ⟨(xk_mem 221 (by rfl) rfl), (xk_mem 43 (by decide +kernel) (by decide)), (xk_mem 287 (by decide +kernel) (by decide)), by decide +kernel⟩
theorem kcS_116 : Cond.static yF_signedGroups ∈ xk_gt := (xk_mem 220 (by decide +kernel) (by decide))
set_option maxRecDepth 100000 in
theorem kbS_112 : xk_CB RS 112 yB_appendGroups cB_appendGroups 6 none 2 := ⟨(xk_mem 285 (by rfl) rfl), (xk_mem 40 (by decide +kernel) (by decide)), (xk_mem 282 (by decide +kernel) (by decide)), by decide +kernel⟩
theorem kcS_112 : Cond.instanceMethod yB_appendGroups ∈ xk_gt ∧ Cond.selects (yB_appendGroups).cls yB_appendGroups yB_appendGroups ∈ xk_gt := ⟨(xk_mem 283 (by decide +kernel) (by decide)), (xk_mem 284 (by decide +kernel) (by decide))⟩
set_option maxRecDepth 100000 in
theorem kbS_108 : xk_CB RS 108 yF_unsignedGroups cF_unsignedGroups 3 (some .int) 1 := ⟨(xk_mem 218 (by rfl) rfl), (xk_mem 43 (by decide +kernel) (by decide)), (xk_mem 281 (by decide +kernel) (by decide)), by decide +kernel⟩
theorem kcS_108 : Cond.static yF_unsignedGroups ∈ xk_gt := (xk_mem 217 (by decide +kernel) (by decide))
