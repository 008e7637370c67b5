theorem fgS_37 : xk_F RS 37 1 8 := ⟨RS, TS, 10, rfl, by decide, i_S, (xk_mem 78 (by decide +kernel) (by decide))⟩
theorem fgS_34 : xk_F RS 34 1 7 := ⟨RS, TS, 10, rfl, by decide, i_S, (xk_mem 77 (by decide +kernel) (by decide))⟩
set_option maxRecDepth 100000 in
theorem kbS_44 : xk_CB RS 44 yS_lastRoot cS_lastRoot 1 (some .int) 0 := ⟨(xk_mem 187 (by rfl) rfl), (xk_mem 38 (by decide +kernel) (by decide)), (xk_mem 184 (by decide +kernel) (by decide)), by decide +kernel⟩
theorem kcS_44 : Cond.instanceMethod yS_lastRoot ∈ xk_gt ∧ Cond.selects (yS_lastRoot).cls yS_lastRoot yS_lastRoot ∈ xk_gt := ⟨(xk_mem 185 (by decide +kernel) (by decide)), (xk_mem 186 (by decide +kernel) (by decide))⟩
theorem fgS_22 : xk_F RS 22 1 3 := ⟨RS, TS, 10, rfl, by decide, i_S, (xk_mem 69 (by decide +kernel) (by decide))⟩
theorem fgS_31 : xk_F RS 31 1 6 := ⟨RS, TS, 10, rfl, by decide, i_S, (xk_mem 75 (by decide +kernel) (by decide))⟩
theorem fgS_9 : xk_F RS 9 1 0 := ⟨RS, TS, 10, rfl, by decide, i_S, (xk_mem 64 (by decide +kernel) (by decide))⟩
theorem fgS_15 : xk_F RS 15 1 1 := ⟨RS, TS, 10, rfl, by decide, i_S, (xk_mem 66 (by decide +kernel) (by decide))⟩
theorem fgS_19 : xk_F RS 19 1 2 := ⟨RS, TS, 10, rfl, by decide, i_S, (xk_mem 68 (by decide +kernel) (by decide))⟩
set_option maxRecDepth 100000 in
theorem kbS_48 : xk_CB RS 48 yF_byteOf cF_byteOf 3 (some .int) 2 := ⟨(xk_mem 194 (by rfl) rfl), (xk_mem 42 (by decide +kernel) (by decide)), (xk_mem 192 (by decide +kernel) (by decide)), by decide +kernel⟩
theorem kcS_48 : Cond.static yF_byteOf ∈ xk_gt := (xk_mem 193 (by decide +kernel) (by decide))
theorem fpS_37 : xk_FP RS 37 1 8 false (.int) := ⟨RS, TS, 10, rfl, by decide, i_S, (xk_mem 78 (by decide +kernel) (by decide)), ⟨tS, tS_ok⟩, nS_ok, rfl, by decide +kernel, fun h => by cases h⟩
set_option maxRecDepth 100000 in
theorem kmS_111 : xk_Mx RS 111 := ⟨(xk_mem 218 (by decide +kernel) (by decide)), (xk_mem 219 (by decide +kernel) (by decide)), (xk_mem 47 (by decide +kernel) (by decide)), (xk_mem 220 (by decide +kernel) rfl)⟩
theorem kyS_116 : xk_Cp RS 116 := ⟨(xk_mem 241 (by decide +kernel) (by decide)), (xk_mem 243 (by decide +kernel) (by decide)), (xk_mem 242 (by decide +kernel) (by decide)), (xk_mem 48 (by decide +kernel) (by decide))⟩
theorem fgS_25 : xk_F RS 25 1 4 := ⟨RS, TS, 10, rfl, by decide, i_S, (xk_mem 71 (by decide +kernel) (by decide))⟩
theorem fgS_28 : xk_F RS 28 1 5 := ⟨RS, TS, 10, rfl, by decide, i_S, (xk_mem 73 (by decide +kernel) (by decide))⟩
theorem klS_54 : Cond.constantLong RS 54 (255) ∈ xk_gt := (xk_mem 199 (by decide +kernel) (by decide))
theorem klS_56 : Cond.constantLong RS 56 (-1) ∈ xk_gt := (xk_mem 200 (by decide +kernel) (by decide))
set_option maxRecDepth 100000 in
theorem kbS_107 : xk_CB RS 107 yF_ownLength cF_ownLength 3 (some .int) 2 := ⟨(xk_mem 207 (by rfl) rfl), (xk_mem 42 (by decide +kernel) (by decide)), (xk_mem 205 (by decide +kernel) (by decide)), by decide +kernel⟩
theorem kcS_107 : Cond.static yF_ownLength ∈ xk_gt := (xk_mem 206 (by decide +kernel) (by decide))
set_option maxRecDepth 100000 in
theorem kbS_58 : xk_CB RS 58 yF_partsOf cF_partsOf 1 (some .int) 1 := ⟨(xk_mem 217 (by rfl) rfl), (xk_mem 42 (by decide +kernel) (by decide)), (xk_mem 215 (by decide +kernel) (by decide)), by decide +kernel⟩
theorem kcS_58 : Cond.static yF_partsOf ∈ xk_gt := (xk_mem 216 (by decide +kernel) (by decide))
theorem fpS_41 : xk_FP RS 41 1 9 false (.int) := ⟨RS, TS, 10, rfl, by decide, i_S, (xk_mem 80 (by decide +kernel) (by decide)), ⟨tS, tS_ok⟩, nS_ok, rfl, by decide +kernel, fun h => by cases h⟩
theorem fgS_41 : xk_F RS 41 1 9 := ⟨RS, TS, 10, rfl, by decide, i_S, (xk_mem 80 (by decide +kernel) (by decide))⟩
set_option maxRecDepth 100000 in
theorem kbS_62 : xk_CB RS 62 yS_copyNodes cS_copyNodes 4 none 3 := ⟨(xk_mem 240 (by rfl) rfl), (xk_mem 38 (by decide +kernel) (by decide)), (xk_mem 237 (by decide +kernel) (by decide)), by decide +kernel⟩
theorem kcS_62 : Cond.instanceMethod yS_copyNodes ∈ xk_gt ∧ Cond.selects (yS_copyNodes).cls yS_copyNodes yS_copyNodes ∈ xk_gt := ⟨(xk_mem 239 (by decide +kernel) (by decide)), (xk_mem 1 (by decide +kernel) (by decide))⟩
set_option maxRecDepth 100000 in
theorem kbS_80 : xk_CB RS 80 yS_pushTerm cS_pushTerm 2 none 1 := ⟨(xk_mem 247 (by rfl) rfl), (xk_mem 38 (by decide +kernel) (by decide)), (xk_mem 244 (by decide +kernel) (by decide)), by decide +kernel⟩
theorem kcS_80 : Cond.instanceMethod yS_pushTerm ∈ xk_gt ∧ Cond.selects (yS_pushTerm).cls yS_pushTerm yS_pushTerm ∈ xk_gt := ⟨(xk_mem 246 (by decide +kernel) (by decide)), (xk_mem 2 (by decide +kernel) (by decide))⟩
set_option maxRecDepth 100000 in
theorem kbS_66 : xk_CB RS 66 yS_setNode cS_setNode 5 none 3 := ⟨(xk_mem 367 (by rfl) rfl), (xk_mem 38 (by decide +kernel) (by decide)), (xk_mem 486 (by decide +kernel) (by decide)), by decide +kernel⟩
theorem kcS_66 : Cond.instanceMethod yS_setNode ∈ xk_gt ∧ Cond.selects (yS_setNode).cls yS_setNode yS_setNode ∈ xk_gt := ⟨(xk_mem 365 (by decide +kernel) (by decide)), (xk_mem 366 (by decide +kernel) (by decide))⟩
set_option maxRecDepth 100000 in
theorem kbS_70 : xk_CB RS 70 yS_settle cS_settle 10 none 1 := ⟨(xk_mem 204 (by rfl) rfl), (xk_mem 38 (by decide +kernel) (by decide)), (xk_mem 201 (by decide +kernel) (by decide)), by decide +kernel⟩
theorem kcS_70 : Cond.instanceMethod yS_settle ∈ xk_gt ∧ Cond.selects (yS_settle).cls yS_settle yS_settle ∈ xk_gt := ⟨(xk_mem 203 (by decide +kernel) (by decide)), (xk_mem 0 (by decide +kernel) (by decide))⟩
set_option maxRecDepth 100000 in
theorem kbS_74 : xk_CB RS 74 yS_byteCount cS_byteCount 2 (some .int) 1 := ⟨(xk_mem 191 (by rfl) rfl), (xk_mem 38 (by decide +kernel) (by decide)), (xk_mem 188 (by decide +kernel) (by decide)), by decide +kernel⟩
theorem kcS_74 : Cond.instanceMethod yS_byteCount ∈ xk_gt ∧ Cond.selects (yS_byteCount).cls yS_byteCount yS_byteCount ∈ xk_gt := ⟨(xk_mem 189 (by decide +kernel) (by decide)), (xk_mem 190 (by decide +kernel) (by decide))⟩
set_option maxRecDepth 100000 in
theorem kbS_77 : xk_CB RS 77 yS_setByte cS_setByte 6 none 3 := ⟨(xk_mem 198 (by rfl) rfl), (xk_mem 38 (by decide +kernel) (by decide)), (xk_mem 195 (by decide +kernel) (by decide)), by decide +kernel⟩
theorem kcS_77 : Cond.instanceMethod yS_setByte ∈ xk_gt ∧ Cond.selects (yS_setByte).cls yS_setByte yS_setByte ∈ xk_gt := ⟨(xk_mem 196 (by decide +kernel) (by decide)), (xk_mem 197 (by decide +kernel) (by decide))⟩
set_option maxRecDepth 100000 in
theorem kbS_103 : xk_CB RS 103 yS_byteIn cS_byteIn 3 (some .int) 2 := ⟨(xk_mem 283 (by rfl) rfl), (xk_mem 38 (by decide +kernel) (by decide)), (xk_mem 280 (by decide +kernel) (by decide)), by decide +kernel⟩
theorem kcS_103 : Cond.instanceMethod yS_byteIn ∈ xk_gt ∧ Cond.selects (yS_byteIn).cls yS_byteIn yS_byteIn ∈ xk_gt := ⟨(xk_mem 281 (by decide +kernel) (by decide)), (xk_mem 282 (by decide +kernel) (by decide))⟩
set_option maxRecDepth 100000 in
theorem kbS_83 : xk_CB RS 83 yS_alike cS_alike 4 (some .boolean) 2 := ⟨(xk_mem 538 (by rfl) rfl), (xk_mem 38 (by decide +kernel) (by decide)), (xk_mem 535 (by decide +kernel) (by decide)), by decide +kernel⟩
theorem kcS_83 : Cond.instanceMethod yS_alike ∈ xk_gt ∧ Cond.selects (yS_alike).cls yS_alike yS_alike ∈ xk_gt := ⟨(xk_mem 537 (by decide +kernel) (by decide)), (xk_mem 12 (by decide +kernel) (by decide))⟩
set_option maxRecDepth 100000 in
theorem kbS_87 : xk_CB RS 87 yB_append cB_append 2 none 1 := ⟨(xk_mem 272 (by rfl) rfl), (xk_mem 39 (by decide +kernel) (by decide)), (xk_mem 269 (by decide +kernel) (by decide)), by decide +kernel⟩
theorem kcS_87 : Cond.instanceMethod yB_append ∈ xk_gt ∧ Cond.selects (yB_append).cls yB_append yB_append ∈ xk_gt := ⟨(xk_mem 270 (by decide +kernel) (by decide)), (xk_mem 271 (by decide +kernel) (by decide))⟩
set_option maxRecDepth 100000 in
theorem kbS_100 : xk_CB RS 100 yF_signedGroups cF_signedGroups 5 (some .int) 1 := ⟨(xk_mem 213 (by rfl) rfl), (xk_mem 42 (by decide +kernel) (by decide)), (xk_mem 279 (by decide +kernel) (by decide)), by decide +kernel⟩
theorem kcS_100 : Cond.static yF_signedGroups ∈ xk_gt := (xk_mem 212 (by decide +kernel) (by decide))
set_option maxRecDepth 100000 in
theorem kbS_96 : xk_CB RS 96 yB_appendGroups cB_appendGroups 6 none 2 := ⟨(xk_mem 277 (by rfl) rfl), (xk_mem 39 (by decide +kernel) (by decide)), (xk_mem 274 (by decide +kernel) (by decide)), by decide +kernel⟩
theorem kcS_96 : Cond.instanceMethod yB_appendGroups ∈ xk_gt ∧ Cond.selects (yB_appendGroups).cls yB_appendGroups yB_appendGroups ∈ xk_gt := ⟨(xk_mem 275 (by decide +kernel) (by decide)), (xk_mem 276 (by decide +kernel) (by decide))⟩
set_option maxRecDepth 100000 in
theorem kbS_92 : xk_CB RS 92 yF_unsignedGroups cF_unsignedGroups 3 (some .int) 1 := ⟨(xk_mem 210 (by rfl) rfl), (xk_mem 42 (by decide +kernel) (by decide)), (xk_mem 273 (by decide +kernel) (by decide)), by decide +kernel⟩
theorem kcS_92 : Cond.static yF_unsignedGroups ∈ xk_gt := (xk_mem 209 (by decide +kernel) (by decide))
