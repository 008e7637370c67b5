theorem klF_9 : Cond.constantLong RF 9 (200) ∈ xk_gt := (xk_mem 369 (by decide +kernel) (by decide))
theorem klF_11 : Cond.constantLong RF 11 (31) ∈ xk_gt := (xk_mem 370 (by decide +kernel) (by decide))
theorem klF_13 : Cond.constantLong RF 13 (64) ∈ xk_gt := (xk_mem 371 (by decide +kernel) (by decide))
theorem klF_24 : Cond.constantLong RF 24 (-1) ∈ xk_gt := (xk_mem 222 (by decide +kernel) (by decide))
set_option maxRecDepth 100000 in
theorem kbF_15 : xk_CB RF 15 yF_unsignedGroups cF_unsignedGroups 3 (some .int) 1 := ⟨(xk_mem 218 (by rfl) rfl), (xk_mem 43 (by decide +kernel) (by decide)), (xk_mem 216 (by decide +kernel) (by decide)), by decide +kernel⟩
theorem kcF_15 : Cond.static yF_unsignedGroups ∈ xk_gt := (xk_mem 217 (by decide +kernel) (by decide))
set_option maxRecDepth 100000 in
theorem kbF_21 : xk_CB RF 21 yF_signedGroups cF_signedGroups 5 (some .int) 1 := ⟨(xk_mem 221 (by rfl) rfl), (xk_mem 43 (by decide +kernel) (by decide)), (xk_mem 219 (by decide +kernel) (by decide)), by decide +kernel⟩
theorem kcF_21 : Cond.static yF_signedGroups ∈ xk_gt := (xk_mem 220 (by decide +kernel) (by decide))
