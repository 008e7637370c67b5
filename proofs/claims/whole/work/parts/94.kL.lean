set_option maxRecDepth 100000 in
theorem kbL_7 : xk_CB RL 7 yX_node cX_node 4 (some .int) 2 := ⟨(xk_mem 425 (by rfl) rfl), (xk_mem 38 (by decide +kernel) (by decide)), (xk_mem 422 (by decide +kernel) (by decide)), by decide +kernel⟩
theorem kcL_7 : Cond.instanceMethod yX_node ∈ xk_gt ∧ Cond.selects (yX_node).cls yX_node yX_node ∈ xk_gt := ⟨(xk_mem 423 (by decide +kernel) (by decide)), (xk_mem 424 (by decide +kernel) (by decide))⟩
set_option maxRecDepth 100000 in
theorem kbL_17 : xk_CB RL 17 yX_bytes cX_bytes 4 (some .int) 2 := ⟨(xk_mem 521 (by rfl) rfl), (xk_mem 38 (by decide +kernel) (by decide)), (xk_mem 518 (by decide +kernel) (by decide)), by decide +kernel⟩
theorem kcL_17 : Cond.instanceMethod yX_bytes ∈ xk_gt ∧ Cond.selects (yX_bytes).cls yX_bytes yX_bytes ∈ xk_gt := ⟨(xk_mem 519 (by decide +kernel) (by decide)), (xk_mem 520 (by decide +kernel) (by decide))⟩
set_option maxRecDepth 100000 in
theorem kbL_21 : xk_CB RL 21 yX_number cX_number 3 (some .long) 1 := ⟨(xk_mem 530 (by rfl) rfl), (xk_mem 38 (by decide +kernel) (by decide)), (xk_mem 527 (by decide +kernel) (by decide)), by decide +kernel⟩
theorem kcL_21 : Cond.instanceMethod yX_number ∈ xk_gt ∧ Cond.selects (yX_number).cls yX_number yX_number ∈ xk_gt := ⟨(xk_mem 528 (by decide +kernel) (by decide)), (xk_mem 529 (by decide +kernel) (by decide))⟩
set_option maxRecDepth 100000 in
theorem kbL_25 : xk_CB RL 25 yX_same cX_same 1 (some .boolean) 0 := ⟨(xk_mem 541 (by rfl) rfl), (xk_mem 38 (by decide +kernel) (by decide)), (xk_mem 538 (by decide +kernel) (by decide)), by decide +kernel⟩
theorem kcL_25 : Cond.instanceMethod yX_same ∈ xk_gt ∧ Cond.selects (yX_same).cls yX_same yX_same ∈ xk_gt := ⟨(xk_mem 539 (by decide +kernel) (by decide)), (xk_mem 540 (by decide +kernel) (by decide))⟩
theorem kcA : Cond.classLink RL 13 "java/lang/IllegalArgumentException" ∈ xk_gt := xk_mem 420 (by decide +kernel) (by decide)
theorem kcS : Cond.classLink RL 15 "java/lang/IllegalStateException" ∈ xk_gt := xk_mem 421 (by decide +kernel) (by decide)
theorem kcI : Cond.instantiable "java/lang/IllegalStateException" 6 ∈ xk_gt := xk_mem 500 (by decide +kernel) (by decide)
theorem kcTA : Cond.castable "java/lang/IllegalArgumentException" "java/lang/IllegalArgumentException" ∈ xk_tw := by simp [xk_tw]
theorem kcTS : Cond.castable "java/lang/IllegalStateException" "java/lang/IllegalStateException" ∈ xk_tw := by simp [xk_tw]
theorem xk_cat_L_node_IllegalArgumentException : xk_Cat RL 6 "java/lang/IllegalArgumentException" [(0, 11, 14, 13), (0, 11, 18, 15)] 14 := ⟨⟨by decide, by decide, by decide⟩, Or.inl ⟨kcA, kcTA, rfl⟩⟩
theorem xk_cat_L_node_IllegalStateException : xk_Cat RL 6 "java/lang/IllegalStateException" [(0, 11, 14, 13), (0, 11, 18, 15)] 18 := ⟨⟨by decide, by decide, by decide⟩, Or.inr ⟨rfl, kcA, kcI, ⟨⟨by decide, by decide, by decide⟩, Or.inl ⟨kcS, kcTS, rfl⟩⟩⟩⟩
theorem xk_cat_L_bytes_IllegalArgumentException : xk_Cat RL 6 "java/lang/IllegalArgumentException" [(0, 11, 14, 13), (0, 11, 18, 15)] 14 := xk_cat_L_node_IllegalArgumentException
theorem xk_cat_L_bytes_IllegalStateException : xk_Cat RL 6 "java/lang/IllegalStateException" [(0, 11, 14, 13), (0, 11, 18, 15)] 18 := xk_cat_L_node_IllegalStateException
theorem xk_cat_L_number_IllegalArgumentException : xk_Cat RL 4 "java/lang/IllegalArgumentException" [(0, 8, 11, 13)] 11 := ⟨⟨by decide, by decide, by decide⟩, Or.inl ⟨kcA, kcTA, rfl⟩⟩
theorem xk_cat_L_same_IllegalStateException : xk_Cat RL 3 "java/lang/IllegalStateException" [(0, 15, 18, 15)] 18 := ⟨⟨by decide, by decide, by decide⟩, Or.inl ⟨kcS, kcTS, rfl⟩⟩
