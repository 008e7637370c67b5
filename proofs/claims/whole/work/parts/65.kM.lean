theorem fgM_77 : xk_F RM 77 4 0 := ⟨RM, TM, 31, rfl, by decide, i_M, (xk_mem 545 (by decide +kernel) (by decide))⟩
theorem fgM_7 : xk_F RM 7 4 1 := ⟨RM, TM, 31, rfl, by decide, i_M, (xk_mem 546 (by decide +kernel) (by decide))⟩
set_option maxRecDepth 100000 in
theorem kbM_80 : xk_CB RM 80 yM_free cM_free 2 (some .int) 0 := ⟨(xk_mem 679 (by rfl) rfl), (xk_mem 41 (by decide +kernel) (by decide)), (xk_mem 676 (by decide +kernel) (by decide)), by decide +kernel⟩
theorem kcM_80 : Cond.instanceMethod yM_free ∈ xk_gt ∧ Cond.selects (yM_free).cls yM_free yM_free ∈ xk_gt := ⟨(xk_mem 678 (by decide +kernel) (by decide)), (xk_mem 17 (by decide +kernel) (by decide))⟩
theorem fgM_84 : xk_F RM 84 4 7 := ⟨RM, TM, 31, rfl, by decide, i_M, (xk_mem 552 (by decide +kernel) (by decide))⟩
theorem fpM_84 : xk_FP RM 84 4 7 false (.int) := ⟨RM, TM, 31, rfl, by decide, i_M, (xk_mem 552 (by decide +kernel) (by decide)), ⟨tM, tM_ok⟩, nM_ok, rfl, by decide +kernel, fun h => by cases h⟩
theorem fgM_13 : xk_F RM 13 4 2 := ⟨RM, TM, 31, rfl, by decide, i_M, (xk_mem 547 (by decide +kernel) (by decide))⟩
theorem fgM_17 : xk_F RM 17 4 3 := ⟨RM, TM, 31, rfl, by decide, i_M, (xk_mem 548 (by decide +kernel) (by decide))⟩
theorem fgM_21 : xk_F RM 21 4 4 := ⟨RM, TM, 31, rfl, by decide, i_M, (xk_mem 549 (by decide +kernel) (by decide))⟩
theorem fgM_24 : xk_F RM 24 4 5 := ⟨RM, TM, 31, rfl, by decide, i_M, (xk_mem 550 (by decide +kernel) (by decide))⟩
theorem fpM_87 : xk_FP RM 87 4 20 false (.int) := ⟨RM, TM, 31, rfl, by decide, i_M, (xk_mem 565 (by decide +kernel) (by decide)), ⟨tM, tM_ok⟩, nM_ok, rfl, by decide +kernel, fun h => by cases h⟩
theorem fgM_53 : xk_F RM 53 4 21 := ⟨RM, TM, 31, rfl, by decide, i_M, (xk_mem 566 (by decide +kernel) (by decide))⟩
theorem fgM_56 : xk_F RM 56 4 22 := ⟨RM, TM, 31, rfl, by decide, i_M, (xk_mem 567 (by decide +kernel) (by decide))⟩
theorem fgM_59 : xk_F RM 59 4 23 := ⟨RM, TM, 31, rfl, by decide, i_M, (xk_mem 568 (by decide +kernel) (by decide))⟩
theorem fgM_87 : xk_F RM 87 4 20 := ⟨RM, TM, 31, rfl, by decide, i_M, (xk_mem 565 (by decide +kernel) (by decide))⟩
theorem fgM_44 : xk_F RM 44 4 17 := ⟨RM, TM, 31, rfl, by decide, i_M, (xk_mem 562 (by decide +kernel) (by decide))⟩
theorem fgM_47 : xk_F RM 47 4 18 := ⟨RM, TM, 31, rfl, by decide, i_M, (xk_mem 563 (by decide +kernel) (by decide))⟩
theorem fgM_50 : xk_F RM 50 4 19 := ⟨RM, TM, 31, rfl, by decide, i_M, (xk_mem 564 (by decide +kernel) (by decide))⟩
set_option maxRecDepth 100000 in
theorem kbM_90 : xk_CB RM 90 yM_go cM_go 8 none 1 := ⟨(xk_mem 671 (by rfl) rfl), (xk_mem 41 (by decide +kernel) (by decide)), (xk_mem 668 (by decide +kernel) (by decide)), by decide +kernel⟩
theorem kcM_90 : Cond.instanceMethod yM_go ∈ xk_gt ∧ Cond.selects (yM_go).cls yM_go yM_go ∈ xk_gt := ⟨(xk_mem 670 (by decide +kernel) (by decide)), (xk_mem 15 (by decide +kernel) (by decide))⟩
theorem fpM_77 : xk_FP RM 77 4 0 false (.int) := ⟨RM, TM, 31, rfl, by decide, i_M, (xk_mem 545 (by decide +kernel) (by decide)), ⟨tM, tM_ok⟩, nM_ok, rfl, by decide +kernel, fun h => by cases h⟩
theorem fpM_94 : xk_FP RM 94 4 9 false (.int) := ⟨RM, TM, 31, rfl, by decide, i_M, (xk_mem 554 (by decide +kernel) (by decide)), ⟨tM, tM_ok⟩, nM_ok, rfl, by decide +kernel, fun h => by cases h⟩
