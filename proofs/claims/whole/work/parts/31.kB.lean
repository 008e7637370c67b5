theorem fgB_15 : xk_F RB 15 0 1 := ⟨RB, TB, 2, rfl, by decide, i_B, (xk_mem 114 (by decide +kernel) (by decide))⟩
theorem fgB_9 : xk_F RB 9 0 0 := ⟨RB, TB, 2, rfl, by decide, i_B, (xk_mem 113 (by decide +kernel) (by decide))⟩
theorem fpB_15 : xk_FP RB 15 0 1 false (.int) := ⟨RB, TB, 2, rfl, by decide, i_B, (xk_mem 114 (by decide +kernel) (by decide)), ⟨tB, tB_ok⟩, nB_ok, rfl, by decide +kernel, fun h => by cases h⟩
set_option maxRecDepth 100000 in
theorem kbB_19 : xk_CB RB 19 yB_append cB_append 2 none 1 := ⟨(xk_mem 280 (by rfl) rfl), (xk_mem 40 (by decide +kernel) (by decide)), (xk_mem 286 (by decide +kernel) (by decide)), by decide +kernel⟩
theorem kcB_19 : Cond.instanceMethod yB_append ∈ xk_gt ∧ Cond.selects (yB_append).cls yB_append yB_append ∈ xk_gt := ⟨(xk_mem 278 (by decide +kernel) (by decide)), (xk_mem 279 (by decide +kernel) (by decide))⟩
theorem kyB_23 : xk_Cp RB 23 := ⟨(xk_mem 314 (by decide +kernel) (by decide)), (xk_mem 251 (by decide +kernel) (by decide)), (xk_mem 250 (by decide +kernel) (by decide)), (xk_mem 49 (by decide +kernel) (by decide))⟩
