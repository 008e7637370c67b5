set_option maxHeartbeats 4000000 in
set_option maxRecDepth 100000 in
/-- isKind: 0 .. 11 -/
theorem c_F_isKind (D : va_G) (kd : Int32) : xk_Ct yF_isKind cF_isKind 1 (some .boolean) { frames := 0, cells := 0, slots := 0, locals := 0 } D ([]) [.int kd] ([]) (fun rv ru => (rv = some (.int (nI 0)) ∧ ru = [] ∧ (∀ j, j ≤ 11 → kd ≠ nI j)) ∨ (∃ (j : Nat), rv = some (.int (nI 1)) ∧ ru = [] ∧ (kd = nI j) ∧ (j ≤ 11))) := by
  refine xk_enter (by decide) (Nat.le_of_ble_eq_true rfl) (fun K C T hin => ?_)
  show xk_Go K D 1 0 0 ([]) [(0, .int kd)] 0 []
  refine x_iload_n C dF_isKind_0 rfl 0 rfl ?_
  refine x_if_lt (tgt := 14) C dF_isKind_1 (by decide) (fun h1 => ?_) (fun h1 => ?_)
  ·
    refine x_iconst (v := nI 0) C dF_isKind_14 (by decide) ?_
    exact x_iret C T .boolean rfl rfl dF_isKind_15 (Or.inl (⟨rfl, rfl, (fun j hj e => nI_pos (n := j) (by omega) (e ▸ h1))⟩))
  ·
    obtain ⟨j, hj, rfl⟩ := nI_of h1
    refine x_iload_n C dF_isKind_4 rfl 0 rfl ?_
    refine x_bipush (v := nI 11) C dF_isKind_5 (by decide) ?_
    refine x_icmp_gtN (tgt := 14) C (by omega) (by decide) dF_isKind_7 (by decide) (fun h7 => ?_) (fun h7 => ?_)
    ·
      refine x_iconst (v := nI 0) C dF_isKind_14 (by decide) ?_
      exact x_iret C T .boolean rfl rfl dF_isKind_15 (Or.inl (⟨rfl, rfl, (fun i hi e => by have := (nI_eq hj (by omega)).mp e; omega)⟩))
    ·
      refine x_iconst (v := nI 1) C dF_isKind_10 (by decide) ?_
      refine x_goto C 15 dF_isKind_11 (by decide) ?_
      exact x_iret C T .boolean rfl rfl dF_isKind_15 (Or.inr (⟨j, rfl, rfl, rfl, (by omega)⟩))
set_option maxHeartbeats 4000000 in
set_option maxRecDepth 100000 in
/-- partsOf -/
theorem c_F_partsOf (D : va_G) (kd : Nat) (y1 : kd < 2 ^ 31) : xk_Ct yF_partsOf cF_partsOf 1 (some .int) { frames := 0, cells := 0, slots := 0, locals := 0 } D ([]) [.int (nI kd)] ([]) (fun rv ru => (rv = some (.int (nI (tc_tk kd))) ∧ ru = [])) := by
  refine xk_enter (by decide) (Nat.le_of_ble_eq_true rfl) (fun K C T hin => ?_)
  show xk_Go K D 1 0 0 ([]) [(0, .int (nI kd))] 0 []
  refine x_iload_n C dF_partsOf_0 rfl 0 rfl ?_
  refine x_iconst (v := nI 2) C dF_partsOf_1 (by decide) ?_
  refine x_icmp_neN (tgt := 7) C (by omega) (by decide) dF_partsOf_2 (by decide) (fun h2 => ?_) (fun h2 => ?_)
  ·
    refine x_iload_n C dF_partsOf_7 rfl 0 rfl ?_
    refine x_iconst (v := nI 1) C dF_partsOf_8 (by decide) ?_
    refine x_icmp_eqN (tgt := 22) C (by omega) (by decide) dF_partsOf_9 (by decide) (fun h9 => ?_) (fun h9 => ?_)
    ·
      refine x_iconst (v := nI 1) C dF_partsOf_22 (by decide) ?_
      refine x_goto C 27 dF_partsOf_23 (by decide) ?_
      exact x_iret C T .int rfl rfl dF_partsOf_27 (⟨by rw [h9]; rfl, rfl⟩)
    ·
      refine x_iload_n C dF_partsOf_12 rfl 0 rfl ?_
      refine x_iconst (v := nI 3) C dF_partsOf_13 (by decide) ?_
      refine x_icmp_eqN (tgt := 22) C (by omega) (by decide) dF_partsOf_14 (by decide) (fun h14 => ?_) (fun h14 => ?_)
      ·
        refine x_iconst (v := nI 1) C dF_partsOf_22 (by decide) ?_
        refine x_goto C 27 dF_partsOf_23 (by decide) ?_
        exact x_iret C T .int rfl rfl dF_partsOf_27 (⟨by rw [h14]; rfl, rfl⟩)
      ·
        refine x_iload_n C dF_partsOf_17 rfl 0 rfl ?_
        refine x_iconst (v := nI 4) C dF_partsOf_18 (by decide) ?_
        refine x_icmp_neN (tgt := 26) C (by omega) (by decide) dF_partsOf_19 (by decide) (fun h19 => ?_) (fun h19 => ?_)
        ·
          refine x_iconst (v := nI 0) C dF_partsOf_26 (by decide) ?_
          exact x_iret C T .int rfl rfl dF_partsOf_27 (⟨by unfold tc_tk; rw [if_neg h2, if_neg (by omega)], rfl⟩)
        ·
          refine x_iconst (v := nI 1) C dF_partsOf_22 (by decide) ?_
          refine x_goto C 27 dF_partsOf_23 (by decide) ?_
          exact x_iret C T .int rfl rfl dF_partsOf_27 (⟨by rw [h19]; rfl, rfl⟩)
  ·
    refine x_iconst (v := nI 2) C dF_partsOf_5 (by decide) ?_
    exact x_iret C T .int rfl rfl dF_partsOf_6 (⟨by rw [h2]; rfl, rfl⟩)
set_option maxHeartbeats 4000000 in
set_option maxRecDepth 100000 in
/-- hasNumber -/
theorem c_F_hasNumber (D : va_G) (kd : Nat) (y1 : kd < 2 ^ 31) : xk_Ct yF_hasNumber cF_hasNumber 1 (some .boolean) { frames := 0, cells := 0, slots := 0, locals := 0 } D ([]) [.int (nI kd)] ([]) (fun rv ru => (rv = some (.int (xk_bZ (tc_num kd))) ∧ ru = [])) := by
  refine xk_enter (by decide) (Nat.le_of_ble_eq_true rfl) (fun K C T hin => ?_)
  show xk_Go K D 1 0 0 ([]) [(0, .int (nI kd))] 0 []
  refine x_iload_n C dF_hasNumber_0 rfl 0 rfl ?_
  refine x_if_eqN (tgt := 22) C (by omega) dF_hasNumber_1 (by decide) (fun h1 => ?_) (fun h1 => ?_)
  ·
    refine x_iconst (v := nI 1) C dF_hasNumber_22 (by decide) ?_
    refine x_goto C 27 dF_hasNumber_23 (by decide) ?_
    exact x_iret C T .boolean rfl rfl dF_hasNumber_27 (⟨by rw [h1]; rfl, rfl⟩)
  ·
    refine x_iload_n C dF_hasNumber_4 rfl 0 rfl ?_
    refine x_bipush (v := nI 6) C dF_hasNumber_5 (by decide) ?_
    refine x_icmp_eqN (tgt := 22) C (by omega) (by decide) dF_hasNumber_7 (by decide) (fun h7 => ?_) (fun h7 => ?_)
    ·
      refine x_iconst (v := nI 1) C dF_hasNumber_22 (by decide) ?_
      refine x_goto C 27 dF_hasNumber_23 (by decide) ?_
      exact x_iret C T .boolean rfl rfl dF_hasNumber_27 (⟨by rw [h7]; rfl, rfl⟩)
    ·
      refine x_iload_n C dF_hasNumber_10 rfl 0 rfl ?_
      refine x_bipush (v := nI 7) C dF_hasNumber_11 (by decide) ?_
      refine x_icmp_eqN (tgt := 22) C (by omega) (by decide) dF_hasNumber_13 (by decide) (fun h13 => ?_) (fun h13 => ?_)
      ·
        refine x_iconst (v := nI 1) C dF_hasNumber_22 (by decide) ?_
        refine x_goto C 27 dF_hasNumber_23 (by decide) ?_
        exact x_iret C T .boolean rfl rfl dF_hasNumber_27 (⟨by rw [h13]; rfl, rfl⟩)
      ·
        refine x_iload_n C dF_hasNumber_16 rfl 0 rfl ?_
        refine x_bipush (v := nI 9) C dF_hasNumber_17 (by decide) ?_
        refine x_icmp_neN (tgt := 26) C (by omega) (by decide) dF_hasNumber_19 (by decide) (fun h19 => ?_) (fun h19 => ?_)
        ·
          refine x_iconst (v := nI 0) C dF_hasNumber_26 (by decide) ?_
          exact x_iret C T .boolean rfl rfl dF_hasNumber_27 (⟨by rw [show tc_num kd = false from decide_eq_false (by omega)]; rfl, rfl⟩)
        ·
          refine x_iconst (v := nI 1) C dF_hasNumber_22 (by decide) ?_
          refine x_goto C 27 dF_hasNumber_23 (by decide) ?_
          exact x_iret C T .boolean rfl rfl dF_hasNumber_27 (⟨by rw [h19]; rfl, rfl⟩)
set_option maxHeartbeats 4000000 in
set_option maxRecDepth 100000 in
/-- fits -/
theorem c_F_fits (D : va_G) (kd : Nat) (x : Int64) (y1 : kd = 0 ∨ kd = 1 ∨ kd = 2 ∨ kd = 3 ∨ kd = 4 ∨ kd = 5 ∨ kd = 6 ∨ kd = 7 ∨ kd = 8 ∨ kd = 9 ∨ kd = 10 ∨ kd = 11) : xk_Ct yF_fits cF_fits 3 (some .boolean) { frames := 0, cells := 0, slots := 0, locals := 0 } D ([]) [.int (nI kd), .long x] ([]) (fun rv ru => (rv = some (.int (xk_bZ (tc_fit kd x))) ∧ ru = [])) := by
  refine xk_enter (by decide) (Nat.le_of_ble_eq_true rfl) (fun K C T hin => ?_)
  show xk_Go K D 3 0 0 ([]) [(0, .int (nI kd)), (1, .long x)] 0 []
  refine x_iload_n C dF_fits_0 rfl 0 rfl ?_
  rcases y1 with rfl | rfl | rfl | rfl | rfl | rfl | rfl | rfl | rfl | rfl | rfl | rfl
  ·
    refine x_tblIn C 56 dF_fits_1 (by decide) (by decide) rfl (by decide) ?_
    refine x_lload_n C dF_fits_56 rfl 1 rfl ?_
    refine x_lconst (v := 1) C dF_fits_57 (by decide) ?_
    refine x_lcmp C dF_fits_58 ?_
    refine x_if_ltC (tgt := 74) C dF_fits_59 (by decide) (fun h59 => ?_) (fun h59 => ?_)
    ·
      refine x_iconst (v := nI 0) C dF_fits_74 (by decide) ?_
      exact x_iret C T .boolean rfl rfl dF_fits_75 (⟨by rw [show tc_fit 0 x = false from tc_fit_f (show ¬ (1 ≤ x ∧ x ≤ 200) from (by rintro ⟨q1, q2⟩; exact absurd h59 (Int64.not_lt.mpr q1)))]; rfl, rfl⟩)
    ·
      refine x_lload_n C dF_fits_62 rfl 1 rfl ?_
      refine x_ldc2 (v := 200) C dF_fits_63 klF_9 ?_
      refine x_lcmp C dF_fits_66 ?_
      refine x_if_gtC (tgt := 74) C dF_fits_67 (by decide) (fun h67 => ?_) (fun h67 => ?_)
      ·
        refine x_iconst (v := nI 0) C dF_fits_74 (by decide) ?_
        exact x_iret C T .boolean rfl rfl dF_fits_75 (⟨by rw [show tc_fit 0 x = false from tc_fit_f (show ¬ (1 ≤ x ∧ x ≤ 200) from (by rintro ⟨q1, q2⟩; exact absurd h67 (Int64.not_lt.mpr q2)))]; rfl, rfl⟩)
      ·
        refine x_iconst (v := nI 1) C dF_fits_70 (by decide) ?_
        refine x_goto C 75 dF_fits_71 (by decide) ?_
        exact x_iret C T .boolean rfl rfl dF_fits_75 (⟨by rw [show tc_fit 0 x = true from tc_fit_t (show (1 ≤ x ∧ x ≤ 200) from ⟨Int64.not_lt.mp h59, Int64.not_lt.mp h67⟩)]; rfl, rfl⟩)
  ·
    refine x_tblIn C 136 dF_fits_1 (by decide) (by decide) rfl (by decide) ?_
    refine x_lload_n C dF_fits_136 rfl 1 rfl ?_
    refine x_lconst (v := 0) C dF_fits_137 (by decide) ?_
    refine x_lcmp C dF_fits_138 ?_
    refine x_if_neC (tgt := 146) C dF_fits_139 (by decide) (fun h139 => ?_) (fun h139 => ?_)
    ·
      refine x_iconst (v := nI 0) C dF_fits_146 (by decide) ?_
      exact x_iret C T .boolean rfl rfl dF_fits_147 (⟨by rw [show tc_fit 1 x = false from tc_fit_f (show ¬ (x = 0) from h139)]; rfl, rfl⟩)
    ·
      refine x_iconst (v := nI 1) C dF_fits_142 (by decide) ?_
      refine x_goto C 147 dF_fits_143 (by decide) ?_
      exact x_iret C T .boolean rfl rfl dF_fits_147 (⟨by rw [show tc_fit 1 x = true from tc_fit_t (show (x = 0) from h139)]; rfl, rfl⟩)
  ·
    refine x_tblIn C 136 dF_fits_1 (by decide) (by decide) rfl (by decide) ?_
    refine x_lload_n C dF_fits_136 rfl 1 rfl ?_
    refine x_lconst (v := 0) C dF_fits_137 (by decide) ?_
    refine x_lcmp C dF_fits_138 ?_
    refine x_if_neC (tgt := 146) C dF_fits_139 (by decide) (fun h139 => ?_) (fun h139 => ?_)
    ·
      refine x_iconst (v := nI 0) C dF_fits_146 (by decide) ?_
      exact x_iret C T .boolean rfl rfl dF_fits_147 (⟨by rw [show tc_fit 2 x = false from tc_fit_f (show ¬ (x = 0) from h139)]; rfl, rfl⟩)
    ·
      refine x_iconst (v := nI 1) C dF_fits_142 (by decide) ?_
      refine x_goto C 147 dF_fits_143 (by decide) ?_
      exact x_iret C T .boolean rfl rfl dF_fits_147 (⟨by rw [show tc_fit 2 x = true from tc_fit_t (show (x = 0) from h139)]; rfl, rfl⟩)
  ·
    refine x_tblIn C 136 dF_fits_1 (by decide) (by decide) rfl (by decide) ?_
    refine x_lload_n C dF_fits_136 rfl 1 rfl ?_
    refine x_lconst (v := 0) C dF_fits_137 (by decide) ?_
    refine x_lcmp C dF_fits_138 ?_
    refine x_if_neC (tgt := 146) C dF_fits_139 (by decide) (fun h139 => ?_) (fun h139 => ?_)
    ·
      refine x_iconst (v := nI 0) C dF_fits_146 (by decide) ?_
      exact x_iret C T .boolean rfl rfl dF_fits_147 (⟨by rw [show tc_fit 3 x = false from tc_fit_f (show ¬ (x = 0) from h139)]; rfl, rfl⟩)
    ·
      refine x_iconst (v := nI 1) C dF_fits_142 (by decide) ?_
      refine x_goto C 147 dF_fits_143 (by decide) ?_
      exact x_iret C T .boolean rfl rfl dF_fits_147 (⟨by rw [show tc_fit 3 x = true from tc_fit_t (show (x = 0) from h139)]; rfl, rfl⟩)
  ·
    refine x_tblIn C 136 dF_fits_1 (by decide) (by decide) rfl (by decide) ?_
    refine x_lload_n C dF_fits_136 rfl 1 rfl ?_
    refine x_lconst (v := 0) C dF_fits_137 (by decide) ?_
    refine x_lcmp C dF_fits_138 ?_
    refine x_if_neC (tgt := 146) C dF_fits_139 (by decide) (fun h139 => ?_) (fun h139 => ?_)
    ·
      refine x_iconst (v := nI 0) C dF_fits_146 (by decide) ?_
      exact x_iret C T .boolean rfl rfl dF_fits_147 (⟨by rw [show tc_fit 4 x = false from tc_fit_f (show ¬ (x = 0) from h139)]; rfl, rfl⟩)
    ·
      refine x_iconst (v := nI 1) C dF_fits_142 (by decide) ?_
      refine x_goto C 147 dF_fits_143 (by decide) ?_
      exact x_iret C T .boolean rfl rfl dF_fits_147 (⟨by rw [show tc_fit 4 x = true from tc_fit_t (show (x = 0) from h139)]; rfl, rfl⟩)
  ·
    refine x_tblIn C 136 dF_fits_1 (by decide) (by decide) rfl (by decide) ?_
    refine x_lload_n C dF_fits_136 rfl 1 rfl ?_
    refine x_lconst (v := 0) C dF_fits_137 (by decide) ?_
    refine x_lcmp C dF_fits_138 ?_
    refine x_if_neC (tgt := 146) C dF_fits_139 (by decide) (fun h139 => ?_) (fun h139 => ?_)
    ·
      refine x_iconst (v := nI 0) C dF_fits_146 (by decide) ?_
      exact x_iret C T .boolean rfl rfl dF_fits_147 (⟨by rw [show tc_fit 5 x = false from tc_fit_f (show ¬ (x = 0) from h139)]; rfl, rfl⟩)
    ·
      refine x_iconst (v := nI 1) C dF_fits_142 (by decide) ?_
      refine x_goto C 147 dF_fits_143 (by decide) ?_
      exact x_iret C T .boolean rfl rfl dF_fits_147 (⟨by rw [show tc_fit 5 x = true from tc_fit_t (show (x = 0) from h139)]; rfl, rfl⟩)
  ·
    refine x_tblIn C 76 dF_fits_1 (by decide) (by decide) rfl (by decide) ?_
    refine x_lload_n C dF_fits_76 rfl 1 rfl ?_
    refine x_lconst (v := 0) C dF_fits_77 (by decide) ?_
    refine x_lcmp C dF_fits_78 ?_
    refine x_if_ltC (tgt := 94) C dF_fits_79 (by decide) (fun h79 => ?_) (fun h79 => ?_)
    ·
      refine x_iconst (v := nI 0) C dF_fits_94 (by decide) ?_
      exact x_iret C T .boolean rfl rfl dF_fits_95 (⟨by rw [show tc_fit 6 x = false from tc_fit_f (show ¬ (0 ≤ x ∧ x ≤ 31) from (by rintro ⟨q1, q2⟩; exact absurd h79 (Int64.not_lt.mpr q1)))]; rfl, rfl⟩)
    ·
      refine x_lload_n C dF_fits_82 rfl 1 rfl ?_
      refine x_ldc2 (v := 31) C dF_fits_83 klF_11 ?_
      refine x_lcmp C dF_fits_86 ?_
      refine x_if_gtC (tgt := 94) C dF_fits_87 (by decide) (fun h87 => ?_) (fun h87 => ?_)
      ·
        refine x_iconst (v := nI 0) C dF_fits_94 (by decide) ?_
        exact x_iret C T .boolean rfl rfl dF_fits_95 (⟨by rw [show tc_fit 6 x = false from tc_fit_f (show ¬ (0 ≤ x ∧ x ≤ 31) from (by rintro ⟨q1, q2⟩; exact absurd h87 (Int64.not_lt.mpr q2)))]; rfl, rfl⟩)
      ·
        refine x_iconst (v := nI 1) C dF_fits_90 (by decide) ?_
        refine x_goto C 95 dF_fits_91 (by decide) ?_
        exact x_iret C T .boolean rfl rfl dF_fits_95 (⟨by rw [show tc_fit 6 x = true from tc_fit_t (show (0 ≤ x ∧ x ≤ 31) from ⟨Int64.not_lt.mp h79, Int64.not_lt.mp h87⟩)]; rfl, rfl⟩)
  ·
    refine x_tblIn C 96 dF_fits_1 (by decide) (by decide) rfl (by decide) ?_
    refine x_iconst (v := nI 1) C dF_fits_96 (by decide) ?_
    exact x_iret C T .boolean rfl rfl dF_fits_97 (⟨by rw [show tc_fit 7 x = true from tc_fit_t (show True from trivial)]; rfl, rfl⟩)
  ·
    refine x_tblIn C 98 dF_fits_1 (by decide) (by decide) rfl (by decide) ?_
    refine x_lload_n C dF_fits_98 rfl 1 rfl ?_
    refine x_lconst (v := 0) C dF_fits_99 (by decide) ?_
    refine x_lcmp C dF_fits_100 ?_
    refine x_if_ltC (tgt := 116) C dF_fits_101 (by decide) (fun h101 => ?_) (fun h101 => ?_)
    ·
      refine x_iconst (v := nI 0) C dF_fits_116 (by decide) ?_
      exact x_iret C T .boolean rfl rfl dF_fits_117 (⟨by rw [show tc_fit 8 x = false from tc_fit_f (show ¬ (0 ≤ x ∧ x ≤ 64) from (by rintro ⟨q1, q2⟩; exact absurd h101 (Int64.not_lt.mpr q1)))]; rfl, rfl⟩)
    ·
      refine x_lload_n C dF_fits_104 rfl 1 rfl ?_
      refine x_ldc2 (v := 64) C dF_fits_105 klF_13 ?_
      refine x_lcmp C dF_fits_108 ?_
      refine x_if_gtC (tgt := 116) C dF_fits_109 (by decide) (fun h109 => ?_) (fun h109 => ?_)
      ·
        refine x_iconst (v := nI 0) C dF_fits_116 (by decide) ?_
        exact x_iret C T .boolean rfl rfl dF_fits_117 (⟨by rw [show tc_fit 8 x = false from tc_fit_f (show ¬ (0 ≤ x ∧ x ≤ 64) from (by rintro ⟨q1, q2⟩; exact absurd h109 (Int64.not_lt.mpr q2)))]; rfl, rfl⟩)
      ·
        refine x_iconst (v := nI 1) C dF_fits_112 (by decide) ?_
        refine x_goto C 117 dF_fits_113 (by decide) ?_
        exact x_iret C T .boolean rfl rfl dF_fits_117 (⟨by rw [show tc_fit 8 x = true from tc_fit_t (show (0 ≤ x ∧ x ≤ 64) from ⟨Int64.not_lt.mp h101, Int64.not_lt.mp h109⟩)]; rfl, rfl⟩)
  ·
    refine x_tblIn C 118 dF_fits_1 (by decide) (by decide) rfl (by decide) ?_
    refine x_lload_n C dF_fits_118 rfl 1 rfl ?_
    refine x_lconst (v := 0) C dF_fits_119 (by decide) ?_
    refine x_lcmp C dF_fits_120 ?_
    refine x_if_eqC (tgt := 130) C dF_fits_121 (by decide) (fun h121 => ?_) (fun h121 => ?_)
    ·
      refine x_iconst (v := nI 1) C dF_fits_130 (by decide) ?_
      refine x_goto C 135 dF_fits_131 (by decide) ?_
      exact x_iret C T .boolean rfl rfl dF_fits_135 (⟨by rw [show tc_fit 9 x = true from tc_fit_t (show (x = 0 ∨ x = 1) from (Or.inl h121))]; rfl, rfl⟩)
    ·
      refine x_lload_n C dF_fits_124 rfl 1 rfl ?_
      refine x_lconst (v := 1) C dF_fits_125 (by decide) ?_
      refine x_lcmp C dF_fits_126 ?_
      refine x_if_neC (tgt := 134) C dF_fits_127 (by decide) (fun h127 => ?_) (fun h127 => ?_)
      ·
        refine x_iconst (v := nI 0) C dF_fits_134 (by decide) ?_
        exact x_iret C T .boolean rfl rfl dF_fits_135 (⟨by rw [show tc_fit 9 x = false from tc_fit_f (show ¬ (x = 0 ∨ x = 1) from (by rintro (q | q); exact h121 q; exact h127 q))]; rfl, rfl⟩)
      ·
        refine x_iconst (v := nI 1) C dF_fits_130 (by decide) ?_
        refine x_goto C 135 dF_fits_131 (by decide) ?_
        exact x_iret C T .boolean rfl rfl dF_fits_135 (⟨by rw [show tc_fit 9 x = true from tc_fit_t (show (x = 0 ∨ x = 1) from (Or.inr h127))]; rfl, rfl⟩)
  ·
    refine x_tblOut C 136 dF_fits_1 (by decide) (by decide) ?_
    refine x_lload_n C dF_fits_136 rfl 1 rfl ?_
    refine x_lconst (v := 0) C dF_fits_137 (by decide) ?_
    refine x_lcmp C dF_fits_138 ?_
    refine x_if_neC (tgt := 146) C dF_fits_139 (by decide) (fun h139 => ?_) (fun h139 => ?_)
    ·
      refine x_iconst (v := nI 0) C dF_fits_146 (by decide) ?_
      exact x_iret C T .boolean rfl rfl dF_fits_147 (⟨by rw [show tc_fit 10 x = false from tc_fit_f (show ¬ (x = 0) from h139)]; rfl, rfl⟩)
    ·
      refine x_iconst (v := nI 1) C dF_fits_142 (by decide) ?_
      refine x_goto C 147 dF_fits_143 (by decide) ?_
      exact x_iret C T .boolean rfl rfl dF_fits_147 (⟨by rw [show tc_fit 10 x = true from tc_fit_t (show (x = 0) from h139)]; rfl, rfl⟩)
  ·
    refine x_tblOut C 136 dF_fits_1 (by decide) (by decide) ?_
    refine x_lload_n C dF_fits_136 rfl 1 rfl ?_
    refine x_lconst (v := 0) C dF_fits_137 (by decide) ?_
    refine x_lcmp C dF_fits_138 ?_
    refine x_if_neC (tgt := 146) C dF_fits_139 (by decide) (fun h139 => ?_) (fun h139 => ?_)
    ·
      refine x_iconst (v := nI 0) C dF_fits_146 (by decide) ?_
      exact x_iret C T .boolean rfl rfl dF_fits_147 (⟨by rw [show tc_fit 11 x = false from tc_fit_f (show ¬ (x = 0) from h139)]; rfl, rfl⟩)
    ·
      refine x_iconst (v := nI 1) C dF_fits_142 (by decide) ?_
      refine x_goto C 147 dF_fits_143 (by decide) ?_
      exact x_iret C T .boolean rfl rfl dF_fits_147 (⟨by rw [show tc_fit 11 x = true from tc_fit_t (show (x = 0) from h139)]; rfl, rfl⟩)
set_option maxHeartbeats 4000000 in
set_option maxRecDepth 100000 in
/-- unsignedGroups -/
theorem c_F_unsignedGroups (D : va_G) (v : Nat) (y1 : v < 9223372036854775808) : xk_Ct yF_unsignedGroups cF_unsignedGroups 3 (some .int) { frames := 0, cells := 0, slots := 0, locals := 0 } D ([]) [.long (lN v)] ([]) (fun rv ru => (rv = some (.int (nI (tc_gU v))) ∧ ru = [])) := by
  refine xk_enter (by decide) (Nat.le_of_ble_eq_true rfl) (fun K C T hin => ?_)
  show xk_Go K D 3 0 0 ([]) [(0, .long (lN v))] 0 []
  refine x_iconst (v := nI 1) C dF_unsignedGroups_0 (by decide) ?_
  refine x_istore_n C [(2, .int (nI 1)), (0, .long (lN v))] dF_unsignedGroups_1 rfl (by decide) rfl ?_
  refine x_iload_n C dF_unsignedGroups_2 rfl 0 rfl ?_
  refine x_iconst (v := nI 5) C dF_unsignedGroups_3 (by decide) ?_
  refine x_icmp_ge (tgt := 26) C dF_unsignedGroups_4 (by decide) (fun h => absurd h (by decide)) (fun _ => ?_)
  refine x_lload_n C dF_unsignedGroups_7 rfl 1 rfl ?_
  refine x_bipush (v := nI 7) C dF_unsignedGroups_8 (by decide) ?_
  refine x_iload_n C dF_unsignedGroups_10 rfl 0 rfl ?_
  refine x_imul C dF_unsignedGroups_11 ?_
  refine x_top (y := nI 7) (by decide) ?_
  refine x_lushr (v := lN (v / 128)) C dF_unsignedGroups_12 (wb_shr (by omega) (by decide)) ?_
  refine x_lconst (v := 0) C dF_unsignedGroups_13 (by decide) ?_
  refine x_lcmp C dF_unsignedGroups_14 ?_
  refine x_if_neC (tgt := 20) C dF_unsignedGroups_15 (by decide) (fun h15 => ?_) (fun h15 => ?_)
  ·
    have n1 : ¬ v < 128 := fun q => h15 (tc_div0' (by decide) q)
    refine x_iinc (q := 0) C (nI 2) [(2, .int (nI 2)), (0, .long (lN v))] dF_unsignedGroups_20 rfl (by decide) (by decide) rfl ?_
    refine x_goto C 2 dF_unsignedGroups_23 (by decide) ?_
    refine x_iload_n C dF_unsignedGroups_2 rfl 0 rfl ?_
    refine x_iconst (v := nI 5) C dF_unsignedGroups_3 (by decide) ?_
    refine x_icmp_ge (tgt := 26) C dF_unsignedGroups_4 (by decide) (fun h => absurd h (by decide)) (fun _ => ?_)
    refine x_lload_n C dF_unsignedGroups_7 rfl 1 rfl ?_
    refine x_bipush (v := nI 7) C dF_unsignedGroups_8 (by decide) ?_
    refine x_iload_n C dF_unsignedGroups_10 rfl 0 rfl ?_
    refine x_imul C dF_unsignedGroups_11 ?_
    refine x_top (y := nI 14) (by decide) ?_
    refine x_lushr (v := lN (v / 16384)) C dF_unsignedGroups_12 (wb_shr (by omega) (by decide)) ?_
    refine x_lconst (v := 0) C dF_unsignedGroups_13 (by decide) ?_
    refine x_lcmp C dF_unsignedGroups_14 ?_
    refine x_if_neC (tgt := 20) C dF_unsignedGroups_15 (by decide) (fun h15 => ?_) (fun h15 => ?_)
    ·
      have n2 : ¬ v < 16384 := fun q => h15 (tc_div0' (by decide) q)
      refine x_iinc (q := 0) C (nI 3) [(2, .int (nI 3)), (0, .long (lN v))] dF_unsignedGroups_20 rfl (by decide) (by decide) rfl ?_
      refine x_goto C 2 dF_unsignedGroups_23 (by decide) ?_
      refine x_iload_n C dF_unsignedGroups_2 rfl 0 rfl ?_
      refine x_iconst (v := nI 5) C dF_unsignedGroups_3 (by decide) ?_
      refine x_icmp_ge (tgt := 26) C dF_unsignedGroups_4 (by decide) (fun h => absurd h (by decide)) (fun _ => ?_)
      refine x_lload_n C dF_unsignedGroups_7 rfl 1 rfl ?_
      refine x_bipush (v := nI 7) C dF_unsignedGroups_8 (by decide) ?_
      refine x_iload_n C dF_unsignedGroups_10 rfl 0 rfl ?_
      refine x_imul C dF_unsignedGroups_11 ?_
      refine x_top (y := nI 21) (by decide) ?_
      refine x_lushr (v := lN (v / 2097152)) C dF_unsignedGroups_12 (wb_shr (by omega) (by decide)) ?_
      refine x_lconst (v := 0) C dF_unsignedGroups_13 (by decide) ?_
      refine x_lcmp C dF_unsignedGroups_14 ?_
      refine x_if_neC (tgt := 20) C dF_unsignedGroups_15 (by decide) (fun h15 => ?_) (fun h15 => ?_)
      ·
        have n3 : ¬ v < 2097152 := fun q => h15 (tc_div0' (by decide) q)
        refine x_iinc (q := 0) C (nI 4) [(2, .int (nI 4)), (0, .long (lN v))] dF_unsignedGroups_20 rfl (by decide) (by decide) rfl ?_
        refine x_goto C 2 dF_unsignedGroups_23 (by decide) ?_
        refine x_iload_n C dF_unsignedGroups_2 rfl 0 rfl ?_
        refine x_iconst (v := nI 5) C dF_unsignedGroups_3 (by decide) ?_
        refine x_icmp_ge (tgt := 26) C dF_unsignedGroups_4 (by decide) (fun h => absurd h (by decide)) (fun _ => ?_)
        refine x_lload_n C dF_unsignedGroups_7 rfl 1 rfl ?_
        refine x_bipush (v := nI 7) C dF_unsignedGroups_8 (by decide) ?_
        refine x_iload_n C dF_unsignedGroups_10 rfl 0 rfl ?_
        refine x_imul C dF_unsignedGroups_11 ?_
        refine x_top (y := nI 28) (by decide) ?_
        refine x_lushr (v := lN (v / 268435456)) C dF_unsignedGroups_12 (wb_shr (by omega) (by decide)) ?_
        refine x_lconst (v := 0) C dF_unsignedGroups_13 (by decide) ?_
        refine x_lcmp C dF_unsignedGroups_14 ?_
        refine x_if_neC (tgt := 20) C dF_unsignedGroups_15 (by decide) (fun h15 => ?_) (fun h15 => ?_)
        ·
          have n4 : ¬ v < 268435456 := fun q => h15 (tc_div0' (by decide) q)
          refine x_iinc (q := 0) C (nI 5) [(2, .int (nI 5)), (0, .long (lN v))] dF_unsignedGroups_20 rfl (by decide) (by decide) rfl ?_
          refine x_goto C 2 dF_unsignedGroups_23 (by decide) ?_
          refine x_iload_n C dF_unsignedGroups_2 rfl 0 rfl ?_
          refine x_iconst (v := nI 5) C dF_unsignedGroups_3 (by decide) ?_
          refine x_icmp_ge (tgt := 26) C dF_unsignedGroups_4 (by decide) (fun _ => ?_) (fun h => absurd (by decide) h)
          refine x_iconst (v := nI 5) C dF_unsignedGroups_26 (by decide) ?_
          exact x_iret C T .int rfl rfl dF_unsignedGroups_27 (⟨by rw [show tc_gU v = 5 by unfold tc_gU; simp only [if_neg n1, if_neg n2, if_neg n3, if_neg n4]], rfl⟩)
        ·
          refine x_iload_n C dF_unsignedGroups_18 rfl 0 rfl ?_
          have z4 : v < 268435456 := tc_div0 (by decide) (by omega) h15
          exact x_iret C T .int rfl rfl dF_unsignedGroups_19 (⟨by rw [show tc_gU v = 4 by unfold tc_gU; simp only [if_neg n1, if_neg n2, if_neg n3, if_pos z4]], rfl⟩)
      ·
        refine x_iload_n C dF_unsignedGroups_18 rfl 0 rfl ?_
        have z3 : v < 2097152 := tc_div0 (by decide) (by omega) h15
        exact x_iret C T .int rfl rfl dF_unsignedGroups_19 (⟨by rw [show tc_gU v = 3 by unfold tc_gU; simp only [if_neg n1, if_neg n2, if_pos z3]], rfl⟩)
    ·
      refine x_iload_n C dF_unsignedGroups_18 rfl 0 rfl ?_
      have z2 : v < 16384 := tc_div0 (by decide) (by omega) h15
      exact x_iret C T .int rfl rfl dF_unsignedGroups_19 (⟨by rw [show tc_gU v = 2 by unfold tc_gU; simp only [if_neg n1, if_pos z2]], rfl⟩)
  ·
    refine x_iload_n C dF_unsignedGroups_18 rfl 0 rfl ?_
    have z1 : v < 128 := tc_div0 (by decide) (by omega) h15
    exact x_iret C T .int rfl rfl dF_unsignedGroups_19 (⟨by rw [show tc_gU v = 1 by unfold tc_gU; simp only [if_pos z1]], rfl⟩)
set_option maxHeartbeats 4000000 in
set_option maxRecDepth 100000 in
/-- signedGroups -/
theorem c_F_signedGroups (D : va_G) (x : Int64) : xk_Ct yF_signedGroups cF_signedGroups 5 (some .int) { frames := 0, cells := 0, slots := 0, locals := 0 } D ([]) [.long x] ([]) (fun rv ru => (rv = some (.int (nI (tc_gS x.toInt))) ∧ ru = [])) := by
  refine xk_enter (by decide) (Nat.le_of_ble_eq_true rfl) (fun K C T hin => ?_)
  show xk_Go K D 5 0 0 ([]) [(0, .long x)] 0 []
  refine x_iconst (v := nI 1) C dF_signedGroups_0 (by decide) ?_
  refine x_istore_n C [(2, .int (nI 1)), (0, .long x)] dF_signedGroups_1 rfl (by decide) rfl ?_
  refine x_iload_n C dF_signedGroups_2 rfl 0 rfl ?_
  refine x_bipush (v := nI 10) C dF_signedGroups_3 (by decide) ?_
  refine x_icmp_ge (tgt := 39) C dF_signedGroups_5 (by decide) (fun h => absurd h (by decide)) (fun _ => ?_)
  refine x_lload_n C dF_signedGroups_8 rfl 1 rfl ?_
  refine x_bipush (v := nI 7) C dF_signedGroups_9 (by decide) ?_
  refine x_iload_n C dF_signedGroups_11 rfl 0 rfl ?_
  refine x_imul C dF_signedGroups_12 ?_
  refine x_top (y := nI 7) (by decide) ?_
  refine x_iconst (v := nI 1) C dF_signedGroups_13 (by decide) ?_
  refine x_isub C dF_signedGroups_14 ?_
  refine x_top (y := nI 6) (by decide) ?_
  refine x_lshr (v := x >>> ((nI 6).toInt64 &&& 63)) C dF_signedGroups_15 rfl ?_
  refine x_lstore_n C [(3, .long (x >>> ((nI 6).toInt64 &&& 63))), (2, .int (nI 1)), (0, .long x)] dF_signedGroups_16 rfl (by decide) rfl ?_
  refine x_lload_n C dF_signedGroups_17 rfl 0 rfl ?_
  refine x_lconst (v := 0) C dF_signedGroups_18 (by decide) ?_
  refine x_lcmp C dF_signedGroups_19 ?_
  refine x_if_eqC (tgt := 31) C dF_signedGroups_20 (by decide) (fun h20 => ?_) (fun h20 => ?_)
  ·
    have z1 := (tc_sg1 x).mp (by first | exact Or.inl h20 | exact Or.inr h28)
    refine x_iload_n C dF_signedGroups_31 rfl 1 rfl ?_
    exact x_iret C T .int rfl rfl dF_signedGroups_32 (⟨by rw [show tc_gS x.toInt = 1 by unfold tc_gS; simp only [if_pos z1]], rfl⟩)
  ·
    refine x_lload_n C dF_signedGroups_23 rfl 0 rfl ?_
    refine x_ldc2 (v := (-1)) C dF_signedGroups_24 klF_24 ?_
    refine x_lcmp C dF_signedGroups_27 ?_
    refine x_if_neC (tgt := 33) C dF_signedGroups_28 (by decide) (fun h28 => ?_) (fun h28 => ?_)
    ·
      have n1 := fun q => ((tc_sg1 x).mpr q).elim h20 h28
      refine x_iinc (q := 1) C (nI 2) [(2, .int (nI 2)), (3, .long (x >>> ((nI 6).toInt64 &&& 63))), (0, .long x)] dF_signedGroups_33 rfl (by decide) (by decide) rfl ?_
      refine x_goto C 2 dF_signedGroups_36 (by decide) ?_
      refine x_iload_n C dF_signedGroups_2 rfl 0 rfl ?_
      refine x_bipush (v := nI 10) C dF_signedGroups_3 (by decide) ?_
      refine x_icmp_ge (tgt := 39) C dF_signedGroups_5 (by decide) (fun h => absurd h (by decide)) (fun _ => ?_)
      refine x_lload_n C dF_signedGroups_8 rfl 2 rfl ?_
      refine x_bipush (v := nI 7) C dF_signedGroups_9 (by decide) ?_
      refine x_iload_n C dF_signedGroups_11 rfl 0 rfl ?_
      refine x_imul C dF_signedGroups_12 ?_
      refine x_top (y := nI 14) (by decide) ?_
      refine x_iconst (v := nI 1) C dF_signedGroups_13 (by decide) ?_
      refine x_isub C dF_signedGroups_14 ?_
      refine x_top (y := nI 13) (by decide) ?_
      refine x_lshr (v := x >>> ((nI 13).toInt64 &&& 63)) C dF_signedGroups_15 rfl ?_
      refine x_lstore_n C [(3, .long (x >>> ((nI 13).toInt64 &&& 63))), (2, .int (nI 2)), (0, .long x)] dF_signedGroups_16 rfl (by decide) rfl ?_
      refine x_lload_n C dF_signedGroups_17 rfl 0 rfl ?_
      refine x_lconst (v := 0) C dF_signedGroups_18 (by decide) ?_
      refine x_lcmp C dF_signedGroups_19 ?_
      refine x_if_eqC (tgt := 31) C dF_signedGroups_20 (by decide) (fun h20 => ?_) (fun h20 => ?_)
      ·
        have z2 := (tc_sg2 x).mp (by first | exact Or.inl h20 | exact Or.inr h28)
        refine x_iload_n C dF_signedGroups_31 rfl 1 rfl ?_
        exact x_iret C T .int rfl rfl dF_signedGroups_32 (⟨by rw [show tc_gS x.toInt = 2 by unfold tc_gS; simp only [if_neg n1, if_pos z2]], rfl⟩)
      ·
        refine x_lload_n C dF_signedGroups_23 rfl 0 rfl ?_
        refine x_ldc2 (v := (-1)) C dF_signedGroups_24 klF_24 ?_
        refine x_lcmp C dF_signedGroups_27 ?_
        refine x_if_neC (tgt := 33) C dF_signedGroups_28 (by decide) (fun h28 => ?_) (fun h28 => ?_)
        ·
          have n2 := fun q => ((tc_sg2 x).mpr q).elim h20 h28
          refine x_iinc (q := 1) C (nI 3) [(2, .int (nI 3)), (3, .long (x >>> ((nI 13).toInt64 &&& 63))), (0, .long x)] dF_signedGroups_33 rfl (by decide) (by decide) rfl ?_
          refine x_goto C 2 dF_signedGroups_36 (by decide) ?_
          refine x_iload_n C dF_signedGroups_2 rfl 0 rfl ?_
          refine x_bipush (v := nI 10) C dF_signedGroups_3 (by decide) ?_
          refine x_icmp_ge (tgt := 39) C dF_signedGroups_5 (by decide) (fun h => absurd h (by decide)) (fun _ => ?_)
          refine x_lload_n C dF_signedGroups_8 rfl 2 rfl ?_
          refine x_bipush (v := nI 7) C dF_signedGroups_9 (by decide) ?_
          refine x_iload_n C dF_signedGroups_11 rfl 0 rfl ?_
          refine x_imul C dF_signedGroups_12 ?_
          refine x_top (y := nI 21) (by decide) ?_
          refine x_iconst (v := nI 1) C dF_signedGroups_13 (by decide) ?_
          refine x_isub C dF_signedGroups_14 ?_
          refine x_top (y := nI 20) (by decide) ?_
          refine x_lshr (v := x >>> ((nI 20).toInt64 &&& 63)) C dF_signedGroups_15 rfl ?_
          refine x_lstore_n C [(3, .long (x >>> ((nI 20).toInt64 &&& 63))), (2, .int (nI 3)), (0, .long x)] dF_signedGroups_16 rfl (by decide) rfl ?_
          refine x_lload_n C dF_signedGroups_17 rfl 0 rfl ?_
          refine x_lconst (v := 0) C dF_signedGroups_18 (by decide) ?_
          refine x_lcmp C dF_signedGroups_19 ?_
          refine x_if_eqC (tgt := 31) C dF_signedGroups_20 (by decide) (fun h20 => ?_) (fun h20 => ?_)
          ·
            have z3 := (tc_sg3 x).mp (by first | exact Or.inl h20 | exact Or.inr h28)
            refine x_iload_n C dF_signedGroups_31 rfl 1 rfl ?_
            exact x_iret C T .int rfl rfl dF_signedGroups_32 (⟨by rw [show tc_gS x.toInt = 3 by unfold tc_gS; simp only [if_neg n1, if_neg n2, if_pos z3]], rfl⟩)
          ·
            refine x_lload_n C dF_signedGroups_23 rfl 0 rfl ?_
            refine x_ldc2 (v := (-1)) C dF_signedGroups_24 klF_24 ?_
            refine x_lcmp C dF_signedGroups_27 ?_
            refine x_if_neC (tgt := 33) C dF_signedGroups_28 (by decide) (fun h28 => ?_) (fun h28 => ?_)
            ·
              have n3 := fun q => ((tc_sg3 x).mpr q).elim h20 h28
              refine x_iinc (q := 1) C (nI 4) [(2, .int (nI 4)), (3, .long (x >>> ((nI 20).toInt64 &&& 63))), (0, .long x)] dF_signedGroups_33 rfl (by decide) (by decide) rfl ?_
              refine x_goto C 2 dF_signedGroups_36 (by decide) ?_
              refine x_iload_n C dF_signedGroups_2 rfl 0 rfl ?_
              refine x_bipush (v := nI 10) C dF_signedGroups_3 (by decide) ?_
              refine x_icmp_ge (tgt := 39) C dF_signedGroups_5 (by decide) (fun h => absurd h (by decide)) (fun _ => ?_)
              refine x_lload_n C dF_signedGroups_8 rfl 2 rfl ?_
              refine x_bipush (v := nI 7) C dF_signedGroups_9 (by decide) ?_
              refine x_iload_n C dF_signedGroups_11 rfl 0 rfl ?_
              refine x_imul C dF_signedGroups_12 ?_
              refine x_top (y := nI 28) (by decide) ?_
              refine x_iconst (v := nI 1) C dF_signedGroups_13 (by decide) ?_
              refine x_isub C dF_signedGroups_14 ?_
              refine x_top (y := nI 27) (by decide) ?_
              refine x_lshr (v := x >>> ((nI 27).toInt64 &&& 63)) C dF_signedGroups_15 rfl ?_
              refine x_lstore_n C [(3, .long (x >>> ((nI 27).toInt64 &&& 63))), (2, .int (nI 4)), (0, .long x)] dF_signedGroups_16 rfl (by decide) rfl ?_
              refine x_lload_n C dF_signedGroups_17 rfl 0 rfl ?_
              refine x_lconst (v := 0) C dF_signedGroups_18 (by decide) ?_
              refine x_lcmp C dF_signedGroups_19 ?_
              refine x_if_eqC (tgt := 31) C dF_signedGroups_20 (by decide) (fun h20 => ?_) (fun h20 => ?_)
              ·
                have z4 := (tc_sg4 x).mp (by first | exact Or.inl h20 | exact Or.inr h28)
                refine x_iload_n C dF_signedGroups_31 rfl 1 rfl ?_
                exact x_iret C T .int rfl rfl dF_signedGroups_32 (⟨by rw [show tc_gS x.toInt = 4 by unfold tc_gS; simp only [if_neg n1, if_neg n2, if_neg n3, if_pos z4]], rfl⟩)
              ·
                refine x_lload_n C dF_signedGroups_23 rfl 0 rfl ?_
                refine x_ldc2 (v := (-1)) C dF_signedGroups_24 klF_24 ?_
                refine x_lcmp C dF_signedGroups_27 ?_
                refine x_if_neC (tgt := 33) C dF_signedGroups_28 (by decide) (fun h28 => ?_) (fun h28 => ?_)
                ·
                  have n4 := fun q => ((tc_sg4 x).mpr q).elim h20 h28
                  refine x_iinc (q := 1) C (nI 5) [(2, .int (nI 5)), (3, .long (x >>> ((nI 27).toInt64 &&& 63))), (0, .long x)] dF_signedGroups_33 rfl (by decide) (by decide) rfl ?_
                  refine x_goto C 2 dF_signedGroups_36 (by decide) ?_
                  refine x_iload_n C dF_signedGroups_2 rfl 0 rfl ?_
                  refine x_bipush (v := nI 10) C dF_signedGroups_3 (by decide) ?_
                  refine x_icmp_ge (tgt := 39) C dF_signedGroups_5 (by decide) (fun h => absurd h (by decide)) (fun _ => ?_)
                  refine x_lload_n C dF_signedGroups_8 rfl 2 rfl ?_
                  refine x_bipush (v := nI 7) C dF_signedGroups_9 (by decide) ?_
                  refine x_iload_n C dF_signedGroups_11 rfl 0 rfl ?_
                  refine x_imul C dF_signedGroups_12 ?_
                  refine x_top (y := nI 35) (by decide) ?_
                  refine x_iconst (v := nI 1) C dF_signedGroups_13 (by decide) ?_
                  refine x_isub C dF_signedGroups_14 ?_
                  refine x_top (y := nI 34) (by decide) ?_
                  refine x_lshr (v := x >>> ((nI 34).toInt64 &&& 63)) C dF_signedGroups_15 rfl ?_
                  refine x_lstore_n C [(3, .long (x >>> ((nI 34).toInt64 &&& 63))), (2, .int (nI 5)), (0, .long x)] dF_signedGroups_16 rfl (by decide) rfl ?_
                  refine x_lload_n C dF_signedGroups_17 rfl 0 rfl ?_
                  refine x_lconst (v := 0) C dF_signedGroups_18 (by decide) ?_
                  refine x_lcmp C dF_signedGroups_19 ?_
                  refine x_if_eqC (tgt := 31) C dF_signedGroups_20 (by decide) (fun h20 => ?_) (fun h20 => ?_)
                  ·
                    have z5 := (tc_sg5 x).mp (by first | exact Or.inl h20 | exact Or.inr h28)
                    refine x_iload_n C dF_signedGroups_31 rfl 1 rfl ?_
                    exact x_iret C T .int rfl rfl dF_signedGroups_32 (⟨by rw [show tc_gS x.toInt = 5 by unfold tc_gS; simp only [if_neg n1, if_neg n2, if_neg n3, if_neg n4, if_pos z5]], rfl⟩)
                  ·
                    refine x_lload_n C dF_signedGroups_23 rfl 0 rfl ?_
                    refine x_ldc2 (v := (-1)) C dF_signedGroups_24 klF_24 ?_
                    refine x_lcmp C dF_signedGroups_27 ?_
                    refine x_if_neC (tgt := 33) C dF_signedGroups_28 (by decide) (fun h28 => ?_) (fun h28 => ?_)
                    ·
                      have n5 := fun q => ((tc_sg5 x).mpr q).elim h20 h28
                      refine x_iinc (q := 1) C (nI 6) [(2, .int (nI 6)), (3, .long (x >>> ((nI 34).toInt64 &&& 63))), (0, .long x)] dF_signedGroups_33 rfl (by decide) (by decide) rfl ?_
                      refine x_goto C 2 dF_signedGroups_36 (by decide) ?_
                      refine x_iload_n C dF_signedGroups_2 rfl 0 rfl ?_
                      refine x_bipush (v := nI 10) C dF_signedGroups_3 (by decide) ?_
                      refine x_icmp_ge (tgt := 39) C dF_signedGroups_5 (by decide) (fun h => absurd h (by decide)) (fun _ => ?_)
                      refine x_lload_n C dF_signedGroups_8 rfl 2 rfl ?_
                      refine x_bipush (v := nI 7) C dF_signedGroups_9 (by decide) ?_
                      refine x_iload_n C dF_signedGroups_11 rfl 0 rfl ?_
                      refine x_imul C dF_signedGroups_12 ?_
                      refine x_top (y := nI 42) (by decide) ?_
                      refine x_iconst (v := nI 1) C dF_signedGroups_13 (by decide) ?_
                      refine x_isub C dF_signedGroups_14 ?_
                      refine x_top (y := nI 41) (by decide) ?_
                      refine x_lshr (v := x >>> ((nI 41).toInt64 &&& 63)) C dF_signedGroups_15 rfl ?_
                      refine x_lstore_n C [(3, .long (x >>> ((nI 41).toInt64 &&& 63))), (2, .int (nI 6)), (0, .long x)] dF_signedGroups_16 rfl (by decide) rfl ?_
                      refine x_lload_n C dF_signedGroups_17 rfl 0 rfl ?_
                      refine x_lconst (v := 0) C dF_signedGroups_18 (by decide) ?_
                      refine x_lcmp C dF_signedGroups_19 ?_
                      refine x_if_eqC (tgt := 31) C dF_signedGroups_20 (by decide) (fun h20 => ?_) (fun h20 => ?_)
                      ·
                        have z6 := (tc_sg6 x).mp (by first | exact Or.inl h20 | exact Or.inr h28)
                        refine x_iload_n C dF_signedGroups_31 rfl 1 rfl ?_
                        exact x_iret C T .int rfl rfl dF_signedGroups_32 (⟨by rw [show tc_gS x.toInt = 6 by unfold tc_gS; simp only [if_neg n1, if_neg n2, if_neg n3, if_neg n4, if_neg n5, if_pos z6]], rfl⟩)
                      ·
                        refine x_lload_n C dF_signedGroups_23 rfl 0 rfl ?_
                        refine x_ldc2 (v := (-1)) C dF_signedGroups_24 klF_24 ?_
                        refine x_lcmp C dF_signedGroups_27 ?_
                        refine x_if_neC (tgt := 33) C dF_signedGroups_28 (by decide) (fun h28 => ?_) (fun h28 => ?_)
                        ·
                          have n6 := fun q => ((tc_sg6 x).mpr q).elim h20 h28
                          refine x_iinc (q := 1) C (nI 7) [(2, .int (nI 7)), (3, .long (x >>> ((nI 41).toInt64 &&& 63))), (0, .long x)] dF_signedGroups_33 rfl (by decide) (by decide) rfl ?_
                          refine x_goto C 2 dF_signedGroups_36 (by decide) ?_
                          refine x_iload_n C dF_signedGroups_2 rfl 0 rfl ?_
                          refine x_bipush (v := nI 10) C dF_signedGroups_3 (by decide) ?_
                          refine x_icmp_ge (tgt := 39) C dF_signedGroups_5 (by decide) (fun h => absurd h (by decide)) (fun _ => ?_)
                          refine x_lload_n C dF_signedGroups_8 rfl 2 rfl ?_
                          refine x_bipush (v := nI 7) C dF_signedGroups_9 (by decide) ?_
                          refine x_iload_n C dF_signedGroups_11 rfl 0 rfl ?_
                          refine x_imul C dF_signedGroups_12 ?_
                          refine x_top (y := nI 49) (by decide) ?_
                          refine x_iconst (v := nI 1) C dF_signedGroups_13 (by decide) ?_
                          refine x_isub C dF_signedGroups_14 ?_
                          refine x_top (y := nI 48) (by decide) ?_
                          refine x_lshr (v := x >>> ((nI 48).toInt64 &&& 63)) C dF_signedGroups_15 rfl ?_
                          refine x_lstore_n C [(3, .long (x >>> ((nI 48).toInt64 &&& 63))), (2, .int (nI 7)), (0, .long x)] dF_signedGroups_16 rfl (by decide) rfl ?_
                          refine x_lload_n C dF_signedGroups_17 rfl 0 rfl ?_
                          refine x_lconst (v := 0) C dF_signedGroups_18 (by decide) ?_
                          refine x_lcmp C dF_signedGroups_19 ?_
                          refine x_if_eqC (tgt := 31) C dF_signedGroups_20 (by decide) (fun h20 => ?_) (fun h20 => ?_)
                          ·
                            have z7 := (tc_sg7 x).mp (by first | exact Or.inl h20 | exact Or.inr h28)
                            refine x_iload_n C dF_signedGroups_31 rfl 1 rfl ?_
                            exact x_iret C T .int rfl rfl dF_signedGroups_32 (⟨by rw [show tc_gS x.toInt = 7 by unfold tc_gS; simp only [if_neg n1, if_neg n2, if_neg n3, if_neg n4, if_neg n5, if_neg n6, if_pos z7]], rfl⟩)
                          ·
                            refine x_lload_n C dF_signedGroups_23 rfl 0 rfl ?_
                            refine x_ldc2 (v := (-1)) C dF_signedGroups_24 klF_24 ?_
                            refine x_lcmp C dF_signedGroups_27 ?_
                            refine x_if_neC (tgt := 33) C dF_signedGroups_28 (by decide) (fun h28 => ?_) (fun h28 => ?_)
                            ·
                              have n7 := fun q => ((tc_sg7 x).mpr q).elim h20 h28
                              refine x_iinc (q := 1) C (nI 8) [(2, .int (nI 8)), (3, .long (x >>> ((nI 48).toInt64 &&& 63))), (0, .long x)] dF_signedGroups_33 rfl (by decide) (by decide) rfl ?_
                              refine x_goto C 2 dF_signedGroups_36 (by decide) ?_
                              refine x_iload_n C dF_signedGroups_2 rfl 0 rfl ?_
                              refine x_bipush (v := nI 10) C dF_signedGroups_3 (by decide) ?_
                              refine x_icmp_ge (tgt := 39) C dF_signedGroups_5 (by decide) (fun h => absurd h (by decide)) (fun _ => ?_)
                              refine x_lload_n C dF_signedGroups_8 rfl 2 rfl ?_
                              refine x_bipush (v := nI 7) C dF_signedGroups_9 (by decide) ?_
                              refine x_iload_n C dF_signedGroups_11 rfl 0 rfl ?_
                              refine x_imul C dF_signedGroups_12 ?_
                              refine x_top (y := nI 56) (by decide) ?_
                              refine x_iconst (v := nI 1) C dF_signedGroups_13 (by decide) ?_
                              refine x_isub C dF_signedGroups_14 ?_
                              refine x_top (y := nI 55) (by decide) ?_
                              refine x_lshr (v := x >>> ((nI 55).toInt64 &&& 63)) C dF_signedGroups_15 rfl ?_
                              refine x_lstore_n C [(3, .long (x >>> ((nI 55).toInt64 &&& 63))), (2, .int (nI 8)), (0, .long x)] dF_signedGroups_16 rfl (by decide) rfl ?_
                              refine x_lload_n C dF_signedGroups_17 rfl 0 rfl ?_
                              refine x_lconst (v := 0) C dF_signedGroups_18 (by decide) ?_
                              refine x_lcmp C dF_signedGroups_19 ?_
                              refine x_if_eqC (tgt := 31) C dF_signedGroups_20 (by decide) (fun h20 => ?_) (fun h20 => ?_)
                              ·
                                have z8 := (tc_sg8 x).mp (by first | exact Or.inl h20 | exact Or.inr h28)
                                refine x_iload_n C dF_signedGroups_31 rfl 1 rfl ?_
                                exact x_iret C T .int rfl rfl dF_signedGroups_32 (⟨by rw [show tc_gS x.toInt = 8 by unfold tc_gS; simp only [if_neg n1, if_neg n2, if_neg n3, if_neg n4, if_neg n5, if_neg n6, if_neg n7, if_pos z8]], rfl⟩)
                              ·
                                refine x_lload_n C dF_signedGroups_23 rfl 0 rfl ?_
                                refine x_ldc2 (v := (-1)) C dF_signedGroups_24 klF_24 ?_
                                refine x_lcmp C dF_signedGroups_27 ?_
                                refine x_if_neC (tgt := 33) C dF_signedGroups_28 (by decide) (fun h28 => ?_) (fun h28 => ?_)
                                ·
                                  have n8 := fun q => ((tc_sg8 x).mpr q).elim h20 h28
                                  refine x_iinc (q := 1) C (nI 9) [(2, .int (nI 9)), (3, .long (x >>> ((nI 55).toInt64 &&& 63))), (0, .long x)] dF_signedGroups_33 rfl (by decide) (by decide) rfl ?_
                                  refine x_goto C 2 dF_signedGroups_36 (by decide) ?_
                                  refine x_iload_n C dF_signedGroups_2 rfl 0 rfl ?_
                                  refine x_bipush (v := nI 10) C dF_signedGroups_3 (by decide) ?_
                                  refine x_icmp_ge (tgt := 39) C dF_signedGroups_5 (by decide) (fun h => absurd h (by decide)) (fun _ => ?_)
                                  refine x_lload_n C dF_signedGroups_8 rfl 2 rfl ?_
                                  refine x_bipush (v := nI 7) C dF_signedGroups_9 (by decide) ?_
                                  refine x_iload_n C dF_signedGroups_11 rfl 0 rfl ?_
                                  refine x_imul C dF_signedGroups_12 ?_
                                  refine x_top (y := nI 63) (by decide) ?_
                                  refine x_iconst (v := nI 1) C dF_signedGroups_13 (by decide) ?_
                                  refine x_isub C dF_signedGroups_14 ?_
                                  refine x_top (y := nI 62) (by decide) ?_
                                  refine x_lshr (v := x >>> ((nI 62).toInt64 &&& 63)) C dF_signedGroups_15 rfl ?_
                                  refine x_lstore_n C [(3, .long (x >>> ((nI 62).toInt64 &&& 63))), (2, .int (nI 9)), (0, .long x)] dF_signedGroups_16 rfl (by decide) rfl ?_
                                  refine x_lload_n C dF_signedGroups_17 rfl 0 rfl ?_
                                  refine x_lconst (v := 0) C dF_signedGroups_18 (by decide) ?_
                                  refine x_lcmp C dF_signedGroups_19 ?_
                                  refine x_if_eqC (tgt := 31) C dF_signedGroups_20 (by decide) (fun h20 => ?_) (fun h20 => ?_)
                                  ·
                                    have z9 := (tc_sg9 x).mp (by first | exact Or.inl h20 | exact Or.inr h28)
                                    refine x_iload_n C dF_signedGroups_31 rfl 1 rfl ?_
                                    exact x_iret C T .int rfl rfl dF_signedGroups_32 (⟨by rw [show tc_gS x.toInt = 9 by unfold tc_gS; simp only [if_neg n1, if_neg n2, if_neg n3, if_neg n4, if_neg n5, if_neg n6, if_neg n7, if_neg n8, if_pos z9]], rfl⟩)
                                  ·
                                    refine x_lload_n C dF_signedGroups_23 rfl 0 rfl ?_
                                    refine x_ldc2 (v := (-1)) C dF_signedGroups_24 klF_24 ?_
                                    refine x_lcmp C dF_signedGroups_27 ?_
                                    refine x_if_neC (tgt := 33) C dF_signedGroups_28 (by decide) (fun h28 => ?_) (fun h28 => ?_)
                                    ·
                                      have n9 := fun q => ((tc_sg9 x).mpr q).elim h20 h28
                                      refine x_iinc (q := 1) C (nI 10) [(2, .int (nI 10)), (3, .long (x >>> ((nI 62).toInt64 &&& 63))), (0, .long x)] dF_signedGroups_33 rfl (by decide) (by decide) rfl ?_
                                      refine x_goto C 2 dF_signedGroups_36 (by decide) ?_
                                      refine x_iload_n C dF_signedGroups_2 rfl 0 rfl ?_
                                      refine x_bipush (v := nI 10) C dF_signedGroups_3 (by decide) ?_
                                      refine x_icmp_ge (tgt := 39) C dF_signedGroups_5 (by decide) (fun _ => ?_) (fun h => absurd (by decide) h)
                                      refine x_bipush (v := nI 10) C dF_signedGroups_39 (by decide) ?_
                                      exact x_iret C T .int rfl rfl dF_signedGroups_41 (⟨by rw [show tc_gS x.toInt = 10 by unfold tc_gS; simp only [if_neg n1, if_neg n2, if_neg n3, if_neg n4, if_neg n5, if_neg n6, if_neg n7, if_neg n8, if_neg n9]], rfl⟩)
                                    ·
                                      have z9 := (tc_sg9 x).mp (by first | exact Or.inl h20 | exact Or.inr h28)
                                      refine x_iload_n C dF_signedGroups_31 rfl 1 rfl ?_
                                      exact x_iret C T .int rfl rfl dF_signedGroups_32 (⟨by rw [show tc_gS x.toInt = 9 by unfold tc_gS; simp only [if_neg n1, if_neg n2, if_neg n3, if_neg n4, if_neg n5, if_neg n6, if_neg n7, if_neg n8, if_pos z9]], rfl⟩)
                                ·
                                  have z8 := (tc_sg8 x).mp (by first | exact Or.inl h20 | exact Or.inr h28)
                                  refine x_iload_n C dF_signedGroups_31 rfl 1 rfl ?_
                                  exact x_iret C T .int rfl rfl dF_signedGroups_32 (⟨by rw [show tc_gS x.toInt = 8 by unfold tc_gS; simp only [if_neg n1, if_neg n2, if_neg n3, if_neg n4, if_neg n5, if_neg n6, if_neg n7, if_pos z8]], rfl⟩)
                            ·
                              have z7 := (tc_sg7 x).mp (by first | exact Or.inl h20 | exact Or.inr h28)
                              refine x_iload_n C dF_signedGroups_31 rfl 1 rfl ?_
                              exact x_iret C T .int rfl rfl dF_signedGroups_32 (⟨by rw [show tc_gS x.toInt = 7 by unfold tc_gS; simp only [if_neg n1, if_neg n2, if_neg n3, if_neg n4, if_neg n5, if_neg n6, if_pos z7]], rfl⟩)
                        ·
                          have z6 := (tc_sg6 x).mp (by first | exact Or.inl h20 | exact Or.inr h28)
                          refine x_iload_n C dF_signedGroups_31 rfl 1 rfl ?_
                          exact x_iret C T .int rfl rfl dF_signedGroups_32 (⟨by rw [show tc_gS x.toInt = 6 by unfold tc_gS; simp only [if_neg n1, if_neg n2, if_neg n3, if_neg n4, if_neg n5, if_pos z6]], rfl⟩)
                    ·
                      have z5 := (tc_sg5 x).mp (by first | exact Or.inl h20 | exact Or.inr h28)
                      refine x_iload_n C dF_signedGroups_31 rfl 1 rfl ?_
                      exact x_iret C T .int rfl rfl dF_signedGroups_32 (⟨by rw [show tc_gS x.toInt = 5 by unfold tc_gS; simp only [if_neg n1, if_neg n2, if_neg n3, if_neg n4, if_pos z5]], rfl⟩)
                ·
                  have z4 := (tc_sg4 x).mp (by first | exact Or.inl h20 | exact Or.inr h28)
                  refine x_iload_n C dF_signedGroups_31 rfl 1 rfl ?_
                  exact x_iret C T .int rfl rfl dF_signedGroups_32 (⟨by rw [show tc_gS x.toInt = 4 by unfold tc_gS; simp only [if_neg n1, if_neg n2, if_neg n3, if_pos z4]], rfl⟩)
            ·
              have z3 := (tc_sg3 x).mp (by first | exact Or.inl h20 | exact Or.inr h28)
              refine x_iload_n C dF_signedGroups_31 rfl 1 rfl ?_
              exact x_iret C T .int rfl rfl dF_signedGroups_32 (⟨by rw [show tc_gS x.toInt = 3 by unfold tc_gS; simp only [if_neg n1, if_neg n2, if_pos z3]], rfl⟩)
        ·
          have z2 := (tc_sg2 x).mp (by first | exact Or.inl h20 | exact Or.inr h28)
          refine x_iload_n C dF_signedGroups_31 rfl 1 rfl ?_
          exact x_iret C T .int rfl rfl dF_signedGroups_32 (⟨by rw [show tc_gS x.toInt = 2 by unfold tc_gS; simp only [if_neg n1, if_pos z2]], rfl⟩)
    ·
      have z1 := (tc_sg1 x).mp (by first | exact Or.inl h20 | exact Or.inr h28)
      refine x_iload_n C dF_signedGroups_31 rfl 1 rfl ?_
      exact x_iret C T .int rfl rfl dF_signedGroups_32 (⟨by rw [show tc_gS x.toInt = 1 by unfold tc_gS; simp only [if_pos z1]], rfl⟩)
set_option maxHeartbeats 4000000 in
set_option maxRecDepth 100000 in
/-- byteOf -/
theorem c_F_byteOf (D : va_G) (x : Int64) (i : Nat) (y1 : i < 8) : xk_Ct yF_byteOf cF_byteOf 3 (some .int) { frames := 0, cells := 0, slots := 0, locals := 0 } D ([]) [.long x, .int (nI i)] ([]) (fun rv ru => (rv = some (.int (nI (tc_by x i))) ∧ ru = [])) := by
  refine xk_enter (by decide) (Nat.le_of_ble_eq_true rfl) (fun K C T hin => ?_)
  show xk_Go K D 3 0 0 ([]) [(0, .long x), (2, .int (nI i))] 0 []
  refine x_lload_n C dF_byteOf_0 rfl 0 rfl ?_
  refine x_bipush (v := nI 8) C dF_byteOf_1 (by decide) ?_
  refine x_iload_n C dF_byteOf_3 rfl 1 rfl ?_
  refine x_imulN C dF_byteOf_4 ?_
  refine x_lushr (v := ((x.toUInt64 >>> ((nI (8 * i)).toInt64.toUInt64 &&& Int64.toUInt64 63)).toInt64)) C dF_byteOf_5 rfl ?_
  refine x_l2i (v := Int64.toInt32 ((x.toUInt64 >>> ((nI (8 * i)).toInt64.toUInt64 &&& Int64.toUInt64 63)).toInt64)) C dF_byteOf_6 rfl ?_
  refine x_sipush (v := nI 255) C dF_byteOf_7 (by decide) ?_
  refine x_iand C dF_byteOf_10 ?_
  refine x_top (tc_byteOf x y1) ?_
  exact x_iret C T .int rfl rfl dF_byteOf_11 (⟨rfl, rfl⟩)
set_option maxHeartbeats 4000000 in
set_option maxRecDepth 100000 in
/-- ownLength -/
theorem c_F_ownLength (D : va_G) (kd : Nat) (x : Int64) (v : Nat) (y1 : kd = 0 ∨ kd = 1 ∨ kd = 2 ∨ kd = 3 ∨ kd = 4 ∨ kd = 5 ∨ kd = 6 ∨ kd = 7 ∨ kd = 8 ∨ kd = 9 ∨ kd = 10 ∨ kd = 11) (y2 : kd = 0 ∨ kd = 8 → x = lN v ∧ v < 2 ^ 30) : xk_Ct yF_ownLength cF_ownLength 3 (some .int) { frames := 1, cells := 0, slots := 0, locals := 24 } D ([]) [.int (nI kd), .long x] ([]) (fun rv ru => (rv = some (.int (nI (tc_ol kd x))) ∧ ru = [])) := by
  refine xk_enter (by decide) (Nat.le_of_ble_eq_true rfl) (fun K C T hin => ?_)
  show xk_Go K D 3 0 0 ([]) [(0, .int (nI kd)), (1, .long x)] 0 []
  refine x_iload_n C dF_ownLength_0 rfl 0 rfl ?_
  rcases y1 with rfl | rfl | rfl | rfl | rfl | rfl | rfl | rfl | rfl | rfl | rfl | rfl
  ·
    refine x_tblIn C 56 dF_ownLength_1 (by decide) (by decide) rfl (by decide) ?_
    refine x_iconst (v := nI 1) C dF_ownLength_56 (by decide) ?_
    obtain ⟨rfl, hv⟩ := y2 (Or.inl rfl)
    refine x_lload_n C dF_ownLength_57 rfl 1 rfl ?_
    refine x_callS C (c_F_unsignedGroups D v (by omega)) kbF_15 kcF_15 [] [] [] ([]) rfl rfl (by decide) (by decide) (by decide) rfl ⟨Nat.le_of_ble_eq_true rfl, Nat.le_of_ble_eq_true rfl⟩ ⟨Nat.le_of_ble_eq_true rfl, Nat.le_of_ble_eq_true rfl⟩ [.int (nI 1)] rfl rfl (Nat.le_of_ble_eq_true rfl) dF_ownLength_58 (fun rv ru hw => ?_)
    obtain ⟨rfl, rfl⟩ := hw
    show xk_Go K D 3 0 0 ([]) [(0, .int (nI 0)), (1, .long (lN v))] 61 [.int (nI (tc_gU v)), .int (nI 1)]
    refine x_iaddN C dF_ownLength_61 ?_
    exact x_iret C T .int rfl rfl dF_ownLength_62 (⟨by rw [tc_ol_0 hv], rfl⟩)
  ·
    refine x_tblIn C 77 dF_ownLength_1 (by decide) (by decide) rfl (by decide) ?_
    refine x_iconst (v := nI 1) C dF_ownLength_77 (by decide) ?_
    exact x_iret C T .int rfl rfl dF_ownLength_78 (⟨rfl, rfl⟩)
  ·
    refine x_tblIn C 77 dF_ownLength_1 (by decide) (by decide) rfl (by decide) ?_
    refine x_iconst (v := nI 1) C dF_ownLength_77 (by decide) ?_
    exact x_iret C T .int rfl rfl dF_ownLength_78 (⟨rfl, rfl⟩)
  ·
    refine x_tblIn C 77 dF_ownLength_1 (by decide) (by decide) rfl (by decide) ?_
    refine x_iconst (v := nI 1) C dF_ownLength_77 (by decide) ?_
    exact x_iret C T .int rfl rfl dF_ownLength_78 (⟨rfl, rfl⟩)
  ·
    refine x_tblIn C 77 dF_ownLength_1 (by decide) (by decide) rfl (by decide) ?_
    refine x_iconst (v := nI 1) C dF_ownLength_77 (by decide) ?_
    exact x_iret C T .int rfl rfl dF_ownLength_78 (⟨rfl, rfl⟩)
  ·
    refine x_tblIn C 77 dF_ownLength_1 (by decide) (by decide) rfl (by decide) ?_
    refine x_iconst (v := nI 1) C dF_ownLength_77 (by decide) ?_
    exact x_iret C T .int rfl rfl dF_ownLength_78 (⟨rfl, rfl⟩)
  ·
    refine x_tblIn C 75 dF_ownLength_1 (by decide) (by decide) rfl (by decide) ?_
    refine x_iconst (v := nI 2) C dF_ownLength_75 (by decide) ?_
    exact x_iret C T .int rfl rfl dF_ownLength_76 (⟨rfl, rfl⟩)
  ·
    refine x_tblIn C 63 dF_ownLength_1 (by decide) (by decide) rfl (by decide) ?_
    refine x_iconst (v := nI 1) C dF_ownLength_63 (by decide) ?_
    refine x_lload_n C dF_ownLength_64 rfl 1 rfl ?_
    refine x_callS C (c_F_signedGroups D x) kbF_21 kcF_21 [] [] [] ([]) rfl rfl (by decide) (by decide) (by decide) rfl ⟨Nat.le_of_ble_eq_true rfl, Nat.le_of_ble_eq_true rfl⟩ ⟨Nat.le_of_ble_eq_true rfl, Nat.le_of_ble_eq_true rfl⟩ [.int (nI 1)] rfl rfl (Nat.le_of_ble_eq_true rfl) dF_ownLength_65 (fun rv ru hw => ?_)
    obtain ⟨rfl, rfl⟩ := hw
    show xk_Go K D 3 0 0 ([]) [(0, .int (nI 7)), (1, .long x)] 68 [.int (nI (tc_gS x.toInt)), .int (nI 1)]
    refine x_iaddN C dF_ownLength_68 ?_
    exact x_iret C T .int rfl rfl dF_ownLength_69 (⟨rfl, rfl⟩)
  ·
    refine x_tblIn C 70 dF_ownLength_1 (by decide) (by decide) rfl (by decide) ?_
    refine x_iconst (v := nI 2) C dF_ownLength_70 (by decide) ?_
    obtain ⟨rfl, hv⟩ := y2 (Or.inr rfl)
    refine x_lload_n C dF_ownLength_71 rfl 1 rfl ?_
    refine x_l2i (v := nI v) C dF_ownLength_72 (lN_i _) ?_
    refine x_iaddN C dF_ownLength_73 ?_
    exact x_iret C T .int rfl rfl dF_ownLength_74 (⟨by rw [tc_ol_8 hv], rfl⟩)
  ·
    refine x_tblIn C 75 dF_ownLength_1 (by decide) (by decide) rfl (by decide) ?_
    refine x_iconst (v := nI 2) C dF_ownLength_75 (by decide) ?_
    exact x_iret C T .int rfl rfl dF_ownLength_76 (⟨rfl, rfl⟩)
  ·
    refine x_tblOut C 77 dF_ownLength_1 (by decide) (by decide) ?_
    refine x_iconst (v := nI 1) C dF_ownLength_77 (by decide) ?_
    exact x_iret C T .int rfl rfl dF_ownLength_78 (⟨rfl, rfl⟩)
  ·
    refine x_tblOut C 77 dF_ownLength_1 (by decide) (by decide) ?_
    refine x_iconst (v := nI 1) C dF_ownLength_77 (by decide) ?_
    exact x_iret C T .int rfl rfl dF_ownLength_78 (⟨rfl, rfl⟩)
