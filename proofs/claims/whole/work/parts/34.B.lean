set_option maxHeartbeats 4000000 in
set_option maxRecDepth 100000 in
/-- room -/
theorem c_B_room (D : va_G) (b : Nat → Nat) (cb : Nat → ClassId) (bf : Nat → Nat) (sz : Nat) (y1 : sz ≤ 4096) : xk_Ct yB_room cB_room 1 (some .int) { frames := 0, cells := 0, slots := 0, locals := 0 } D (tc_tB cb) [.ref (b 0)] (tc_wB b cb bf sz) (fun rv ru => (rv = some (.int (nI (4096 - sz))) ∧ ru = tc_wB b cb bf sz)) := by
  refine xk_enter (by decide) (Nat.le_of_ble_eq_true rfl) (fun K C T hin => ?_)
  show xk_Go K D 1 0 0 (tc_wB b cb bf sz) [(0, .ref (b 0))] 0 []
  refine x_sipush (v := nI 4096) C dB_room_0 (by decide) ?_
  refine x_aload_n C dB_room_3 rfl 0 rfl ?_
  refine x_get C fgB_15 0 rfl rfl dB_room_4 ?_
  refine x_isubN C (by omega) dB_room_7 ?_
  exact x_iret C T .int rfl rfl dB_room_8 (⟨rfl, rfl⟩)
set_option maxHeartbeats 4000000 in
set_option maxRecDepth 100000 in
/-- get -/
theorem c_B_get (D : va_G) (b : Nat → Nat) (cb : Nat → ClassId) (bf : Nat → Nat) (sz : Nat) (i : Int32) (y1 : sz ≤ 4096) : xk_Ct yB_get cB_get 2 (some .int) { frames := 0, cells := 0, slots := 0, locals := 0 } D (tc_tB cb) [.ref (b 0), .int i] (tc_wB b cb bf sz) (fun rv ru => (rv = some (.int (xk_oI none)) ∧ ru = tc_wB b cb bf sz ∧ (∀ j, j < sz → i ≠ nI j)) ∨ (∃ (j : Nat), rv = some (.int (nI (bf j % 256))) ∧ ru = tc_wB b cb bf sz ∧ (i = nI j) ∧ (j < sz))) := by
  refine xk_enter (by decide) (Nat.le_of_ble_eq_true rfl) (fun K C T hin => ?_)
  show xk_Go K D 2 0 0 (tc_wB b cb bf sz) [(0, .ref (b 0)), (1, .int i)] 0 []
  refine x_iload_n C dB_get_0 rfl 1 rfl ?_
  refine x_if_lt (tgt := 12) C dB_get_1 (by decide) (fun h1 => ?_) (fun h1 => ?_)
  ·
    refine x_iconst (v := xk_oI none) C dB_get_12 (by decide) ?_
    refine x_goto C 26 dB_get_13 (by decide) ?_
    exact x_iret C T .int rfl rfl dB_get_26 (Or.inl (⟨rfl, rfl, (fun j hj e => nI_pos (n := j) (by omega) (e ▸ h1))⟩))
  ·
    obtain ⟨j, hj, rfl⟩ := nI_of h1
    refine x_iload_n C dB_get_4 rfl 1 rfl ?_
    refine x_aload_n C dB_get_5 rfl 0 rfl ?_
    refine x_get C fgB_15 0 rfl rfl dB_get_6 ?_
    refine x_icmp_ltN (tgt := 16) C (by omega) (by omega) dB_get_9 (by decide) (fun h9 => ?_) (fun h9 => ?_)
    ·
      refine x_aload_n C dB_get_16 rfl 0 rfl ?_
      refine x_get C fgB_9 0 rfl rfl dB_get_17 ?_
      refine x_iload_n C dB_get_20 rfl 1 rfl ?_
      refine x_bld C 1 0 rfl rfl (by omega) (by decide) dB_get_21 ?_
      show xk_Go K D 2 0 0 (tc_wB b cb bf sz) [(0, .ref (b 0)), (1, .int (nI j))] 22 [.int (xk_sb (bf j))]
      refine x_sipush (v := nI 255) C dB_get_22 (by decide) ?_
      refine x_iand C dB_get_25 ?_
      refine x_top (xk_sb_and (bf j)) ?_
      exact x_iret C T .int rfl rfl dB_get_26 (Or.inr (⟨j, rfl, rfl, rfl, h9⟩))
    ·
      refine x_iconst (v := xk_oI none) C dB_get_12 (by decide) ?_
      refine x_goto C 26 dB_get_13 (by decide) ?_
      exact x_iret C T .int rfl rfl dB_get_26 (Or.inl (⟨rfl, rfl, (fun i hi e => by have := (nI_eq hj (by omega)).mp e; omega)⟩))
set_option maxHeartbeats 4000000 in
set_option maxRecDepth 100000 in
/-- append -/
theorem c_B_append (D : va_G) (b : Nat → Nat) (cb : Nat → ClassId) (bf : Nat → Nat) (sz : Nat) (v : Nat) (y1 : sz < 4096) : xk_Ct yB_append cB_append 2 none { frames := 0, cells := 0, slots := 0, locals := 0 } D (tc_tB cb) [.ref (b 0), .int (nI v)] (tc_wB b cb bf sz) (fun rv ru => (rv = none ∧ ru = tc_wB b cb (va_up bf sz v) (sz + 1))) := by
  refine xk_enter (by decide) (Nat.le_of_ble_eq_true rfl) (fun K C T hin => ?_)
  show xk_Go K D 2 0 0 (tc_wB b cb bf sz) [(0, .ref (b 0)), (1, .int (nI v))] 0 []
  refine x_aload_n C dB_append_0 rfl 0 rfl ?_
  refine x_get C fgB_15 0 rfl rfl dB_append_1 ?_
  refine x_sipush (v := nI 4096) C dB_append_4 (by decide) ?_
  refine x_icmp_geN (tgt := 31) C (by omega) (by decide) dB_append_7 (by decide) (fun h7 => ?_) (fun h7 => ?_)
  ·
    exact absurd h7 (by omega)
  ·
    refine x_aload_n C dB_append_10 rfl 0 rfl ?_
    refine x_get C fgB_9 0 rfl rfl dB_append_11 ?_
    refine x_aload_n C dB_append_14 rfl 0 rfl ?_
    refine x_get C fgB_15 0 rfl rfl dB_append_15 ?_
    refine x_iload_n C dB_append_18 rfl 1 rfl ?_
    refine x_i2b (v := xk_sb v) C dB_append_19 rfl ?_
    refine x_bst C 1 0 (tc_wB b cb (va_up bf sz v) sz) rfl rfl ((congrArg _ (xk_sb_nar v)).trans (xk_bA_up bf sz v)) rfl (by omega) (by decide) dB_append_20 ?_
    refine x_aload_n C dB_append_21 rfl 0 rfl ?_
    refine x_dup C dB_append_22 rfl ?_
    refine x_get C fgB_15 0 rfl rfl dB_append_23 ?_
    refine x_iconst (v := nI 1) C dB_append_26 (by decide) ?_
    refine x_iaddN C dB_append_27 ?_
    refine x_put C fpB_15 0 (tc_wB b cb (va_up bf sz v) (sz + 1)) rfl rfl rfl rfl (Nat.le_of_ble_eq_true rfl) dB_append_28 ?_
    exact x_vret C T rfl dB_append_31 (⟨rfl, rfl⟩)
set_option maxHeartbeats 4000000 in
set_option maxRecDepth 100000 in
/-- appendGroups: so many groups of seven bits -/
theorem c_B_appendGroups (D : va_G) (b : Nat → Nat) (cb : Nat → ClassId) (bf : Nat → Nat) (sz : Nat) (x : Int64) (g : Nat) (y1 : sz + g ≤ 4096) (y2 : g ≤ 10) : xk_Ct yB_appendGroups cB_appendGroups 6 none { frames := 1, cells := 0, slots := 0, locals := 21 } D (tc_tB cb) [.ref (b 0), .long x, .int (nI g)] (tc_wB b cb bf sz) (fun rv ru => (∃ (bg : Nat → Nat), rv = none ∧ ru = tc_wB b cb bg (sz + g) ∧ (∀ j, j < sz → bg j = bf j) ∧ (∀ j, j < g → bg (sz + j) = tc_grb x g j))) := by
  refine xk_enter (by decide) (Nat.le_of_ble_eq_true rfl) (fun K C T hin => ?_)
  show xk_Go K D 6 0 0 (tc_wB b cb bf sz) [(0, .ref (b 0)), (1, .long x), (3, .int (nI g))] 0 []
  refine x_iconst (v := nI 0) C dB_appendGroups_0 (by decide) ?_
  refine x_istore C [(4, .int (nI 0)), (0, .ref (b 0)), (1, .long x), (3, .int (nI g))] dB_appendGroups_1 (by decide) rfl ?_
  have lp3 : ∀ (zc : Nat) (i : Nat) (bg : Nat → Nat), (g - i) < zc → (i ≤ g) → (∀ j, j < sz → bg j = bf j) → (∀ j, j < i → bg (sz + j) = tc_grb x g j) → xk_Go K D 6 0 0 (tc_wB b cb bg (sz + i)) [(0, .ref (b 0)), (1, .long x), (3, .int (nI g)), (4, .int (nI i))] 3 [] := by
    intro zc
    induction zc with
    | zero => intro i bg hm; exact absurd hm (Nat.not_lt_zero _)
    | succ zc ih3 =>
      intro i bg hm e1 e2 e3
      refine x_iload C dB_appendGroups_3 3 rfl ?_
      refine x_iload_n C dB_appendGroups_5 rfl 2 rfl ?_
      refine x_icmp_geN (tgt := 51) C (by omega) (by omega) dB_appendGroups_6 (by decide) (fun h6 => ?_) (fun h6 => ?_)
      ·
        obtain rfl : i = g := by omega
        exact x_vret C T rfl dB_appendGroups_51 (⟨bg, rfl, rfl, e2, e3⟩)
      ·
        refine x_lload_n C dB_appendGroups_9 rfl 1 rfl ?_
        refine x_bipush (v := nI 7) C dB_appendGroups_10 (by decide) ?_
        refine x_iload C dB_appendGroups_12 3 rfl ?_
        refine x_imulN C dB_appendGroups_14 ?_
        refine x_lshr (v := x >>> ((nI (7 * i)).toInt64 &&& 63)) C dB_appendGroups_15 rfl ?_
        refine x_l2i (v := Int64.toInt32 (x >>> ((nI (7 * i)).toInt64 &&& 63))) C dB_appendGroups_16 rfl ?_
        refine x_bipush (v := nI 127) C dB_appendGroups_17 (by decide) ?_
        refine x_iand C dB_appendGroups_19 ?_
        refine x_top (tc_g7_ok x (by omega)) ?_
        refine x_istore C [(5, .int (nI (tc_g7 x i))), (0, .ref (b 0)), (1, .long x), (3, .int (nI g)), (4, .int (nI i))] dB_appendGroups_20 (by decide) rfl ?_
        refine x_aload_n C dB_appendGroups_22 rfl 1 rfl ?_
        refine x_iload C dB_appendGroups_23 4 rfl ?_
        refine x_iload_n C dB_appendGroups_25 rfl 3 rfl ?_
        refine x_iconst (v := nI 1) C dB_appendGroups_26 (by decide) ?_
        refine x_isubN C (by omega) dB_appendGroups_27 ?_
        refine x_icmp_geN (tgt := 40) C (by omega) (by omega) dB_appendGroups_28 (by decide) (fun h28 => ?_) (fun h28 => ?_)
        ·
          refine x_iload C dB_appendGroups_40 0 rfl ?_
          refine x_callV C (c_B_append D b cb bg (sz + i) (tc_g7 x i) (by omega)) kbB_19 kcB_19 [0, 1] [] [0] ([]) rfl rfl (by decide) (by decide) (by decide) rfl 0 rfl rfl ⟨Nat.le_of_ble_eq_true rfl, Nat.le_of_ble_eq_true rfl⟩ ⟨Nat.le_of_ble_eq_true rfl, Nat.le_of_ble_eq_true rfl⟩ [] rfl rfl (Nat.le_of_ble_eq_true rfl) dB_appendGroups_42 (fun rv ru hw => ?_)
          obtain ⟨rfl, rfl⟩ := hw
          show xk_Go K D 6 0 0 (tc_wB b cb (va_up bg (sz + i) (tc_g7 x i)) ((sz + i) + 1)) [(5, .int (nI (tc_g7 x i))), (0, .ref (b 0)), (1, .long x), (3, .int (nI g)), (4, .int (nI i))] 45 []
          refine x_iinc (q := 4) C (nI (i + 1)) [(4, .int (nI (i + 1))), (5, .int (nI (tc_g7 x i))), (0, .ref (b 0)), (1, .long x), (3, .int (nI g))] dB_appendGroups_45 rfl (nI_add i 1) (by decide) rfl ?_
          refine x_goto C 3 dB_appendGroups_48 (by decide) ?_
          exact x_sub [2, 3, 4, 0] rfl (ih3 (i + 1) (va_up bg (sz + i) (tc_g7 x i)) (by omega) h6 (fun j hj => (va_up_ne _ _ (by omega)).trans (e2 j hj)) (tc_app_grb e3 (by rw [tc_grb_hi (by omega)])))
        ·
          refine x_iload C dB_appendGroups_31 0 rfl ?_
          refine x_sipush (v := nI 128) C dB_appendGroups_33 (by decide) ?_
          refine x_ior C dB_appendGroups_36 ?_
          refine x_top (tc_or128 (tc_g7_lt x i)) ?_
          refine x_goto C 42 dB_appendGroups_37 (by decide) ?_
          refine x_callV C (c_B_append D b cb bg (sz + i) (tc_g7 x i + 128) (by omega)) kbB_19 kcB_19 [0, 1] [] [0] ([]) rfl rfl (by decide) (by decide) (by decide) rfl 0 rfl rfl ⟨Nat.le_of_ble_eq_true rfl, Nat.le_of_ble_eq_true rfl⟩ ⟨Nat.le_of_ble_eq_true rfl, Nat.le_of_ble_eq_true rfl⟩ [] rfl rfl (Nat.le_of_ble_eq_true rfl) dB_appendGroups_42 (fun rv ru hw => ?_)
          obtain ⟨rfl, rfl⟩ := hw
          show xk_Go K D 6 0 0 (tc_wB b cb (va_up bg (sz + i) (tc_g7 x i + 128)) ((sz + i) + 1)) [(5, .int (nI (tc_g7 x i))), (0, .ref (b 0)), (1, .long x), (3, .int (nI g)), (4, .int (nI i))] 45 []
          refine x_iinc (q := 4) C (nI (i + 1)) [(4, .int (nI (i + 1))), (5, .int (nI (tc_g7 x i))), (0, .ref (b 0)), (1, .long x), (3, .int (nI g))] dB_appendGroups_45 rfl (nI_add i 1) (by decide) rfl ?_
          refine x_goto C 3 dB_appendGroups_48 (by decide) ?_
          exact x_sub [2, 3, 4, 0] rfl (ih3 (i + 1) (va_up bg (sz + i) (tc_g7 x i + 128)) (by omega) h6 (fun j hj => (va_up_ne _ _ (by omega)).trans (e2 j hj)) (tc_app_grb e3 (by rw [tc_grb_lo (by omega)])))
  exact x_sub [1, 2, 3, 0] rfl (lp3 _ 0 bf (Nat.lt_succ_self _) (Nat.zero_le _) (fun _ _ => rfl) (fun j hj => absurd hj (Nat.not_lt_zero _)))
set_option maxHeartbeats 4000000 in
set_option maxRecDepth 100000 in
/-- copyFrom -/
theorem c_B_copyFrom (D : va_G) (b : Nat → Nat) (cb : Nat → ClassId) (o : Nat → Nat) (co : Nat → ClassId) (bf : Nat → Nat) (sz : Nat) (ob : Nat → Nat) (oz : Nat) (y1 : oz ≤ 4096) : xk_Ct yB_copyFrom cB_copyFrom 2 none { frames := 1, cells := 0, slots := 0, locals := 100 } D (tc_tB cb ++ tc_tB co) [.ref (b 0), .ref (o 0)] (tc_wB b cb bf sz ++ tc_wB o co ob oz) (fun rv ru => (rv = none ∧ ru = tc_wB b cb (va_cpy ob bf 0 0 oz) oz ++ tc_wB o co ob oz)) := by
  refine xk_enter (by decide) (Nat.le_of_ble_eq_true rfl) (fun K C T hin => ?_)
  show xk_Go K D 2 0 0 (tc_wB b cb bf sz ++ tc_wB o co ob oz) [(0, .ref (b 0)), (1, .ref (o 0))] 0 []
  refine x_aload_n C dB_copyFrom_0 rfl 1 rfl ?_
  refine x_get C fgB_9 2 rfl rfl dB_copyFrom_1 ?_
  refine x_iconst (v := nI 0) C dB_copyFrom_4 (by decide) ?_
  refine x_aload_n C dB_copyFrom_5 rfl 0 rfl ?_
  refine x_get C fgB_9 0 rfl rfl dB_copyFrom_6 ?_
  refine x_iconst (v := nI 0) C dB_copyFrom_9 (by decide) ?_
  refine x_aload_n C dB_copyFrom_10 rfl 1 rfl ?_
  refine x_get C fgB_15 2 rfl rfl dB_copyFrom_11 ?_
  refine x_copyB C kyB_23 3 1 1 0 (tc_wB b cb (va_cpy ob bf 0 0 oz) sz ++ tc_wB o co ob oz) rfl rfl rfl rfl rfl (by omega) (by omega) (by decide) (by decide) (Nat.le_of_ble_eq_true rfl) (Nat.le_of_ble_eq_true rfl) dB_copyFrom_14 ?_
  refine x_aload_n C dB_copyFrom_17 rfl 0 rfl ?_
  refine x_aload_n C dB_copyFrom_18 rfl 1 rfl ?_
  refine x_get C fgB_15 2 rfl rfl dB_copyFrom_19 ?_
  refine x_put C fpB_15 0 (tc_wB b cb (va_cpy ob bf 0 0 oz) oz ++ tc_wB o co ob oz) rfl rfl rfl rfl (Nat.le_of_ble_eq_true rfl) dB_copyFrom_22 ?_
  exact x_vret C T rfl dB_copyFrom_25 (⟨rfl, rfl⟩)
