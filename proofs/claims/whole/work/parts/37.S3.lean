set_option maxHeartbeats 4000000 in
set_option maxRecDepth 100000 in
/-- removeLast -/
theorem c_S_removeLast (D : va_G) (a : Nat → Nat) (ca : Nat → ClassId) (kn : Nat → Nat) (nu : Nat → Int64) (wo : Nat → Int64) (si : Nat → Nat) (de : Nat → Nat) (la : Nat → Nat) (le : Nat → Nat) (ro : Nat → Nat) (tm : Nat) (nd : Nat) (Ts : List (List tc_Nd)) (y1 : tc_RS Ts (kn, nu, wo, si, de, la, le) ro tm nd) : xk_Ct yS_removeLast cS_removeLast 2 (some .boolean) { frames := 3, cells := 0, slots := 0, locals := 61 } D (tc_tS ca) [.ref (a 0)] (tc_wS a ca kn nu wo si de la le ro tm nd) (fun rv ru => (rv = some (.int (nI 0)) ∧ ru = tc_wS a ca kn nu wo si de la le ro tm nd ∧ (Ts = [])) ∨ (∃ (t : List tc_Nd), ∃ (R : List (List tc_Nd)), rv = some (.int (nI 1)) ∧ ru = tc_wS a ca kn nu wo si de la le ro (tm - 1) (ro (tm - 1)) ∧ (Ts = t :: R) ∧ (tc_RS R (kn, nu, wo, si, de, la, le) ro (tm - 1) (ro (tm - 1))))) := by
  refine xk_enter (by decide) (Nat.le_of_ble_eq_true rfl) (fun K C T hin => ?_)
  show xk_Go K D 2 0 0 (tc_wS a ca kn nu wo si de la le ro tm nd) [(0, .ref (a 0))] 0 []
  refine x_aload_n C dS_removeLast_0 rfl 0 rfl ?_
  refine x_callV C (c_S_lastRoot D a ca kn nu wo si de la le ro tm nd ((tc_RS_tm y1).1) (tc_RS_rt y1)) kbS_52 kcS_52 [0, 1, 2, 3, 4, 5, 6, 7, 8] [] [0, 1, 2, 3, 4, 5, 6, 7] ([]) rfl rfl (by decide) (by decide) (by decide) rfl 0 rfl rfl ⟨Nat.le_of_ble_eq_true rfl, Nat.le_of_ble_eq_true rfl⟩ ⟨Nat.le_of_ble_eq_true rfl, Nat.le_of_ble_eq_true rfl⟩ [] rfl rfl (Nat.le_of_ble_eq_true rfl) dS_removeLast_1 (fun rv ru hw => ?_)
  rcases hw with ⟨rfl, rfl, g1⟩ | ⟨rfl, rfl, g1⟩
  ·
    show xk_Go K D 2 0 0 (tc_wS a ca kn nu wo si de la le ro tm nd) [(0, .ref (a 0))] 4 [.int (xk_oI none)]
    refine x_istore_n C [(1, .int (xk_oI none)), (0, .ref (a 0))] dS_removeLast_4 rfl (by decide) rfl ?_
    refine x_iload_n C dS_removeLast_5 rfl 0 rfl ?_
    refine x_if_ge (tgt := 11) C dS_removeLast_6 (by decide) (fun h => absurd h (by decide)) (fun _ => ?_)
    refine x_iconst (v := nI 0) C dS_removeLast_9 (by decide) ?_
    exact x_iret C T .boolean rfl rfl dS_removeLast_10 (Or.inl (⟨rfl, rfl, (tc_RS_nil y1 g1)⟩))
  ·
    show xk_Go K D 2 0 0 (tc_wS a ca kn nu wo si de la le ro tm nd) [(0, .ref (a 0))] 4 [.int (nI (ro (tm - 1)))]
    obtain ⟨t, R, rfl⟩ := tc_RS_cons y1 g1
    obtain ⟨z1, z2, z3, z4, z5, z6, z7, z8, z9, z10, z11, z12⟩ := tc_top y1
    have zs : si (ro (tm - 1)) = t.length := by rw [z2]; exact z9
    refine x_istore_n C [(1, .int (nI (ro (tm - 1)))), (0, .ref (a 0))] dS_removeLast_4 rfl (by decide) rfl ?_
    refine x_iload_n C dS_removeLast_5 rfl 0 rfl ?_
    refine x_if_geN (tgt := 11) C (by omega) dS_removeLast_6 (by decide) ?_
    refine x_aload_n C dS_removeLast_11 rfl 1 rfl ?_
    refine x_iload_n C dS_removeLast_12 rfl 0 rfl ?_
    refine x_put C fpS_41 0 (tc_wS a ca kn nu wo si de la le ro tm (ro (tm - 1))) rfl rfl rfl rfl (Nat.le_of_ble_eq_true rfl) dS_removeLast_13 ?_
    refine x_aload_n C dS_removeLast_16 rfl 1 rfl ?_
    refine x_dup C dS_removeLast_17 rfl ?_
    refine x_get C fgS_37 0 rfl rfl dS_removeLast_18 ?_
    refine x_iconst (v := nI 1) C dS_removeLast_21 (by decide) ?_
    refine x_isubN C (by omega) dS_removeLast_22 ?_
    refine x_put C fpS_37 0 (tc_wS a ca kn nu wo si de la le ro (tm - 1) (ro (tm - 1))) rfl rfl rfl rfl (Nat.le_of_ble_eq_true rfl) dS_removeLast_23 ?_
    refine x_iconst (v := nI 1) C dS_removeLast_26 (by decide) ?_
    exact x_iret C T .boolean rfl rfl dS_removeLast_27 (Or.inr (⟨_, _, rfl, rfl, rfl, (tc_RS_tail y1)⟩))
set_option maxHeartbeats 4000000 in
set_option maxRecDepth 100000 in
/-- repeatLast -/
theorem c_S_repeatLast (D : va_G) (a : Nat → Nat) (ca : Nat → ClassId) (kn : Nat → Nat) (nu : Nat → Int64) (wo : Nat → Int64) (si : Nat → Nat) (de : Nat → Nat) (la : Nat → Nat) (le : Nat → Nat) (ro : Nat → Nat) (tm : Nat) (nd : Nat) (Ts : List (List tc_Nd)) (y1 : tc_RS Ts (kn, nu, wo, si, de, la, le) ro tm nd) : xk_Ct yS_repeatLast cS_repeatLast 2 (some .boolean) { frames := 3, cells := 0, slots := 0, locals := 123 } D (tc_tS ca) [.ref (a 0)] (tc_wS a ca kn nu wo si de la le ro tm nd) (fun rv ru => (rv = some (.int (nI 0)) ∧ ru = tc_wS a ca kn nu wo si de la le ro tm nd ∧ (tc_dup Ts = none)) ∨ (∃ (kg : Nat → Nat), ∃ (ug : Nat → Int64), ∃ (wg : Nat → Int64), ∃ (sg : Nat → Nat), ∃ (dg : Nat → Nat), ∃ (lg : Nat → Nat), ∃ (eg : Nat → Nat), ∃ (rg : Nat → Nat), ∃ (tg : Nat), ∃ (ng : Nat), ∃ (Tn : List (List tc_Nd)), rv = some (.int (nI 1)) ∧ ru = tc_wS a ca kg ug wg sg dg lg eg rg tg ng ∧ (tc_dup Ts = some Tn) ∧ (tc_RS Tn (kg, ug, wg, sg, dg, lg, eg) rg tg ng))) := by
  refine xk_enter (by decide) (Nat.le_of_ble_eq_true rfl) (fun K C T hin => ?_)
  show xk_Go K D 2 0 0 (tc_wS a ca kn nu wo si de la le ro tm nd) [(0, .ref (a 0))] 0 []
  refine x_aload_n C dS_repeatLast_0 rfl 0 rfl ?_
  refine x_callV C (c_S_lastRoot D a ca kn nu wo si de la le ro tm nd ((tc_RS_tm y1).1) (tc_RS_rt y1)) kbS_52 kcS_52 [0, 1, 2, 3, 4, 5, 6, 7, 8] [] [0, 1, 2, 3, 4, 5, 6, 7] ([]) rfl rfl (by decide) (by decide) (by decide) rfl 0 rfl rfl ⟨Nat.le_of_ble_eq_true rfl, Nat.le_of_ble_eq_true rfl⟩ ⟨Nat.le_of_ble_eq_true rfl, Nat.le_of_ble_eq_true rfl⟩ [] rfl rfl (Nat.le_of_ble_eq_true rfl) dS_repeatLast_1 (fun rv ru hw => ?_)
  rcases hw with ⟨rfl, rfl, g1⟩ | ⟨rfl, rfl, g1⟩
  ·
    show xk_Go K D 2 0 0 (tc_wS a ca kn nu wo si de la le ro tm nd) [(0, .ref (a 0))] 4 [.int (xk_oI none)]
    refine x_istore_n C [(1, .int (xk_oI none)), (0, .ref (a 0))] dS_repeatLast_4 rfl (by decide) rfl ?_
    refine x_iload_n C dS_repeatLast_5 rfl 0 rfl ?_
    refine x_if_lt (tgt := 26) C dS_repeatLast_6 (by decide) (fun _ => ?_) (fun h => absurd (by decide) h)
    refine x_iconst (v := nI 0) C dS_repeatLast_26 (by decide) ?_
    exact x_iret C T .boolean rfl rfl dS_repeatLast_27 (Or.inl (⟨rfl, rfl, (by rw [tc_RS_nil y1 g1]; rfl)⟩))
  ·
    show xk_Go K D 2 0 0 (tc_wS a ca kn nu wo si de la le ro tm nd) [(0, .ref (a 0))] 4 [.int (nI (ro (tm - 1)))]
    obtain ⟨t, R, rfl⟩ := tc_RS_cons y1 g1
    obtain ⟨z1, z2, z3, z4, z5, z6, z7, z8, z9, z10, z11, z12⟩ := tc_top y1
    have zs : si (ro (tm - 1)) = t.length := by rw [z2]; exact z9
    refine x_istore_n C [(1, .int (nI (ro (tm - 1)))), (0, .ref (a 0))] dS_repeatLast_4 rfl (by decide) rfl ?_
    refine x_iload_n C dS_repeatLast_5 rfl 0 rfl ?_
    refine x_if_ltN (tgt := 26) C (by omega) dS_repeatLast_6 (by decide) ?_
    refine x_aload_n C dS_repeatLast_9 rfl 1 rfl ?_
    refine x_get C fgS_22 0 rfl rfl dS_repeatLast_10 ?_
    refine x_iload_n C dS_repeatLast_13 rfl 0 rfl ?_
    refine x_ild C 4 3 rfl rfl (by omega) (by decide) dS_repeatLast_14 ?_
    show xk_Go K D 2 0 0 (tc_wS a ca kn nu wo si de la le ro tm nd) [(1, .int (nI (ro (tm - 1)))), (0, .ref (a 0))] 15 [.int (nI (si (ro (tm - 1))))]
    refine x_sipush (v := nI 200) C dS_repeatLast_15 (by decide) ?_
    refine x_aload_n C dS_repeatLast_18 rfl 1 rfl ?_
    refine x_get C fgS_41 0 rfl rfl dS_repeatLast_19 ?_
    refine x_isubN C (by omega) dS_repeatLast_22 ?_
    refine x_icmp_leN (tgt := 28) C (by omega) (by omega) dS_repeatLast_23 (by decide) (fun h23 => ?_) (fun h23 => ?_)
    ·
      refine x_aload_n C dS_repeatLast_28 rfl 1 rfl ?_
      refine x_iload_n C dS_repeatLast_29 rfl 0 rfl ?_
      refine x_aload_n C dS_repeatLast_30 rfl 1 rfl ?_
      refine x_get C fgS_41 0 rfl rfl dS_repeatLast_31 ?_
      refine x_aload_n C dS_repeatLast_34 rfl 1 rfl ?_
      refine x_get C fgS_22 0 rfl rfl dS_repeatLast_35 ?_
      refine x_iload_n C dS_repeatLast_38 rfl 0 rfl ?_
      refine x_ild C 4 3 rfl rfl (by omega) (by decide) dS_repeatLast_39 ?_
      show xk_Go K D 2 0 0 (tc_wS a ca kn nu wo si de la le ro tm nd) [(1, .int (nI (ro (tm - 1)))), (0, .ref (a 0))] 40 [.int (nI (si (ro (tm - 1)))), .int (nI nd), .int (nI (ro (tm - 1))), .ref (a 0)]
      refine x_callV C (c_S_copyNodes D a ca kn nu wo si de la le ro tm nd (ro (tm - 1)) nd (si (ro (tm - 1))) (by omega) (by omega)) kbS_72 kcS_72 [0, 1, 2, 3, 4, 5, 6, 7, 8] [] [0, 1, 2, 3, 4, 5, 6, 7] ([]) rfl rfl (by decide) (by decide) (by decide) rfl 0 rfl rfl ⟨Nat.le_of_ble_eq_true rfl, Nat.le_of_ble_eq_true rfl⟩ ⟨Nat.le_of_ble_eq_true rfl, Nat.le_of_ble_eq_true rfl⟩ [] rfl rfl (Nat.le_of_ble_eq_true rfl) dS_repeatLast_40 (fun rv ru hw => ?_)
      obtain ⟨rfl, rfl⟩ := hw
      show xk_Go K D 2 0 0 (tc_wS a ca (va_cpy kn kn (ro (tm - 1)) nd (si (ro (tm - 1)))) (va_cpy nu nu (ro (tm - 1)) nd (si (ro (tm - 1)))) (va_cpy wo wo ((ro (tm - 1)) * 8) (nd * 8) ((si (ro (tm - 1))) * 8)) (va_cpy si si (ro (tm - 1)) nd (si (ro (tm - 1)))) (va_cpy de de (ro (tm - 1)) nd (si (ro (tm - 1)))) (va_cpy la la (ro (tm - 1)) nd (si (ro (tm - 1)))) (va_cpy le le (ro (tm - 1)) nd (si (ro (tm - 1)))) ro tm nd) [(1, .int (nI (ro (tm - 1)))), (0, .ref (a 0))] 43 []
      refine x_aload_n C dS_repeatLast_43 rfl 1 rfl ?_
      refine x_aload_n C dS_repeatLast_44 rfl 1 rfl ?_
      refine x_get C fgS_41 0 rfl rfl dS_repeatLast_45 ?_
      refine x_callV C (c_S_pushTerm D a ca (va_cpy kn kn (ro (tm - 1)) nd (si (ro (tm - 1)))) (va_cpy nu nu (ro (tm - 1)) nd (si (ro (tm - 1)))) (va_cpy wo wo ((ro (tm - 1)) * 8) (nd * 8) ((si (ro (tm - 1))) * 8)) (va_cpy si si (ro (tm - 1)) nd (si (ro (tm - 1)))) (va_cpy de de (ro (tm - 1)) nd (si (ro (tm - 1)))) (va_cpy la la (ro (tm - 1)) nd (si (ro (tm - 1)))) (va_cpy le le (ro (tm - 1)) nd (si (ro (tm - 1)))) ro tm nd nd (by omega)) kbS_84 kcS_84 [0, 1, 2, 3, 4, 5, 6, 7, 8] [] [0, 1, 2, 3, 4, 5, 6, 7] ([]) rfl rfl (by decide) (by decide) (by decide) rfl 0 rfl rfl ⟨Nat.le_of_ble_eq_true rfl, Nat.le_of_ble_eq_true rfl⟩ ⟨Nat.le_of_ble_eq_true rfl, Nat.le_of_ble_eq_true rfl⟩ [] rfl rfl (Nat.le_of_ble_eq_true rfl) dS_repeatLast_48 (fun rv ru hw => ?_)
      obtain ⟨rfl, rfl⟩ := hw
      show xk_Go K D 2 0 0 (tc_wS a ca (va_cpy kn kn (ro (tm - 1)) nd (si (ro (tm - 1)))) (va_cpy nu nu (ro (tm - 1)) nd (si (ro (tm - 1)))) (va_cpy wo wo ((ro (tm - 1)) * 8) (nd * 8) ((si (ro (tm - 1))) * 8)) (va_cpy si si (ro (tm - 1)) nd (si (ro (tm - 1)))) (va_cpy de de (ro (tm - 1)) nd (si (ro (tm - 1)))) (va_cpy la la (ro (tm - 1)) nd (si (ro (tm - 1)))) (va_cpy le le (ro (tm - 1)) nd (si (ro (tm - 1)))) (va_up ro tm nd) (tm + 1) nd) [(1, .int (nI (ro (tm - 1)))), (0, .ref (a 0))] 51 []
      refine x_aload_n C dS_repeatLast_51 rfl 1 rfl ?_
      refine x_dup C dS_repeatLast_52 rfl ?_
      refine x_get C fgS_41 0 rfl rfl dS_repeatLast_53 ?_
      refine x_aload_n C dS_repeatLast_56 rfl 1 rfl ?_
      refine x_get C fgS_22 0 rfl rfl dS_repeatLast_57 ?_
      refine x_iload_n C dS_repeatLast_60 rfl 0 rfl ?_
      refine x_ild C 4 3 rfl rfl (by omega) (by decide) dS_repeatLast_61 ?_
      show xk_Go K D 2 0 0 (tc_wS a ca (va_cpy kn kn (ro (tm - 1)) nd (si (ro (tm - 1)))) (va_cpy nu nu (ro (tm - 1)) nd (si (ro (tm - 1)))) (va_cpy wo wo ((ro (tm - 1)) * 8) (nd * 8) ((si (ro (tm - 1))) * 8)) (va_cpy si si (ro (tm - 1)) nd (si (ro (tm - 1)))) (va_cpy de de (ro (tm - 1)) nd (si (ro (tm - 1)))) (va_cpy la la (ro (tm - 1)) nd (si (ro (tm - 1)))) (va_cpy le le (ro (tm - 1)) nd (si (ro (tm - 1)))) (va_up ro tm nd) (tm + 1) nd) [(1, .int (nI (ro (tm - 1)))), (0, .ref (a 0))] 62 [.int (nI ((va_cpy si si (ro (tm - 1)) nd (si (ro (tm - 1)))) (ro (tm - 1)))), .int (nI nd), .ref (a 0)]
      refine x_iaddN C dS_repeatLast_62 ?_
      refine x_put C fpS_41 0 (tc_wS a ca (va_cpy kn kn (ro (tm - 1)) nd (si (ro (tm - 1)))) (va_cpy nu nu (ro (tm - 1)) nd (si (ro (tm - 1)))) (va_cpy wo wo ((ro (tm - 1)) * 8) (nd * 8) ((si (ro (tm - 1))) * 8)) (va_cpy si si (ro (tm - 1)) nd (si (ro (tm - 1)))) (va_cpy de de (ro (tm - 1)) nd (si (ro (tm - 1)))) (va_cpy la la (ro (tm - 1)) nd (si (ro (tm - 1)))) (va_cpy le le (ro (tm - 1)) nd (si (ro (tm - 1)))) (va_up ro tm nd) (tm + 1) (nd + ((va_cpy si si (ro (tm - 1)) nd (si (ro (tm - 1)))) (ro (tm - 1))))) rfl rfl rfl rfl (Nat.le_of_ble_eq_true rfl) dS_repeatLast_63 ?_
      refine x_iconst (v := nI 1) C dS_repeatLast_66 (by decide) ?_
      have zv : va_cpy si si (ro (tm - 1)) nd (si (ro (tm - 1))) (ro (tm - 1)) = si (ro (tm - 1)) := pk_cpy_out (by omega)
      exact x_iret C T .boolean rfl rfl dS_repeatLast_67 (Or.inr (⟨_, _, _, _, _, _, _, _, _, _, (t :: t :: R), rfl, rfl, (by show (if _ then _ else _) = _; rw [if_pos]; show (tc_cat (t :: R)).length + t.length ≤ 200; rw [← y1.2.2.1]; omega), (by rw [zv]; exact tc_dup_RS y1 z2 zs (by omega))⟩))
    ·
      refine x_iconst (v := nI 0) C dS_repeatLast_26 (by decide) ?_
      exact x_iret C T .boolean rfl rfl dS_repeatLast_27 (Or.inl (⟨rfl, rfl, (by show (if _ then _ else _) = none; rw [if_neg]; show ¬ ((tc_cat (t :: R)).length + t.length ≤ 200); rw [← y1.2.2.1]; omega)⟩))
