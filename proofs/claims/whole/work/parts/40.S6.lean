set_option maxHeartbeats 4000000 in
set_option maxRecDepth 100000 in
/-- openLast -/
theorem c_S_openLast (D : va_G) (a : Nat → Nat) (ca : Nat → ClassId) (kn : Nat → Nat) (nu : Nat → Int64) (wo : Nat → Int64) (si : Nat → Nat) (de : Nat → Nat) (la : Nat → Nat) (le : Nat → Nat) (ro : Nat → Nat) (tm : Nat) (nd : Nat) (Ts : List (List tc_Nd)) (y1 : tc_RS Ts (kn, nu, wo, si, de, la, le) ro tm nd) : xk_Ct yS_openLast cS_openLast 5 (some .int) { frames := 3, cells := 0, slots := 0, locals := 123 } D (tc_tS ca) [.ref (a 0)] (tc_wS a ca kn nu wo si de la le ro tm nd) (fun rv ru => (rv = some (.int (xk_oI none)) ∧ ru = tc_wS a ca kn nu wo si de la le ro tm nd ∧ (tc_opn Ts = none)) ∨ (∃ (n : Nat), ∃ (kg : Nat → Nat), ∃ (ug : Nat → Int64), ∃ (wg : Nat → Int64), ∃ (sg : Nat → Nat), ∃ (dg : Nat → Nat), ∃ (lg : Nat → Nat), ∃ (eg : Nat → Nat), ∃ (rg : Nat → Nat), ∃ (tg : Nat), ∃ (ng : Nat), ∃ (Tn : List (List tc_Nd)), rv = some (.int (nI n)) ∧ ru = tc_wS a ca kg ug wg sg dg lg eg rg tg ng ∧ (tc_opn Ts = some (n, Tn)) ∧ (tc_RS Tn (kg, ug, wg, sg, dg, lg, eg) rg tg ng))) := by
  refine xk_enter (by decide) (Nat.le_of_ble_eq_true rfl) (fun K C T hin => ?_)
  show xk_Go K D 5 0 0 (tc_wS a ca kn nu wo si de la le ro tm nd) [(0, .ref (a 0))] 0 []
  refine x_aload_n C dS_openLast_0 rfl 0 rfl ?_
  refine x_callV C (c_S_lastRoot D a ca kn nu wo si de la le ro tm nd ((tc_RS_tm y1).1) (tc_RS_rt y1)) kbS_52 kcS_52 [0, 1, 2, 3, 4, 5, 6, 7, 8] [] [0, 1, 2, 3, 4, 5, 6, 7] ([]) rfl rfl (by decide) (by decide) (by decide) rfl 0 rfl rfl ⟨Nat.le_of_ble_eq_true rfl, Nat.le_of_ble_eq_true rfl⟩ ⟨Nat.le_of_ble_eq_true rfl, Nat.le_of_ble_eq_true rfl⟩ [] rfl rfl (Nat.le_of_ble_eq_true rfl) dS_openLast_1 (fun rv ru hw => ?_)
  rcases hw with ⟨rfl, rfl, g1⟩ | ⟨rfl, rfl, g1⟩
  ·
    show xk_Go K D 5 0 0 (tc_wS a ca kn nu wo si de la le ro tm nd) [(0, .ref (a 0))] 4 [.int (xk_oI none)]
    refine x_istore_n C [(1, .int (xk_oI none)), (0, .ref (a 0))] dS_openLast_4 rfl (by decide) rfl ?_
    refine x_iload_n C dS_openLast_5 rfl 0 rfl ?_
    refine x_if_lt (tgt := 21) C dS_openLast_6 (by decide) (fun _ => ?_) (fun h => absurd (by decide) h)
    refine x_iconst (v := xk_oI none) C dS_openLast_21 (by decide) ?_
    exact x_iret C T .int rfl rfl dS_openLast_22 (Or.inl (⟨rfl, rfl, (by rw [tc_RS_nil y1 g1]; rfl)⟩))
  ·
    show xk_Go K D 5 0 0 (tc_wS a ca kn nu wo si de la le ro tm nd) [(0, .ref (a 0))] 4 [.int (nI (ro (tm - 1)))]
    obtain ⟨t, R, rfl⟩ := tc_RS_cons y1 g1
    obtain ⟨z1, z2, z3, z4, z5, z6, z7, z8, z9, z10, z11, z12⟩ := tc_top y1
    have zs : si (ro (tm - 1)) = t.length := by rw [z2]; exact z9
    obtain ⟨x, t', rfl⟩ := tc_hd z5
    obtain ⟨k1, k2, k3, k4⟩ := tc_top_hd y1
    have k11 := k4.1
    have zt := y1.1 _ List.mem_cons_self
    have zlc : (x :: t').length = t'.length + 1 := rfl
    refine x_istore_n C [(1, .int (nI (ro (tm - 1)))), (0, .ref (a 0))] dS_openLast_4 rfl (by decide) rfl ?_
    refine x_iload_n C dS_openLast_5 rfl 0 rfl ?_
    refine x_if_ltN (tgt := 21) C (by omega) dS_openLast_6 (by decide) ?_
    refine x_aload_n C dS_openLast_9 rfl 1 rfl ?_
    refine x_get C fgS_9 0 rfl rfl dS_openLast_10 ?_
    refine x_iload_n C dS_openLast_13 rfl 0 rfl ?_
    refine x_ild C 1 0 rfl rfl (by omega) (by decide) dS_openLast_14 ?_
    show xk_Go K D 5 0 0 (tc_wS a ca kn nu wo si de la le ro tm nd) [(1, .int (nI (ro (tm - 1)))), (0, .ref (a 0))] 15 [.int (nI (kn (ro (tm - 1))))]
    refine x_callS C (c_F_partsOf D (kn (ro (tm - 1))) (by omega)) kbS_69 kcS_69 [] [0, 1, 2, 3, 4, 5, 6, 7, 8] [] (tc_wS a ca kn nu wo si de la le ro tm nd) rfl rfl (by decide) (by decide) (by decide) rfl ⟨Nat.le_of_ble_eq_true rfl, Nat.le_of_ble_eq_true rfl⟩ ⟨Nat.le_of_ble_eq_true rfl, Nat.le_of_ble_eq_true rfl⟩ [] rfl rfl (Nat.le_of_ble_eq_true rfl) dS_openLast_15 (fun rv ru hw => ?_)
    obtain ⟨rfl, rfl⟩ := hw
    show xk_Go K D 5 0 0 (tc_wS a ca kn nu wo si de la le ro tm nd) [(1, .int (nI (ro (tm - 1)))), (0, .ref (a 0))] 18 [.int (nI (tc_tk (kn (ro (tm - 1)))))]
    have ztk := tc_tk_le (kn (ro (tm - 1)))
    refine x_if_neN (tgt := 23) C (by omega) dS_openLast_18 (by decide) (fun h18 => ?_) (fun h18 => ?_)
    ·
      refine x_aload_n C dS_openLast_23 rfl 1 rfl ?_
      refine x_get C fgS_9 0 rfl rfl dS_openLast_24 ?_
      refine x_iload_n C dS_openLast_27 rfl 0 rfl ?_
      refine x_ild C 1 0 rfl rfl (by omega) (by decide) dS_openLast_28 ?_
      show xk_Go K D 5 0 0 (tc_wS a ca kn nu wo si de la le ro tm nd) [(1, .int (nI (ro (tm - 1)))), (0, .ref (a 0))] 29 [.int (nI (kn (ro (tm - 1))))]
      refine x_callS C (c_F_partsOf D (kn (ro (tm - 1))) (by omega)) kbS_69 kcS_69 [] [0, 1, 2, 3, 4, 5, 6, 7, 8] [] (tc_wS a ca kn nu wo si de la le ro tm nd) rfl rfl (by decide) (by decide) (by decide) rfl ⟨Nat.le_of_ble_eq_true rfl, Nat.le_of_ble_eq_true rfl⟩ ⟨Nat.le_of_ble_eq_true rfl, Nat.le_of_ble_eq_true rfl⟩ [] rfl rfl (Nat.le_of_ble_eq_true rfl) dS_openLast_29 (fun rv ru hw => ?_)
      obtain ⟨rfl, rfl⟩ := hw
      show xk_Go K D 5 0 0 (tc_wS a ca kn nu wo si de la le ro tm nd) [(1, .int (nI (ro (tm - 1)))), (0, .ref (a 0))] 32 [.int (nI (tc_tk (kn (ro (tm - 1)))))]
      rcases tc_tk3 (kn (ro (tm - 1))) with hk | hk | hk
      ·
        exact absurd hk h18
      ·
        rw [hk]
        have hk' : tc_tk x.1 = 1 := k1 ▸ hk
        have zP : tc_wf 1 t' := by have := tc_parts zt.1; rwa [hk'] at this
        have zp := tc_wf_pos zP
        refine x_istore_n C [(2, .int (nI 1)), (1, .int (nI (ro (tm - 1)))), (0, .ref (a 0))] dS_openLast_32 rfl (by decide) rfl ?_
        refine x_aload_n C dS_openLast_33 rfl 2 rfl ?_
        refine x_iload_n C dS_openLast_34 rfl 1 rfl ?_
        refine x_iconst (v := nI 1) C dS_openLast_35 (by decide) ?_
        refine x_iaddN C dS_openLast_36 ?_
        refine x_iload_n C dS_openLast_37 rfl 1 rfl ?_
        refine x_aload_n C dS_openLast_38 rfl 2 rfl ?_
        refine x_get C fgS_41 0 rfl rfl dS_openLast_39 ?_
        refine x_iload_n C dS_openLast_42 rfl 1 rfl ?_
        refine x_isubN C (by omega) dS_openLast_43 ?_
        refine x_iconst (v := nI 1) C dS_openLast_44 (by decide) ?_
        refine x_isubN C (by omega) dS_openLast_45 ?_
        refine x_callV C (c_S_copyNodes D a ca kn nu wo si de la le ro tm nd (ro (tm - 1) + 1) (ro (tm - 1)) (nd - (ro (tm - 1)) - 1) (by omega) (by omega)) kbS_72 kcS_72 [0, 1, 2, 3, 4, 5, 6, 7, 8] [] [0, 1, 2, 3, 4, 5, 6, 7] ([]) rfl rfl (by decide) (by decide) (by decide) rfl 0 rfl rfl ⟨Nat.le_of_ble_eq_true rfl, Nat.le_of_ble_eq_true rfl⟩ ⟨Nat.le_of_ble_eq_true rfl, Nat.le_of_ble_eq_true rfl⟩ [] rfl rfl (Nat.le_of_ble_eq_true rfl) dS_openLast_46 (fun rv ru hw => ?_)
        obtain ⟨rfl, rfl⟩ := hw
        show xk_Go K D 5 0 0 (tc_wS a ca (va_cpy kn kn (ro (tm - 1) + 1) (ro (tm - 1)) (nd - (ro (tm - 1)) - 1)) (va_cpy nu nu (ro (tm - 1) + 1) (ro (tm - 1)) (nd - (ro (tm - 1)) - 1)) (va_cpy wo wo ((ro (tm - 1) + 1) * 8) ((ro (tm - 1)) * 8) ((nd - (ro (tm - 1)) - 1) * 8)) (va_cpy si si (ro (tm - 1) + 1) (ro (tm - 1)) (nd - (ro (tm - 1)) - 1)) (va_cpy de de (ro (tm - 1) + 1) (ro (tm - 1)) (nd - (ro (tm - 1)) - 1)) (va_cpy la la (ro (tm - 1) + 1) (ro (tm - 1)) (nd - (ro (tm - 1)) - 1)) (va_cpy le le (ro (tm - 1) + 1) (ro (tm - 1)) (nd - (ro (tm - 1)) - 1)) ro tm nd) [(2, .int (nI 1)), (1, .int (nI (ro (tm - 1)))), (0, .ref (a 0))] 49 []
        refine x_aload_n C dS_openLast_49 rfl 2 rfl ?_
        refine x_dup C dS_openLast_50 rfl ?_
        refine x_get C fgS_41 0 rfl rfl dS_openLast_51 ?_
        refine x_iconst (v := nI 1) C dS_openLast_54 (by decide) ?_
        refine x_isubN C (by omega) dS_openLast_55 ?_
        refine x_put C fpS_41 0 (tc_wS a ca (va_cpy kn kn (ro (tm - 1) + 1) (ro (tm - 1)) (nd - (ro (tm - 1)) - 1)) (va_cpy nu nu (ro (tm - 1) + 1) (ro (tm - 1)) (nd - (ro (tm - 1)) - 1)) (va_cpy wo wo ((ro (tm - 1) + 1) * 8) ((ro (tm - 1)) * 8) ((nd - (ro (tm - 1)) - 1) * 8)) (va_cpy si si (ro (tm - 1) + 1) (ro (tm - 1)) (nd - (ro (tm - 1)) - 1)) (va_cpy de de (ro (tm - 1) + 1) (ro (tm - 1)) (nd - (ro (tm - 1)) - 1)) (va_cpy la la (ro (tm - 1) + 1) (ro (tm - 1)) (nd - (ro (tm - 1)) - 1)) (va_cpy le le (ro (tm - 1) + 1) (ro (tm - 1)) (nd - (ro (tm - 1)) - 1)) ro tm (nd - 1)) rfl rfl rfl rfl (Nat.le_of_ble_eq_true rfl) dS_openLast_56 ?_
        refine x_aload_n C dS_openLast_59 rfl 2 rfl ?_
        refine x_dup C dS_openLast_60 rfl ?_
        refine x_get C fgS_37 0 rfl rfl dS_openLast_61 ?_
        refine x_iconst (v := nI 1) C dS_openLast_64 (by decide) ?_
        refine x_isubN C (by omega) dS_openLast_65 ?_
        refine x_put C fpS_37 0 (tc_wS a ca (va_cpy kn kn (ro (tm - 1) + 1) (ro (tm - 1)) (nd - (ro (tm - 1)) - 1)) (va_cpy nu nu (ro (tm - 1) + 1) (ro (tm - 1)) (nd - (ro (tm - 1)) - 1)) (va_cpy wo wo ((ro (tm - 1) + 1) * 8) ((ro (tm - 1)) * 8) ((nd - (ro (tm - 1)) - 1) * 8)) (va_cpy si si (ro (tm - 1) + 1) (ro (tm - 1)) (nd - (ro (tm - 1)) - 1)) (va_cpy de de (ro (tm - 1) + 1) (ro (tm - 1)) (nd - (ro (tm - 1)) - 1)) (va_cpy la la (ro (tm - 1) + 1) (ro (tm - 1)) (nd - (ro (tm - 1)) - 1)) (va_cpy le le (ro (tm - 1) + 1) (ro (tm - 1)) (nd - (ro (tm - 1)) - 1)) ro (tm - 1) (nd - 1)) rfl rfl rfl rfl (Nat.le_of_ble_eq_true rfl) dS_openLast_66 ?_
        refine x_iload_n C dS_openLast_69 rfl 1 rfl ?_
        refine x_istore_n C [(3, .int (nI (ro (tm - 1)))), (2, .int (nI 1)), (1, .int (nI (ro (tm - 1)))), (0, .ref (a 0))] dS_openLast_70 rfl (by decide) rfl ?_
        refine x_iconst (v := nI 0) C dS_openLast_71 (by decide) ?_
        refine x_istore C [(4, .int (nI 0)), (3, .int (nI (ro (tm - 1)))), (2, .int (nI 1)), (1, .int (nI (ro (tm - 1)))), (0, .ref (a 0))] dS_openLast_72 (by decide) rfl ?_
        refine x_iload C dS_openLast_74 0 rfl ?_
        refine x_iload_n C dS_openLast_76 rfl 2 rfl ?_
        refine x_icmp_ge (tgt := 107) C dS_openLast_77 (by decide) (fun h => absurd h (by decide)) (fun _ => ?_)
        refine x_iload_n C dS_openLast_80 rfl 1 rfl ?_
        refine x_callS C (c_S_isPlace D (ro (tm - 1)) (by omega)) kbS_44 kcS_44 [] [0, 1, 2, 3, 4, 5, 6, 7, 8] [] (tc_wS a ca (va_cpy kn kn (ro (tm - 1) + 1) (ro (tm - 1)) (nd - (ro (tm - 1)) - 1)) (va_cpy nu nu (ro (tm - 1) + 1) (ro (tm - 1)) (nd - (ro (tm - 1)) - 1)) (va_cpy wo wo ((ro (tm - 1) + 1) * 8) ((ro (tm - 1)) * 8) ((nd - (ro (tm - 1)) - 1) * 8)) (va_cpy si si (ro (tm - 1) + 1) (ro (tm - 1)) (nd - (ro (tm - 1)) - 1)) (va_cpy de de (ro (tm - 1) + 1) (ro (tm - 1)) (nd - (ro (tm - 1)) - 1)) (va_cpy la la (ro (tm - 1) + 1) (ro (tm - 1)) (nd - (ro (tm - 1)) - 1)) (va_cpy le le (ro (tm - 1) + 1) (ro (tm - 1)) (nd - (ro (tm - 1)) - 1)) ro (tm - 1) (nd - 1)) rfl rfl (by decide) (by decide) (by decide) rfl ⟨Nat.le_of_ble_eq_true rfl, Nat.le_of_ble_eq_true rfl⟩ ⟨Nat.le_of_ble_eq_true rfl, Nat.le_of_ble_eq_true rfl⟩ [] rfl rfl (Nat.le_of_ble_eq_true rfl) dS_openLast_81 (fun rv ru hw => ?_)
        obtain ⟨rfl, rfl⟩ := hw
        show xk_Go K D 5 0 0 (tc_wS a ca (va_cpy kn kn (ro (tm - 1) + 1) (ro (tm - 1)) (nd - (ro (tm - 1)) - 1)) (va_cpy nu nu (ro (tm - 1) + 1) (ro (tm - 1)) (nd - (ro (tm - 1)) - 1)) (va_cpy wo wo ((ro (tm - 1) + 1) * 8) ((ro (tm - 1)) * 8) ((nd - (ro (tm - 1)) - 1) * 8)) (va_cpy si si (ro (tm - 1) + 1) (ro (tm - 1)) (nd - (ro (tm - 1)) - 1)) (va_cpy de de (ro (tm - 1) + 1) (ro (tm - 1)) (nd - (ro (tm - 1)) - 1)) (va_cpy la la (ro (tm - 1) + 1) (ro (tm - 1)) (nd - (ro (tm - 1)) - 1)) (va_cpy le le (ro (tm - 1) + 1) (ro (tm - 1)) (nd - (ro (tm - 1)) - 1)) ro (tm - 1) (nd - 1)) [(4, .int (nI 0)), (3, .int (nI (ro (tm - 1)))), (2, .int (nI 1)), (1, .int (nI (ro (tm - 1)))), (0, .ref (a 0))] 84 [.int (nI 1)]
        refine x_if_eq (tgt := 107) C dS_openLast_84 (by decide) (fun h => absurd h (by decide)) (fun _ => ?_)
        refine x_aload_n C dS_openLast_87 rfl 4 rfl ?_
        refine x_iload_n C dS_openLast_88 rfl 1 rfl ?_
        refine x_callV C (c_S_pushTerm D a ca (va_cpy kn kn (ro (tm - 1) + 1) (ro (tm - 1)) (nd - (ro (tm - 1)) - 1)) (va_cpy nu nu (ro (tm - 1) + 1) (ro (tm - 1)) (nd - (ro (tm - 1)) - 1)) (va_cpy wo wo ((ro (tm - 1) + 1) * 8) ((ro (tm - 1)) * 8) ((nd - (ro (tm - 1)) - 1) * 8)) (va_cpy si si (ro (tm - 1) + 1) (ro (tm - 1)) (nd - (ro (tm - 1)) - 1)) (va_cpy de de (ro (tm - 1) + 1) (ro (tm - 1)) (nd - (ro (tm - 1)) - 1)) (va_cpy la la (ro (tm - 1) + 1) (ro (tm - 1)) (nd - (ro (tm - 1)) - 1)) (va_cpy le le (ro (tm - 1) + 1) (ro (tm - 1)) (nd - (ro (tm - 1)) - 1)) ro (tm - 1) (nd - 1) (ro (tm - 1)) (by omega)) kbS_84 kcS_84 [0, 1, 2, 3, 4, 5, 6, 7, 8] [] [0, 1, 2, 3, 4, 5, 6, 7] ([]) rfl rfl (by decide) (by decide) (by decide) rfl 0 rfl rfl ⟨Nat.le_of_ble_eq_true rfl, Nat.le_of_ble_eq_true rfl⟩ ⟨Nat.le_of_ble_eq_true rfl, Nat.le_of_ble_eq_true rfl⟩ [] rfl rfl (Nat.le_of_ble_eq_true rfl) dS_openLast_89 (fun rv ru hw => ?_)
        obtain ⟨rfl, rfl⟩ := hw
        show xk_Go K D 5 0 0 (tc_wS a ca (va_cpy kn kn (ro (tm - 1) + 1) (ro (tm - 1)) (nd - (ro (tm - 1)) - 1)) (va_cpy nu nu (ro (tm - 1) + 1) (ro (tm - 1)) (nd - (ro (tm - 1)) - 1)) (va_cpy wo wo ((ro (tm - 1) + 1) * 8) ((ro (tm - 1)) * 8) ((nd - (ro (tm - 1)) - 1) * 8)) (va_cpy si si (ro (tm - 1) + 1) (ro (tm - 1)) (nd - (ro (tm - 1)) - 1)) (va_cpy de de (ro (tm - 1) + 1) (ro (tm - 1)) (nd - (ro (tm - 1)) - 1)) (va_cpy la la (ro (tm - 1) + 1) (ro (tm - 1)) (nd - (ro (tm - 1)) - 1)) (va_cpy le le (ro (tm - 1) + 1) (ro (tm - 1)) (nd - (ro (tm - 1)) - 1)) (va_up ro (tm - 1) (ro (tm - 1))) ((tm - 1) + 1) (nd - 1)) [(4, .int (nI 0)), (3, .int (nI (ro (tm - 1)))), (2, .int (nI 1)), (1, .int (nI (ro (tm - 1)))), (0, .ref (a 0))] 92 []
        refine x_iload_n C dS_openLast_92 rfl 1 rfl ?_
        refine x_aload_n C dS_openLast_93 rfl 4 rfl ?_
        refine x_get C fgS_22 0 rfl rfl dS_openLast_94 ?_
        refine x_iload_n C dS_openLast_97 rfl 1 rfl ?_
        refine x_ild C 4 3 rfl rfl (by omega) (by decide) dS_openLast_98 ?_
        show xk_Go K D 5 0 0 (tc_wS a ca (va_cpy kn kn (ro (tm - 1) + 1) (ro (tm - 1)) (nd - (ro (tm - 1)) - 1)) (va_cpy nu nu (ro (tm - 1) + 1) (ro (tm - 1)) (nd - (ro (tm - 1)) - 1)) (va_cpy wo wo ((ro (tm - 1) + 1) * 8) ((ro (tm - 1)) * 8) ((nd - (ro (tm - 1)) - 1) * 8)) (va_cpy si si (ro (tm - 1) + 1) (ro (tm - 1)) (nd - (ro (tm - 1)) - 1)) (va_cpy de de (ro (tm - 1) + 1) (ro (tm - 1)) (nd - (ro (tm - 1)) - 1)) (va_cpy la la (ro (tm - 1) + 1) (ro (tm - 1)) (nd - (ro (tm - 1)) - 1)) (va_cpy le le (ro (tm - 1) + 1) (ro (tm - 1)) (nd - (ro (tm - 1)) - 1)) (va_up ro (tm - 1) (ro (tm - 1))) ((tm - 1) + 1) (nd - 1)) [(4, .int (nI 0)), (3, .int (nI (ro (tm - 1)))), (2, .int (nI 1)), (1, .int (nI (ro (tm - 1)))), (0, .ref (a 0))] 99 [.int (nI ((va_cpy si si (ro (tm - 1) + 1) (ro (tm - 1)) (nd - (ro (tm - 1)) - 1)) (ro (tm - 1)))), .int (nI (ro (tm - 1)))]
        refine x_iaddN C dS_openLast_99 ?_
        refine x_istore_n C [(3, .int (nI (ro (tm - 1) + ((va_cpy si si (ro (tm - 1) + 1) (ro (tm - 1)) (nd - (ro (tm - 1)) - 1)) (ro (tm - 1)))))), (4, .int (nI 0)), (2, .int (nI 1)), (1, .int (nI (ro (tm - 1)))), (0, .ref (a 0))] dS_openLast_100 rfl (by decide) rfl ?_
        refine x_iinc (q := 1) C (nI 1) [(4, .int (nI 1)), (3, .int (nI (ro (tm - 1) + ((va_cpy si si (ro (tm - 1) + 1) (ro (tm - 1)) (nd - (ro (tm - 1)) - 1)) (ro (tm - 1)))))), (2, .int (nI 1)), (1, .int (nI (ro (tm - 1)))), (0, .ref (a 0))] dS_openLast_101 rfl (by decide) (by decide) rfl ?_
        refine x_goto C 74 dS_openLast_104 (by decide) ?_
        refine x_iload C dS_openLast_74 0 rfl ?_
        refine x_iload_n C dS_openLast_76 rfl 2 rfl ?_
        refine x_icmp_ge (tgt := 107) C dS_openLast_77 (by decide) (fun _ => ?_) (fun h => absurd (by decide) h)
        refine x_iload_n C dS_openLast_107 rfl 2 rfl ?_
        exact x_iret C T .int rfl rfl dS_openLast_108 (Or.inr (⟨1, _, _, _, _, _, _, _, _, _, _, (t' :: R), rfl, rfl, (tc_opn_1 hk'), (tc_opn_RS1 y1 hk' z2 (by omega))⟩))
      ·
        rw [hk]
        have hk' : tc_tk x.1 = 2 := k1 ▸ hk
        have zP : tc_wf 2 t' := by have := tc_parts zt.1; rwa [hk'] at this
        obtain ⟨zA, zB, ze, zel, zep, zep2⟩ := tc_halves zP
        have zq : va_cpy si si (ro (tm - 1) + 1) (ro (tm - 1)) (nd - (ro (tm - 1)) - 1) (ro (tm - 1)) = tc_sz t' := tc_opn_si y1 z2 (by omega) (by omega)
        refine x_istore_n C [(2, .int (nI 2)), (1, .int (nI (ro (tm - 1)))), (0, .ref (a 0))] dS_openLast_32 rfl (by decide) rfl ?_
        refine x_aload_n C dS_openLast_33 rfl 2 rfl ?_
        refine x_iload_n C dS_openLast_34 rfl 1 rfl ?_
        refine x_iconst (v := nI 1) C dS_openLast_35 (by decide) ?_
        refine x_iaddN C dS_openLast_36 ?_
        refine x_iload_n C dS_openLast_37 rfl 1 rfl ?_
        refine x_aload_n C dS_openLast_38 rfl 2 rfl ?_
        refine x_get C fgS_41 0 rfl rfl dS_openLast_39 ?_
        refine x_iload_n C dS_openLast_42 rfl 1 rfl ?_
        refine x_isubN C (by omega) dS_openLast_43 ?_
        refine x_iconst (v := nI 1) C dS_openLast_44 (by decide) ?_
        refine x_isubN C (by omega) dS_openLast_45 ?_
        refine x_callV C (c_S_copyNodes D a ca kn nu wo si de la le ro tm nd (ro (tm - 1) + 1) (ro (tm - 1)) (nd - (ro (tm - 1)) - 1) (by omega) (by omega)) kbS_72 kcS_72 [0, 1, 2, 3, 4, 5, 6, 7, 8] [] [0, 1, 2, 3, 4, 5, 6, 7] ([]) rfl rfl (by decide) (by decide) (by decide) rfl 0 rfl rfl ⟨Nat.le_of_ble_eq_true rfl, Nat.le_of_ble_eq_true rfl⟩ ⟨Nat.le_of_ble_eq_true rfl, Nat.le_of_ble_eq_true rfl⟩ [] rfl rfl (Nat.le_of_ble_eq_true rfl) dS_openLast_46 (fun rv ru hw => ?_)
        obtain ⟨rfl, rfl⟩ := hw
        show xk_Go K D 5 0 0 (tc_wS a ca (va_cpy kn kn (ro (tm - 1) + 1) (ro (tm - 1)) (nd - (ro (tm - 1)) - 1)) (va_cpy nu nu (ro (tm - 1) + 1) (ro (tm - 1)) (nd - (ro (tm - 1)) - 1)) (va_cpy wo wo ((ro (tm - 1) + 1) * 8) ((ro (tm - 1)) * 8) ((nd - (ro (tm - 1)) - 1) * 8)) (va_cpy si si (ro (tm - 1) + 1) (ro (tm - 1)) (nd - (ro (tm - 1)) - 1)) (va_cpy de de (ro (tm - 1) + 1) (ro (tm - 1)) (nd - (ro (tm - 1)) - 1)) (va_cpy la la (ro (tm - 1) + 1) (ro (tm - 1)) (nd - (ro (tm - 1)) - 1)) (va_cpy le le (ro (tm - 1) + 1) (ro (tm - 1)) (nd - (ro (tm - 1)) - 1)) ro tm nd) [(2, .int (nI 2)), (1, .int (nI (ro (tm - 1)))), (0, .ref (a 0))] 49 []
        refine x_aload_n C dS_openLast_49 rfl 2 rfl ?_
        refine x_dup C dS_openLast_50 rfl ?_
        refine x_get C fgS_41 0 rfl rfl dS_openLast_51 ?_
        refine x_iconst (v := nI 1) C dS_openLast_54 (by decide) ?_
        refine x_isubN C (by omega) dS_openLast_55 ?_
        refine x_put C fpS_41 0 (tc_wS a ca (va_cpy kn kn (ro (tm - 1) + 1) (ro (tm - 1)) (nd - (ro (tm - 1)) - 1)) (va_cpy nu nu (ro (tm - 1) + 1) (ro (tm - 1)) (nd - (ro (tm - 1)) - 1)) (va_cpy wo wo ((ro (tm - 1) + 1) * 8) ((ro (tm - 1)) * 8) ((nd - (ro (tm - 1)) - 1) * 8)) (va_cpy si si (ro (tm - 1) + 1) (ro (tm - 1)) (nd - (ro (tm - 1)) - 1)) (va_cpy de de (ro (tm - 1) + 1) (ro (tm - 1)) (nd - (ro (tm - 1)) - 1)) (va_cpy la la (ro (tm - 1) + 1) (ro (tm - 1)) (nd - (ro (tm - 1)) - 1)) (va_cpy le le (ro (tm - 1) + 1) (ro (tm - 1)) (nd - (ro (tm - 1)) - 1)) ro tm (nd - 1)) rfl rfl rfl rfl (Nat.le_of_ble_eq_true rfl) dS_openLast_56 ?_
        refine x_aload_n C dS_openLast_59 rfl 2 rfl ?_
        refine x_dup C dS_openLast_60 rfl ?_
        refine x_get C fgS_37 0 rfl rfl dS_openLast_61 ?_
        refine x_iconst (v := nI 1) C dS_openLast_64 (by decide) ?_
        refine x_isubN C (by omega) dS_openLast_65 ?_
        refine x_put C fpS_37 0 (tc_wS a ca (va_cpy kn kn (ro (tm - 1) + 1) (ro (tm - 1)) (nd - (ro (tm - 1)) - 1)) (va_cpy nu nu (ro (tm - 1) + 1) (ro (tm - 1)) (nd - (ro (tm - 1)) - 1)) (va_cpy wo wo ((ro (tm - 1) + 1) * 8) ((ro (tm - 1)) * 8) ((nd - (ro (tm - 1)) - 1) * 8)) (va_cpy si si (ro (tm - 1) + 1) (ro (tm - 1)) (nd - (ro (tm - 1)) - 1)) (va_cpy de de (ro (tm - 1) + 1) (ro (tm - 1)) (nd - (ro (tm - 1)) - 1)) (va_cpy la la (ro (tm - 1) + 1) (ro (tm - 1)) (nd - (ro (tm - 1)) - 1)) (va_cpy le le (ro (tm - 1) + 1) (ro (tm - 1)) (nd - (ro (tm - 1)) - 1)) ro (tm - 1) (nd - 1)) rfl rfl rfl rfl (Nat.le_of_ble_eq_true rfl) dS_openLast_66 ?_
        refine x_iload_n C dS_openLast_69 rfl 1 rfl ?_
        refine x_istore_n C [(3, .int (nI (ro (tm - 1)))), (2, .int (nI 2)), (1, .int (nI (ro (tm - 1)))), (0, .ref (a 0))] dS_openLast_70 rfl (by decide) rfl ?_
        refine x_iconst (v := nI 0) C dS_openLast_71 (by decide) ?_
        refine x_istore C [(4, .int (nI 0)), (3, .int (nI (ro (tm - 1)))), (2, .int (nI 2)), (1, .int (nI (ro (tm - 1)))), (0, .ref (a 0))] dS_openLast_72 (by decide) rfl ?_
        refine x_iload C dS_openLast_74 0 rfl ?_
        refine x_iload_n C dS_openLast_76 rfl 2 rfl ?_
        refine x_icmp_ge (tgt := 107) C dS_openLast_77 (by decide) (fun h => absurd h (by decide)) (fun _ => ?_)
        refine x_iload_n C dS_openLast_80 rfl 1 rfl ?_
        refine x_callS C (c_S_isPlace D (ro (tm - 1)) (by omega)) kbS_44 kcS_44 [] [0, 1, 2, 3, 4, 5, 6, 7, 8] [] (tc_wS a ca (va_cpy kn kn (ro (tm - 1) + 1) (ro (tm - 1)) (nd - (ro (tm - 1)) - 1)) (va_cpy nu nu (ro (tm - 1) + 1) (ro (tm - 1)) (nd - (ro (tm - 1)) - 1)) (va_cpy wo wo ((ro (tm - 1) + 1) * 8) ((ro (tm - 1)) * 8) ((nd - (ro (tm - 1)) - 1) * 8)) (va_cpy si si (ro (tm - 1) + 1) (ro (tm - 1)) (nd - (ro (tm - 1)) - 1)) (va_cpy de de (ro (tm - 1) + 1) (ro (tm - 1)) (nd - (ro (tm - 1)) - 1)) (va_cpy la la (ro (tm - 1) + 1) (ro (tm - 1)) (nd - (ro (tm - 1)) - 1)) (va_cpy le le (ro (tm - 1) + 1) (ro (tm - 1)) (nd - (ro (tm - 1)) - 1)) ro (tm - 1) (nd - 1)) rfl rfl (by decide) (by decide) (by decide) rfl ⟨Nat.le_of_ble_eq_true rfl, Nat.le_of_ble_eq_true rfl⟩ ⟨Nat.le_of_ble_eq_true rfl, Nat.le_of_ble_eq_true rfl⟩ [] rfl rfl (Nat.le_of_ble_eq_true rfl) dS_openLast_81 (fun rv ru hw => ?_)
        obtain ⟨rfl, rfl⟩ := hw
        show xk_Go K D 5 0 0 (tc_wS a ca (va_cpy kn kn (ro (tm - 1) + 1) (ro (tm - 1)) (nd - (ro (tm - 1)) - 1)) (va_cpy nu nu (ro (tm - 1) + 1) (ro (tm - 1)) (nd - (ro (tm - 1)) - 1)) (va_cpy wo wo ((ro (tm - 1) + 1) * 8) ((ro (tm - 1)) * 8) ((nd - (ro (tm - 1)) - 1) * 8)) (va_cpy si si (ro (tm - 1) + 1) (ro (tm - 1)) (nd - (ro (tm - 1)) - 1)) (va_cpy de de (ro (tm - 1) + 1) (ro (tm - 1)) (nd - (ro (tm - 1)) - 1)) (va_cpy la la (ro (tm - 1) + 1) (ro (tm - 1)) (nd - (ro (tm - 1)) - 1)) (va_cpy le le (ro (tm - 1) + 1) (ro (tm - 1)) (nd - (ro (tm - 1)) - 1)) ro (tm - 1) (nd - 1)) [(4, .int (nI 0)), (3, .int (nI (ro (tm - 1)))), (2, .int (nI 2)), (1, .int (nI (ro (tm - 1)))), (0, .ref (a 0))] 84 [.int (nI 1)]
        refine x_if_eq (tgt := 107) C dS_openLast_84 (by decide) (fun h => absurd h (by decide)) (fun _ => ?_)
        refine x_aload_n C dS_openLast_87 rfl 4 rfl ?_
        refine x_iload_n C dS_openLast_88 rfl 1 rfl ?_
        refine x_callV C (c_S_pushTerm D a ca (va_cpy kn kn (ro (tm - 1) + 1) (ro (tm - 1)) (nd - (ro (tm - 1)) - 1)) (va_cpy nu nu (ro (tm - 1) + 1) (ro (tm - 1)) (nd - (ro (tm - 1)) - 1)) (va_cpy wo wo ((ro (tm - 1) + 1) * 8) ((ro (tm - 1)) * 8) ((nd - (ro (tm - 1)) - 1) * 8)) (va_cpy si si (ro (tm - 1) + 1) (ro (tm - 1)) (nd - (ro (tm - 1)) - 1)) (va_cpy de de (ro (tm - 1) + 1) (ro (tm - 1)) (nd - (ro (tm - 1)) - 1)) (va_cpy la la (ro (tm - 1) + 1) (ro (tm - 1)) (nd - (ro (tm - 1)) - 1)) (va_cpy le le (ro (tm - 1) + 1) (ro (tm - 1)) (nd - (ro (tm - 1)) - 1)) ro (tm - 1) (nd - 1) (ro (tm - 1)) (by omega)) kbS_84 kcS_84 [0, 1, 2, 3, 4, 5, 6, 7, 8] [] [0, 1, 2, 3, 4, 5, 6, 7] ([]) rfl rfl (by decide) (by decide) (by decide) rfl 0 rfl rfl ⟨Nat.le_of_ble_eq_true rfl, Nat.le_of_ble_eq_true rfl⟩ ⟨Nat.le_of_ble_eq_true rfl, Nat.le_of_ble_eq_true rfl⟩ [] rfl rfl (Nat.le_of_ble_eq_true rfl) dS_openLast_89 (fun rv ru hw => ?_)
        obtain ⟨rfl, rfl⟩ := hw
        show xk_Go K D 5 0 0 (tc_wS a ca (va_cpy kn kn (ro (tm - 1) + 1) (ro (tm - 1)) (nd - (ro (tm - 1)) - 1)) (va_cpy nu nu (ro (tm - 1) + 1) (ro (tm - 1)) (nd - (ro (tm - 1)) - 1)) (va_cpy wo wo ((ro (tm - 1) + 1) * 8) ((ro (tm - 1)) * 8) ((nd - (ro (tm - 1)) - 1) * 8)) (va_cpy si si (ro (tm - 1) + 1) (ro (tm - 1)) (nd - (ro (tm - 1)) - 1)) (va_cpy de de (ro (tm - 1) + 1) (ro (tm - 1)) (nd - (ro (tm - 1)) - 1)) (va_cpy la la (ro (tm - 1) + 1) (ro (tm - 1)) (nd - (ro (tm - 1)) - 1)) (va_cpy le le (ro (tm - 1) + 1) (ro (tm - 1)) (nd - (ro (tm - 1)) - 1)) (va_up ro (tm - 1) (ro (tm - 1))) ((tm - 1) + 1) (nd - 1)) [(4, .int (nI 0)), (3, .int (nI (ro (tm - 1)))), (2, .int (nI 2)), (1, .int (nI (ro (tm - 1)))), (0, .ref (a 0))] 92 []
        refine x_iload_n C dS_openLast_92 rfl 1 rfl ?_
        refine x_aload_n C dS_openLast_93 rfl 4 rfl ?_
        refine x_get C fgS_22 0 rfl rfl dS_openLast_94 ?_
        refine x_iload_n C dS_openLast_97 rfl 1 rfl ?_
        refine x_ild C 4 3 rfl rfl (by omega) (by decide) dS_openLast_98 ?_
        show xk_Go K D 5 0 0 (tc_wS a ca (va_cpy kn kn (ro (tm - 1) + 1) (ro (tm - 1)) (nd - (ro (tm - 1)) - 1)) (va_cpy nu nu (ro (tm - 1) + 1) (ro (tm - 1)) (nd - (ro (tm - 1)) - 1)) (va_cpy wo wo ((ro (tm - 1) + 1) * 8) ((ro (tm - 1)) * 8) ((nd - (ro (tm - 1)) - 1) * 8)) (va_cpy si si (ro (tm - 1) + 1) (ro (tm - 1)) (nd - (ro (tm - 1)) - 1)) (va_cpy de de (ro (tm - 1) + 1) (ro (tm - 1)) (nd - (ro (tm - 1)) - 1)) (va_cpy la la (ro (tm - 1) + 1) (ro (tm - 1)) (nd - (ro (tm - 1)) - 1)) (va_cpy le le (ro (tm - 1) + 1) (ro (tm - 1)) (nd - (ro (tm - 1)) - 1)) (va_up ro (tm - 1) (ro (tm - 1))) ((tm - 1) + 1) (nd - 1)) [(4, .int (nI 0)), (3, .int (nI (ro (tm - 1)))), (2, .int (nI 2)), (1, .int (nI (ro (tm - 1)))), (0, .ref (a 0))] 99 [.int (nI ((va_cpy si si (ro (tm - 1) + 1) (ro (tm - 1)) (nd - (ro (tm - 1)) - 1)) (ro (tm - 1)))), .int (nI (ro (tm - 1)))]
        refine x_iaddN C dS_openLast_99 ?_
        refine x_istore_n C [(3, .int (nI (ro (tm - 1) + ((va_cpy si si (ro (tm - 1) + 1) (ro (tm - 1)) (nd - (ro (tm - 1)) - 1)) (ro (tm - 1)))))), (4, .int (nI 0)), (2, .int (nI 2)), (1, .int (nI (ro (tm - 1)))), (0, .ref (a 0))] dS_openLast_100 rfl (by decide) rfl ?_
        refine x_iinc (q := 1) C (nI 1) [(4, .int (nI 1)), (3, .int (nI (ro (tm - 1) + ((va_cpy si si (ro (tm - 1) + 1) (ro (tm - 1)) (nd - (ro (tm - 1)) - 1)) (ro (tm - 1)))))), (2, .int (nI 2)), (1, .int (nI (ro (tm - 1)))), (0, .ref (a 0))] dS_openLast_101 rfl (by decide) (by decide) rfl ?_
        refine x_goto C 74 dS_openLast_104 (by decide) ?_
        refine x_iload C dS_openLast_74 0 rfl ?_
        refine x_iload_n C dS_openLast_76 rfl 2 rfl ?_
        refine x_icmp_ge (tgt := 107) C dS_openLast_77 (by decide) (fun h => absurd h (by decide)) (fun _ => ?_)
        refine x_iload_n C dS_openLast_80 rfl 1 rfl ?_
        refine x_callS C (c_S_isPlace D (ro (tm - 1) + ((va_cpy si si (ro (tm - 1) + 1) (ro (tm - 1)) (nd - (ro (tm - 1)) - 1)) (ro (tm - 1)))) (by omega)) kbS_44 kcS_44 [] [0, 1, 2, 3, 4, 5, 6, 7, 8] [] (tc_wS a ca (va_cpy kn kn (ro (tm - 1) + 1) (ro (tm - 1)) (nd - (ro (tm - 1)) - 1)) (va_cpy nu nu (ro (tm - 1) + 1) (ro (tm - 1)) (nd - (ro (tm - 1)) - 1)) (va_cpy wo wo ((ro (tm - 1) + 1) * 8) ((ro (tm - 1)) * 8) ((nd - (ro (tm - 1)) - 1) * 8)) (va_cpy si si (ro (tm - 1) + 1) (ro (tm - 1)) (nd - (ro (tm - 1)) - 1)) (va_cpy de de (ro (tm - 1) + 1) (ro (tm - 1)) (nd - (ro (tm - 1)) - 1)) (va_cpy la la (ro (tm - 1) + 1) (ro (tm - 1)) (nd - (ro (tm - 1)) - 1)) (va_cpy le le (ro (tm - 1) + 1) (ro (tm - 1)) (nd - (ro (tm - 1)) - 1)) (va_up ro (tm - 1) (ro (tm - 1))) ((tm - 1) + 1) (nd - 1)) rfl rfl (by decide) (by decide) (by decide) rfl ⟨Nat.le_of_ble_eq_true rfl, Nat.le_of_ble_eq_true rfl⟩ ⟨Nat.le_of_ble_eq_true rfl, Nat.le_of_ble_eq_true rfl⟩ [] rfl rfl (Nat.le_of_ble_eq_true rfl) dS_openLast_81 (fun rv ru hw => ?_)
        obtain ⟨rfl, rfl⟩ := hw
        show xk_Go K D 5 0 0 (tc_wS a ca (va_cpy kn kn (ro (tm - 1) + 1) (ro (tm - 1)) (nd - (ro (tm - 1)) - 1)) (va_cpy nu nu (ro (tm - 1) + 1) (ro (tm - 1)) (nd - (ro (tm - 1)) - 1)) (va_cpy wo wo ((ro (tm - 1) + 1) * 8) ((ro (tm - 1)) * 8) ((nd - (ro (tm - 1)) - 1) * 8)) (va_cpy si si (ro (tm - 1) + 1) (ro (tm - 1)) (nd - (ro (tm - 1)) - 1)) (va_cpy de de (ro (tm - 1) + 1) (ro (tm - 1)) (nd - (ro (tm - 1)) - 1)) (va_cpy la la (ro (tm - 1) + 1) (ro (tm - 1)) (nd - (ro (tm - 1)) - 1)) (va_cpy le le (ro (tm - 1) + 1) (ro (tm - 1)) (nd - (ro (tm - 1)) - 1)) (va_up ro (tm - 1) (ro (tm - 1))) ((tm - 1) + 1) (nd - 1)) [(4, .int (nI 1)), (3, .int (nI (ro (tm - 1) + ((va_cpy si si (ro (tm - 1) + 1) (ro (tm - 1)) (nd - (ro (tm - 1)) - 1)) (ro (tm - 1)))))), (2, .int (nI 2)), (1, .int (nI (ro (tm - 1)))), (0, .ref (a 0))] 84 [.int (nI 1)]
        refine x_if_eq (tgt := 107) C dS_openLast_84 (by decide) (fun h => absurd h (by decide)) (fun _ => ?_)
        refine x_aload_n C dS_openLast_87 rfl 4 rfl ?_
        refine x_iload_n C dS_openLast_88 rfl 1 rfl ?_
        refine x_callV C (c_S_pushTerm D a ca (va_cpy kn kn (ro (tm - 1) + 1) (ro (tm - 1)) (nd - (ro (tm - 1)) - 1)) (va_cpy nu nu (ro (tm - 1) + 1) (ro (tm - 1)) (nd - (ro (tm - 1)) - 1)) (va_cpy wo wo ((ro (tm - 1) + 1) * 8) ((ro (tm - 1)) * 8) ((nd - (ro (tm - 1)) - 1) * 8)) (va_cpy si si (ro (tm - 1) + 1) (ro (tm - 1)) (nd - (ro (tm - 1)) - 1)) (va_cpy de de (ro (tm - 1) + 1) (ro (tm - 1)) (nd - (ro (tm - 1)) - 1)) (va_cpy la la (ro (tm - 1) + 1) (ro (tm - 1)) (nd - (ro (tm - 1)) - 1)) (va_cpy le le (ro (tm - 1) + 1) (ro (tm - 1)) (nd - (ro (tm - 1)) - 1)) (va_up ro (tm - 1) (ro (tm - 1))) ((tm - 1) + 1) (nd - 1) (ro (tm - 1) + ((va_cpy si si (ro (tm - 1) + 1) (ro (tm - 1)) (nd - (ro (tm - 1)) - 1)) (ro (tm - 1)))) (by omega)) kbS_84 kcS_84 [0, 1, 2, 3, 4, 5, 6, 7, 8] [] [0, 1, 2, 3, 4, 5, 6, 7] ([]) rfl rfl (by decide) (by decide) (by decide) rfl 0 rfl rfl ⟨Nat.le_of_ble_eq_true rfl, Nat.le_of_ble_eq_true rfl⟩ ⟨Nat.le_of_ble_eq_true rfl, Nat.le_of_ble_eq_true rfl⟩ [] rfl rfl (Nat.le_of_ble_eq_true rfl) dS_openLast_89 (fun rv ru hw => ?_)
        obtain ⟨rfl, rfl⟩ := hw
        show xk_Go K D 5 0 0 (tc_wS a ca (va_cpy kn kn (ro (tm - 1) + 1) (ro (tm - 1)) (nd - (ro (tm - 1)) - 1)) (va_cpy nu nu (ro (tm - 1) + 1) (ro (tm - 1)) (nd - (ro (tm - 1)) - 1)) (va_cpy wo wo ((ro (tm - 1) + 1) * 8) ((ro (tm - 1)) * 8) ((nd - (ro (tm - 1)) - 1) * 8)) (va_cpy si si (ro (tm - 1) + 1) (ro (tm - 1)) (nd - (ro (tm - 1)) - 1)) (va_cpy de de (ro (tm - 1) + 1) (ro (tm - 1)) (nd - (ro (tm - 1)) - 1)) (va_cpy la la (ro (tm - 1) + 1) (ro (tm - 1)) (nd - (ro (tm - 1)) - 1)) (va_cpy le le (ro (tm - 1) + 1) (ro (tm - 1)) (nd - (ro (tm - 1)) - 1)) (va_up (va_up ro (tm - 1) (ro (tm - 1))) ((tm - 1) + 1) (ro (tm - 1) + ((va_cpy si si (ro (tm - 1) + 1) (ro (tm - 1)) (nd - (ro (tm - 1)) - 1)) (ro (tm - 1))))) (((tm - 1) + 1) + 1) (nd - 1)) [(4, .int (nI 1)), (3, .int (nI (ro (tm - 1) + ((va_cpy si si (ro (tm - 1) + 1) (ro (tm - 1)) (nd - (ro (tm - 1)) - 1)) (ro (tm - 1)))))), (2, .int (nI 2)), (1, .int (nI (ro (tm - 1)))), (0, .ref (a 0))] 92 []
        refine x_iload_n C dS_openLast_92 rfl 1 rfl ?_
        refine x_aload_n C dS_openLast_93 rfl 4 rfl ?_
        refine x_get C fgS_22 0 rfl rfl dS_openLast_94 ?_
        refine x_iload_n C dS_openLast_97 rfl 1 rfl ?_
        refine x_ild C 4 3 rfl rfl (by omega) (by decide) dS_openLast_98 ?_
        show xk_Go K D 5 0 0 (tc_wS a ca (va_cpy kn kn (ro (tm - 1) + 1) (ro (tm - 1)) (nd - (ro (tm - 1)) - 1)) (va_cpy nu nu (ro (tm - 1) + 1) (ro (tm - 1)) (nd - (ro (tm - 1)) - 1)) (va_cpy wo wo ((ro (tm - 1) + 1) * 8) ((ro (tm - 1)) * 8) ((nd - (ro (tm - 1)) - 1) * 8)) (va_cpy si si (ro (tm - 1) + 1) (ro (tm - 1)) (nd - (ro (tm - 1)) - 1)) (va_cpy de de (ro (tm - 1) + 1) (ro (tm - 1)) (nd - (ro (tm - 1)) - 1)) (va_cpy la la (ro (tm - 1) + 1) (ro (tm - 1)) (nd - (ro (tm - 1)) - 1)) (va_cpy le le (ro (tm - 1) + 1) (ro (tm - 1)) (nd - (ro (tm - 1)) - 1)) (va_up (va_up ro (tm - 1) (ro (tm - 1))) ((tm - 1) + 1) (ro (tm - 1) + ((va_cpy si si (ro (tm - 1) + 1) (ro (tm - 1)) (nd - (ro (tm - 1)) - 1)) (ro (tm - 1))))) (((tm - 1) + 1) + 1) (nd - 1)) [(4, .int (nI 1)), (3, .int (nI (ro (tm - 1) + ((va_cpy si si (ro (tm - 1) + 1) (ro (tm - 1)) (nd - (ro (tm - 1)) - 1)) (ro (tm - 1)))))), (2, .int (nI 2)), (1, .int (nI (ro (tm - 1)))), (0, .ref (a 0))] 99 [.int (nI ((va_cpy si si (ro (tm - 1) + 1) (ro (tm - 1)) (nd - (ro (tm - 1)) - 1)) (ro (tm - 1) + ((va_cpy si si (ro (tm - 1) + 1) (ro (tm - 1)) (nd - (ro (tm - 1)) - 1)) (ro (tm - 1)))))), .int (nI (ro (tm - 1) + ((va_cpy si si (ro (tm - 1) + 1) (ro (tm - 1)) (nd - (ro (tm - 1)) - 1)) (ro (tm - 1)))))]
        refine x_iaddN C dS_openLast_99 ?_
        refine x_istore_n C [(3, .int (nI (ro (tm - 1) + ((va_cpy si si (ro (tm - 1) + 1) (ro (tm - 1)) (nd - (ro (tm - 1)) - 1)) (ro (tm - 1))) + ((va_cpy si si (ro (tm - 1) + 1) (ro (tm - 1)) (nd - (ro (tm - 1)) - 1)) (ro (tm - 1) + ((va_cpy si si (ro (tm - 1) + 1) (ro (tm - 1)) (nd - (ro (tm - 1)) - 1)) (ro (tm - 1)))))))), (4, .int (nI 1)), (2, .int (nI 2)), (1, .int (nI (ro (tm - 1)))), (0, .ref (a 0))] dS_openLast_100 rfl (by decide) rfl ?_
        refine x_iinc (q := 1) C (nI 2) [(4, .int (nI 2)), (3, .int (nI (ro (tm - 1) + ((va_cpy si si (ro (tm - 1) + 1) (ro (tm - 1)) (nd - (ro (tm - 1)) - 1)) (ro (tm - 1))) + ((va_cpy si si (ro (tm - 1) + 1) (ro (tm - 1)) (nd - (ro (tm - 1)) - 1)) (ro (tm - 1) + ((va_cpy si si (ro (tm - 1) + 1) (ro (tm - 1)) (nd - (ro (tm - 1)) - 1)) (ro (tm - 1)))))))), (2, .int (nI 2)), (1, .int (nI (ro (tm - 1)))), (0, .ref (a 0))] dS_openLast_101 rfl (by decide) (by decide) rfl ?_
        refine x_goto C 74 dS_openLast_104 (by decide) ?_
        refine x_iload C dS_openLast_74 0 rfl ?_
        refine x_iload_n C dS_openLast_76 rfl 2 rfl ?_
        refine x_icmp_ge (tgt := 107) C dS_openLast_77 (by decide) (fun _ => ?_) (fun h => absurd (by decide) h)
        refine x_iload_n C dS_openLast_107 rfl 2 rfl ?_
        exact x_iret C T .int rfl rfl dS_openLast_108 (Or.inr (⟨2, _, _, _, _, _, _, _, _, _, _, (t'.drop (tc_sz t') :: t'.take (tc_sz t') :: R), rfl, rfl, (tc_opn_2 hk'), (tc_opn_RS2 y1 hk' z2 (by omega) zq)⟩))
    ·
      refine x_iconst (v := xk_oI none) C dS_openLast_21 (by decide) ?_
      exact x_iret C T .int rfl rfl dS_openLast_22 (Or.inl (⟨rfl, rfl, (if_pos (k1 ▸ h18))⟩))
