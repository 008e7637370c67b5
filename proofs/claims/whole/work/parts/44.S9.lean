set_option maxHeartbeats 4000000 in
set_option maxRecDepth 100000 in
/-- lastTwoAlike -/
theorem c_S_lastTwoAlike (D : va_G) (a : Nat → Nat) (ca : Nat → ClassId) (kn : Nat → Nat) (nu : Nat → Int64) (wo : Nat → Int64) (si : Nat → Nat) (de : Nat → Nat) (la : Nat → Nat) (le : Nat → Nat) (ro : Nat → Nat) (tm : Nat) (nd : Nat) (t : List tc_Nd) (t1 : List tc_Nd) (R : List (List tc_Nd)) (y1 : tc_RS (t :: t1 :: R) (kn, nu, wo, si, de, la, le) ro tm nd) : xk_Ct yS_lastTwoAlike cS_lastTwoAlike 4 (some .boolean) { frames := 3, cells := 0, slots := 0, locals := 68 } D (tc_tS ca) [.ref (a 0)] (tc_wS a ca kn nu wo si de la le ro tm nd) (fun rv ru => (rv = some (.int (xk_bZ (decide (t1 = t)))) ∧ ru = tc_wS a ca kn nu wo si de la le ro tm nd)) := by
  refine xk_enter (by decide) (Nat.le_of_ble_eq_true rfl) (fun K C T hin => ?_)
  obtain ⟨w1, w2, w3, w4, w5, w6, w7, w8, w9, w10, w11, w12⟩ := tc_two y1
  show xk_Go K D 4 0 0 (tc_wS a ca kn nu wo si de la le ro tm nd) [(0, .ref (a 0))] 0 []
  refine x_aload_n C dS_lastTwoAlike_0 rfl 0 rfl ?_
  refine x_aload_n C dS_lastTwoAlike_1 rfl 0 rfl ?_
  refine x_get C fgS_37 0 rfl rfl dS_lastTwoAlike_2 ?_
  refine x_iconst (v := nI 2) C dS_lastTwoAlike_5 (by decide) ?_
  refine x_isubN C (by omega) dS_lastTwoAlike_6 ?_
  refine x_callV C (c_S_rootOf D a ca kn nu wo si de la le ro tm nd (some (tm - 2)) (by omega) (fun q hq => by obtain rfl := Option.some.inj hq; exact ⟨by omega, by omega⟩)) kbS_48 kcS_48 [0, 1, 2, 3, 4, 5, 6, 7, 8] [] [0, 1, 2, 3, 4, 5, 6, 7] ([]) rfl rfl (by decide) (by decide) (by decide) rfl 0 rfl rfl ⟨Nat.le_of_ble_eq_true rfl, Nat.le_of_ble_eq_true rfl⟩ ⟨Nat.le_of_ble_eq_true rfl, Nat.le_of_ble_eq_true rfl⟩ [] rfl rfl (Nat.le_of_ble_eq_true rfl) dS_lastTwoAlike_7 (fun rv ru hw => ?_)
  obtain ⟨rfl, rfl⟩ := hw
  show xk_Go K D 4 0 0 (tc_wS a ca kn nu wo si de la le ro tm nd) [(0, .ref (a 0))] 10 [.int (xk_oI ((some (tm - 2)).map ro))]
  show xk_Go K D 4 0 0 (tc_wS a ca kn nu wo si de la le ro tm nd) [(0, .ref (a 0))] 10 [.int (nI (ro (tm - 2)))]
  refine x_istore_n C [(1, .int (nI (ro (tm - 2)))), (0, .ref (a 0))] dS_lastTwoAlike_10 rfl (by decide) rfl ?_
  refine x_aload_n C dS_lastTwoAlike_11 rfl 1 rfl ?_
  refine x_aload_n C dS_lastTwoAlike_12 rfl 1 rfl ?_
  refine x_get C fgS_37 0 rfl rfl dS_lastTwoAlike_13 ?_
  refine x_iconst (v := nI 1) C dS_lastTwoAlike_16 (by decide) ?_
  refine x_isubN C (by omega) dS_lastTwoAlike_17 ?_
  refine x_callV C (c_S_rootOf D a ca kn nu wo si de la le ro tm nd (some (tm - 1)) (by omega) (fun q hq => by obtain rfl := Option.some.inj hq; exact ⟨by omega, by omega⟩)) kbS_48 kcS_48 [0, 1, 2, 3, 4, 5, 6, 7, 8] [] [0, 1, 2, 3, 4, 5, 6, 7] ([]) rfl rfl (by decide) (by decide) (by decide) rfl 0 rfl rfl ⟨Nat.le_of_ble_eq_true rfl, Nat.le_of_ble_eq_true rfl⟩ ⟨Nat.le_of_ble_eq_true rfl, Nat.le_of_ble_eq_true rfl⟩ [] rfl rfl (Nat.le_of_ble_eq_true rfl) dS_lastTwoAlike_18 (fun rv ru hw => ?_)
  obtain ⟨rfl, rfl⟩ := hw
  show xk_Go K D 4 0 0 (tc_wS a ca kn nu wo si de la le ro tm nd) [(1, .int (nI (ro (tm - 2)))), (0, .ref (a 0))] 21 [.int (xk_oI ((some (tm - 1)).map ro))]
  show xk_Go K D 4 0 0 (tc_wS a ca kn nu wo si de la le ro tm nd) [(1, .int (nI (ro (tm - 2)))), (0, .ref (a 0))] 21 [.int (nI (ro (tm - 1)))]
  refine x_istore_n C [(2, .int (nI (ro (tm - 1)))), (1, .int (nI (ro (tm - 2)))), (0, .ref (a 0))] dS_lastTwoAlike_21 rfl (by decide) rfl ?_
  refine x_iload_n C dS_lastTwoAlike_22 rfl 1 rfl ?_
  refine x_if_ltN (tgt := 45) C (by omega) dS_lastTwoAlike_23 (by decide) ?_
  refine x_iload_n C dS_lastTwoAlike_26 rfl 0 rfl ?_
  refine x_if_ltN (tgt := 45) C (by omega) dS_lastTwoAlike_27 (by decide) ?_
  refine x_aload_n C dS_lastTwoAlike_30 rfl 2 rfl ?_
  refine x_get C fgS_22 0 rfl rfl dS_lastTwoAlike_31 ?_
  refine x_iload_n C dS_lastTwoAlike_34 rfl 1 rfl ?_
  refine x_ild C 4 3 rfl rfl (by omega) (by decide) dS_lastTwoAlike_35 ?_
  show xk_Go K D 4 0 0 (tc_wS a ca kn nu wo si de la le ro tm nd) [(2, .int (nI (ro (tm - 1)))), (1, .int (nI (ro (tm - 2)))), (0, .ref (a 0))] 36 [.int (nI (si (ro (tm - 2))))]
  refine x_aload_n C dS_lastTwoAlike_36 rfl 2 rfl ?_
  refine x_get C fgS_22 0 rfl rfl dS_lastTwoAlike_37 ?_
  refine x_iload_n C dS_lastTwoAlike_40 rfl 0 rfl ?_
  refine x_ild C 4 3 rfl rfl (by omega) (by decide) dS_lastTwoAlike_41 ?_
  show xk_Go K D 4 0 0 (tc_wS a ca kn nu wo si de la le ro tm nd) [(2, .int (nI (ro (tm - 1)))), (1, .int (nI (ro (tm - 2)))), (0, .ref (a 0))] 42 [.int (nI (si (ro (tm - 1)))), .int (nI (si (ro (tm - 2))))]
  refine x_icmp_eqN (tgt := 47) C (by omega) (by omega) dS_lastTwoAlike_42 (by decide) (fun h42 => ?_) (fun h42 => ?_)
  ·
    refine x_iconst (v := nI 0) C dS_lastTwoAlike_47 (by decide) ?_
    refine x_istore_n C [(3, .int (nI 0)), (2, .int (nI (ro (tm - 1)))), (1, .int (nI (ro (tm - 2)))), (0, .ref (a 0))] dS_lastTwoAlike_48 rfl (by decide) rfl ?_
    have lp49 : ∀ (zc : Nat) (k : Nat), (t1.length - k) < zc → (k ≤ t1.length) → (∀ i, i < k → t1[i]? = t[i]?) → xk_Go K D 4 0 0 (tc_wS a ca kn nu wo si de la le ro tm nd) [(0, .ref (a 0)), (1, .int (nI (ro (tm - 2)))), (2, .int (nI (ro (tm - 1)))), (3, .int (nI k))] 49 [] := by
      intro zc
      induction zc with
      | zero => intro k hm; exact absurd hm (Nat.not_lt_zero _)
      | succ zc ih49 =>
        intro k hm e1 e2
        refine x_iload_n C dS_lastTwoAlike_49 rfl 3 rfl ?_
        refine x_aload_n C dS_lastTwoAlike_50 rfl 0 rfl ?_
        refine x_get C fgS_22 0 rfl rfl dS_lastTwoAlike_51 ?_
        refine x_iload_n C dS_lastTwoAlike_54 rfl 1 rfl ?_
        refine x_ild C 4 3 rfl rfl (by omega) (by decide) dS_lastTwoAlike_55 ?_
        show xk_Go K D 4 0 0 (tc_wS a ca kn nu wo si de la le ro tm nd) [(0, .ref (a 0)), (1, .int (nI (ro (tm - 2)))), (2, .int (nI (ro (tm - 1)))), (3, .int (nI k))] 56 [.int (nI (si (ro (tm - 2)))), .int (nI k)]
        refine x_icmp_geN (tgt := 98) C (by omega) (by omega) dS_lastTwoAlike_56 (by decide) (fun h56 => ?_) (fun h56 => ?_)
        ·
          refine x_iconst (v := nI 1) C dS_lastTwoAlike_98 (by decide) ?_
          exact x_iret C T .boolean rfl rfl dS_lastTwoAlike_99 (⟨by rw [show decide (t1 = t) = true from decide_eq_true (tc_ext_k (by omega) (fun i hi => e2 i (by omega)))]; rfl, rfl⟩)
        ·
          refine x_iload_n C dS_lastTwoAlike_59 rfl 1 rfl ?_
          refine x_iload_n C dS_lastTwoAlike_60 rfl 3 rfl ?_
          refine x_iaddN C dS_lastTwoAlike_61 ?_
          refine x_callS C (c_S_isPlace D (ro (tm - 2) + k) (by omega)) kbS_44 kcS_44 [] [0, 1, 2, 3, 4, 5, 6, 7, 8] [] (tc_wS a ca kn nu wo si de la le ro tm nd) rfl rfl (by decide) (by decide) (by decide) rfl ⟨Nat.le_of_ble_eq_true rfl, Nat.le_of_ble_eq_true rfl⟩ ⟨Nat.le_of_ble_eq_true rfl, Nat.le_of_ble_eq_true rfl⟩ [] rfl rfl (Nat.le_of_ble_eq_true rfl) dS_lastTwoAlike_62 (fun rv ru hw => ?_)
          obtain ⟨rfl, rfl⟩ := hw
          show xk_Go K D 4 0 0 (tc_wS a ca kn nu wo si de la le ro tm nd) [(0, .ref (a 0)), (1, .int (nI (ro (tm - 2)))), (2, .int (nI (ro (tm - 1)))), (3, .int (nI k))] 65 [.int (nI 1)]
          refine x_if_eq (tgt := 98) C dS_lastTwoAlike_65 (by decide) (fun h => absurd h (by decide)) (fun _ => ?_)
          refine x_iload_n C dS_lastTwoAlike_68 rfl 2 rfl ?_
          refine x_iload_n C dS_lastTwoAlike_69 rfl 3 rfl ?_
          refine x_iaddN C dS_lastTwoAlike_70 ?_
          refine x_callS C (c_S_isPlace D (ro (tm - 1) + k) (by omega)) kbS_44 kcS_44 [] [0, 1, 2, 3, 4, 5, 6, 7, 8] [] (tc_wS a ca kn nu wo si de la le ro tm nd) rfl rfl (by decide) (by decide) (by decide) rfl ⟨Nat.le_of_ble_eq_true rfl, Nat.le_of_ble_eq_true rfl⟩ ⟨Nat.le_of_ble_eq_true rfl, Nat.le_of_ble_eq_true rfl⟩ [] rfl rfl (Nat.le_of_ble_eq_true rfl) dS_lastTwoAlike_71 (fun rv ru hw => ?_)
          obtain ⟨rfl, rfl⟩ := hw
          show xk_Go K D 4 0 0 (tc_wS a ca kn nu wo si de la le ro tm nd) [(0, .ref (a 0)), (1, .int (nI (ro (tm - 2)))), (2, .int (nI (ro (tm - 1)))), (3, .int (nI k))] 74 [.int (nI 1)]
          refine x_if_eq (tgt := 98) C dS_lastTwoAlike_74 (by decide) (fun h => absurd h (by decide)) (fun _ => ?_)
          refine x_aload_n C dS_lastTwoAlike_77 rfl 0 rfl ?_
          refine x_iload_n C dS_lastTwoAlike_78 rfl 1 rfl ?_
          refine x_iload_n C dS_lastTwoAlike_79 rfl 3 rfl ?_
          refine x_iaddN C dS_lastTwoAlike_80 ?_
          refine x_iload_n C dS_lastTwoAlike_81 rfl 2 rfl ?_
          refine x_iload_n C dS_lastTwoAlike_82 rfl 3 rfl ?_
          refine x_iaddN C dS_lastTwoAlike_83 ?_
          obtain ⟨x, hx1⟩ : ∃ x, t1[k]? = some x := ⟨_, List.getElem?_eq_getElem (by omega)⟩
          obtain ⟨y, hx2⟩ : ∃ y, t[k]? = some y := ⟨_, List.getElem?_eq_getElem (by omega)⟩
          refine x_callV C (c_S_alike D a ca kn nu wo si de la le ro tm nd (ro (tm - 2) + k) (ro (tm - 1) + k) x _ y _ (by omega) (by omega) (tc_at_k w3 hx1) (tc_at_k w4 hx2) (w12.2.2 x (List.mem_of_getElem? hx1)) (w11.2.2 y (List.mem_of_getElem? hx2))) kbS_99 kcS_99 [0, 1, 2, 3, 4, 5, 6, 7, 8] [] [0, 1, 2, 3, 4, 5, 6, 7] ([]) rfl rfl (by decide) (by decide) (by decide) rfl 0 rfl rfl ⟨Nat.le_of_ble_eq_true rfl, Nat.le_of_ble_eq_true rfl⟩ ⟨Nat.le_of_ble_eq_true rfl, Nat.le_of_ble_eq_true rfl⟩ [] rfl rfl (Nat.le_of_ble_eq_true rfl) dS_lastTwoAlike_84 (fun rv ru hw => ?_)
          obtain ⟨rfl, rfl⟩ := hw
          show xk_Go K D 4 0 0 (tc_wS a ca kn nu wo si de la le ro tm nd) [(0, .ref (a 0)), (1, .int (nI (ro (tm - 2)))), (2, .int (nI (ro (tm - 1)))), (3, .int (nI k))] 87 [.int (xk_bZ (decide (x = y)))]
          refine x_if_neB (tgt := 92) C dS_lastTwoAlike_87 (by decide) (fun h87 => ?_) (fun h87 => ?_)
          ·
            refine x_iinc (q := 3) C (nI (k + 1)) [(3, .int (nI (k + 1))), (0, .ref (a 0)), (1, .int (nI (ro (tm - 2)))), (2, .int (nI (ro (tm - 1))))] dS_lastTwoAlike_92 rfl (nI_add k 1) (by decide) rfl ?_
            refine x_goto C 49 dS_lastTwoAlike_95 (by decide) ?_
            exact x_sub [1, 2, 3, 0] rfl (ih49 (k + 1) (by omega) (by omega) (fun i hi => by rcases Nat.lt_or_ge i k with z | z; exact e2 i z; rw [show i = k by omega, hx1, hx2, of_decide_eq_true h87]))
          ·
            refine x_iconst (v := nI 0) C dS_lastTwoAlike_90 (by decide) ?_
            exact x_iret C T .boolean rfl rfl dS_lastTwoAlike_91 (⟨by rw [show decide (t1 = t) = false from decide_eq_false (fun z => of_decide_eq_false h87 (Option.some.inj (by rw [← hx1, ← hx2, z])))]; rfl, rfl⟩)
    exact x_sub [3, 2, 1, 0] rfl (lp49 _ 0 (Nat.lt_succ_self _) (Nat.zero_le _) (fun i hi => absurd hi (Nat.not_lt_zero _)))
  ·
    refine x_iconst (v := nI 0) C dS_lastTwoAlike_45 (by decide) ?_
    exact x_iret C T .boolean rfl rfl dS_lastTwoAlike_46 (⟨by rw [show decide (t1 = t) = false from decide_eq_false (fun z => h42 (by rw [w5, w6, z]))]; rfl, rfl⟩)
set_option maxHeartbeats 4000000 in
set_option maxRecDepth 100000 in
/-- appendNode -/
theorem c_S_appendNode (D : va_G) (a : Nat → Nat) (ca : Nat → ClassId) (o : Nat → Nat) (co : Nat → ClassId) (kn : Nat → Nat) (nu : Nat → Int64) (wo : Nat → Int64) (si : Nat → Nat) (de : Nat → Nat) (la : Nat → Nat) (le : Nat → Nat) (ro : Nat → Nat) (tm : Nat) (nd : Nat) (ob : Nat → Nat) (oz : Nat) (i : Nat) (x : tc_Nd) (Rx : List tc_Nd) (y1 : i < 200) (y3 : tc_nd (kn, nu, wo, si, de, la, le) i x Rx) (y5 : tc_okn x) (y6 : oz + (tc_nb x).length ≤ 4096) : xk_Ct yS_appendNode cS_appendNode 7 none { frames := 2, cells := 0, slots := 0, locals := 46 } D (tc_tS ca ++ tc_tB co) [.ref (a 0), .int (nI i), .ref (o 0)] (tc_wS a ca kn nu wo si de la le ro tm nd ++ tc_wB o co ob oz) (fun rv ru => (∃ (bg : Nat → Nat), rv = none ∧ ru = tc_wS a ca kn nu wo si de la le ro tm nd ++ tc_wB o co bg (oz + (tc_nb x).length) ∧ (tc_apd ob oz bg (tc_nb x)))) := by
  refine xk_enter (by decide) (Nat.le_of_ble_eq_true rfl) (fun K C T hin => ?_)
  have q3 := y3.1
  have yx := y5.1
  have ym := tc_mid_len (x := x)
  have yl : (tc_nb x).length = 1 + (tc_mid x).length + x.2.2.length := by unfold tc_nb; rw [List.length_append, List.length_cons]; omega
  have y64 := y5.2.2.2.2.1
  show xk_Go K D 7 0 0 (tc_wS a ca kn nu wo si de la le ro tm nd ++ tc_wB o co ob oz) [(0, .ref (a 0)), (1, .int (nI i)), (2, .ref (o 0))] 0 []
  refine x_aload_n C dS_appendNode_0 rfl 0 rfl ?_
  refine x_get C fgS_9 0 rfl rfl dS_appendNode_1 ?_
  refine x_iload_n C dS_appendNode_4 rfl 1 rfl ?_
  refine x_ild C 1 0 rfl rfl (by omega) (by decide) dS_appendNode_5 ?_
  show xk_Go K D 7 0 0 (tc_wS a ca kn nu wo si de la le ro tm nd ++ tc_wB o co ob oz) [(0, .ref (a 0)), (1, .int (nI i)), (2, .ref (o 0))] 6 [.int (nI (kn i))]
  refine x_istore_n C [(3, .int (nI (kn i))), (0, .ref (a 0)), (1, .int (nI i)), (2, .ref (o 0))] dS_appendNode_6 rfl (by decide) rfl ?_
  refine x_aload_n C dS_appendNode_7 rfl 1 rfl ?_
  refine x_get C fgS_15 0 rfl rfl dS_appendNode_8 ?_
  refine x_iload_n C dS_appendNode_11 rfl 2 rfl ?_
  refine x_lld C 2 1 rfl rfl (by omega) (by decide) dS_appendNode_12 ?_
  refine x_lstore C [(4, .long (nu i)), (3, .int (nI (kn i))), (0, .ref (a 0)), (1, .int (nI i)), (2, .ref (o 0))] dS_appendNode_13 (by decide) rfl ?_
  refine x_aload_n C dS_appendNode_15 rfl 4 rfl ?_
  refine x_iload_n C dS_appendNode_16 rfl 1 rfl ?_
  refine x_callV C (c_B_append D o co ob oz (kn i) (by omega)) kbS_103 kcS_103 [9, 10] [0, 1, 2, 3, 4, 5, 6, 7, 8] [8] (tc_wS a ca kn nu wo si de la le ro tm nd) rfl rfl (by decide) (by decide) (by decide) rfl 0 rfl rfl ⟨Nat.le_of_ble_eq_true rfl, Nat.le_of_ble_eq_true rfl⟩ ⟨Nat.le_of_ble_eq_true rfl, Nat.le_of_ble_eq_true rfl⟩ [] rfl rfl (Nat.le_of_ble_eq_true rfl) dS_appendNode_17 (fun rv ru hw => ?_)
  obtain ⟨rfl, rfl⟩ := hw
  show xk_Go K D 7 0 0 (tc_wS a ca kn nu wo si de la le ro tm nd ++ tc_wB o co (va_up ob oz (kn i)) (oz + 1)) [(4, .long (nu i)), (3, .int (nI (kn i))), (0, .ref (a 0)), (1, .int (nI i)), (2, .ref (o 0))] 20 []
  have f0 : tc_apd ob oz (va_up ob oz (kn i)) ([] ++ [x.1]) := tc_apd_1 (tc_apd_0 ob oz) rfl q3
  have jn83 : ∀ (bg : Nat → Nat) (s1 : Nat), (tc_apd ob oz bg (x.1 :: tc_mid x)) → (s1 = oz + (1 + (tc_mid x).length)) → xk_Go K D 7 0 0 (tc_wS a ca kn nu wo si de la le ro tm nd ++ tc_wB o co bg s1) [(0, .ref (a 0)), (1, .int (nI i)), (2, .ref (o 0))] 83 [] := by
    intro bg s1 f1 f2
    refine x_iconst (v := nI 0) C dS_appendNode_83 (by decide) ?_
    refine x_istore C [(6, .int (nI 0)), (0, .ref (a 0)), (1, .int (nI i)), (2, .ref (o 0))] dS_appendNode_84 (by decide) rfl ?_
    subst f2
    have lp86 : ∀ (zc : Nat) (j : Nat) (bg : Nat → Nat), (x.2.2.length - j) < zc → (j ≤ x.2.2.length) → (tc_apd ob oz bg ((x.1 :: tc_mid x) ++ x.2.2.take j)) → xk_Go K D 7 0 0 (tc_wS a ca kn nu wo si de la le ro tm nd ++ tc_wB o co bg (oz + (1 + (tc_mid x).length) + j)) [(0, .ref (a 0)), (1, .int (nI i)), (2, .ref (o 0)), (6, .int (nI j))] 86 [] := by
      intro zc
      induction zc with
      | zero => intro j bg hm; exact absurd hm (Nat.not_lt_zero _)
      | succ zc ih86 =>
        intro j bg hm e1 e2
        refine x_iload C dS_appendNode_86 3 rfl ?_
        refine x_aload_n C dS_appendNode_88 rfl 0 rfl ?_
        refine x_iload_n C dS_appendNode_89 rfl 1 rfl ?_
        refine x_callV C (c_S_byteCount D a ca kn nu wo si de la le ro tm nd i x.2.2.length y1 (by omega) (fun q => by rw [y3.2.1]; exact y5.2.2.1 (q3 ▸ q))) kbS_87 kcS_87 [0, 1, 2, 3, 4, 5, 6, 7, 8] [9, 10] [0, 1, 2, 3, 4, 5, 6, 7] (tc_wB o co bg (oz + (1 + (tc_mid x).length) + j)) rfl rfl (by decide) (by decide) (by decide) rfl 0 rfl rfl ⟨Nat.le_of_ble_eq_true rfl, Nat.le_of_ble_eq_true rfl⟩ ⟨Nat.le_of_ble_eq_true rfl, Nat.le_of_ble_eq_true rfl⟩ [.int (nI j)] rfl rfl (Nat.le_of_ble_eq_true rfl) dS_appendNode_90 (fun rv ru hw => ?_)
        rcases hw with ⟨rfl, rfl, g1b⟩ | ⟨rfl, rfl, g1b⟩
        ·
          show xk_Go K D 7 0 0 (tc_wB o co bg (oz + (1 + (tc_mid x).length) + j) ++ tc_wS a ca kn nu wo si de la le ro tm nd) [(0, .ref (a 0)), (1, .int (nI i)), (2, .ref (o 0)), (6, .int (nI j))] 93 [.int (nI x.2.2.length), .int (nI j)]
          refine x_perm [2, 3, 4, 5, 6, 7, 8, 9, 10, 0, 1] (w' := tc_wS a ca kn nu wo si de la le ro tm nd ++ tc_wB o co bg (oz + (1 + (tc_mid x).length) + j)) (by decide) rfl rfl ?_
          refine x_icmp_geN (tgt := 113) C (by omega) (by omega) dS_appendNode_93 (by decide) (fun h93 => ?_) (fun h93 => ?_)
          ·
            exact x_vret C T rfl dS_appendNode_113 (⟨bg, rfl, by rw [show oz + (1 + (tc_mid x).length) + j = oz + (tc_nb x).length by omega], (by have e2 := e2; rw [show j = x.2.2.length by omega, List.take_length] at e2; exact e2)⟩)
          ·
            refine x_aload_n C dS_appendNode_96 rfl 2 rfl ?_
            refine x_aload_n C dS_appendNode_97 rfl 0 rfl ?_
            refine x_iload_n C dS_appendNode_98 rfl 1 rfl ?_
            refine x_iload C dS_appendNode_99 3 rfl ?_
            refine x_callV C (c_S_byteIn D a ca kn nu wo si de la le ro tm nd i j y1 (by omega)) kbS_119 kcS_119 [0, 1, 2, 3, 4, 5, 6, 7, 8] [9, 10] [0, 1, 2, 3, 4, 5, 6, 7] (tc_wB o co bg (oz + (1 + (tc_mid x).length) + j)) rfl rfl (by decide) (by decide) (by decide) rfl 0 rfl rfl ⟨Nat.le_of_ble_eq_true rfl, Nat.le_of_ble_eq_true rfl⟩ ⟨Nat.le_of_ble_eq_true rfl, Nat.le_of_ble_eq_true rfl⟩ [.ref (o 0)] rfl rfl (Nat.le_of_ble_eq_true rfl) dS_appendNode_101 (fun rv ru hw => ?_)
            obtain ⟨rfl, rfl⟩ := hw
            show xk_Go K D 7 0 0 (tc_wB o co bg (oz + (1 + (tc_mid x).length) + j) ++ tc_wS a ca kn nu wo si de la le ro tm nd) [(0, .ref (a 0)), (1, .int (nI i)), (2, .ref (o 0)), (6, .int (nI j))] 104 [.int (nI (tc_wb wo i j)), .ref (o 0)]
            refine x_perm [2, 3, 4, 5, 6, 7, 8, 9, 10, 0, 1] (w' := tc_wS a ca kn nu wo si de la le ro tm nd ++ tc_wB o co bg (oz + (1 + (tc_mid x).length) + j)) (by decide) rfl rfl ?_
            obtain ⟨b, hb⟩ : ∃ b, x.2.2[j]? = some b := ⟨_, List.getElem?_eq_getElem (by omega)⟩
            refine x_callV C (c_B_append D o co bg (oz + (1 + (tc_mid x).length) + j) (tc_wb wo i j) (by omega)) kbS_103 kcS_103 [9, 10] [0, 1, 2, 3, 4, 5, 6, 7, 8] [8] (tc_wS a ca kn nu wo si de la le ro tm nd) rfl rfl (by decide) (by decide) (by decide) rfl 0 rfl rfl ⟨Nat.le_of_ble_eq_true rfl, Nat.le_of_ble_eq_true rfl⟩ ⟨Nat.le_of_ble_eq_true rfl, Nat.le_of_ble_eq_true rfl⟩ [] rfl rfl (Nat.le_of_ble_eq_true rfl) dS_appendNode_104 (fun rv ru hw => ?_)
            obtain ⟨rfl, rfl⟩ := hw
            show xk_Go K D 7 0 0 (tc_wS a ca kn nu wo si de la le ro tm nd ++ tc_wB o co (va_up bg (oz + (1 + (tc_mid x).length) + j) (tc_wb wo i j)) ((oz + (1 + (tc_mid x).length) + j) + 1)) [(0, .ref (a 0)), (1, .int (nI i)), (2, .ref (o 0)), (6, .int (nI j))] 107 []
            refine x_iinc (q := 3) C (nI (j + 1)) [(6, .int (nI (j + 1))), (0, .ref (a 0)), (1, .int (nI i)), (2, .ref (o 0))] dS_appendNode_107 rfl (nI_add j 1) (by decide) rfl ?_
            refine x_goto C 86 dS_appendNode_110 (by decide) ?_
            exact x_sub [1, 2, 3, 0] rfl (ih86 (j + 1) (va_up bg (oz + (1 + (tc_mid x).length) + j) (tc_wb wo i j)) (by omega) (by omega) (by rw [tc_take1 hb, ← List.append_assoc]; exact tc_apd_1 e2 (by rw [List.length_append, List.length_cons, List.length_take]; omega) (y3.2.2.1 j b hb)))
        ·
          show xk_Go K D 7 0 0 (tc_wB o co bg (oz + (1 + (tc_mid x).length) + j) ++ tc_wS a ca kn nu wo si de la le ro tm nd) [(0, .ref (a 0)), (1, .int (nI i)), (2, .ref (o 0)), (6, .int (nI j))] 93 [.int (xk_oI none), .int (nI j)]
          refine x_perm [2, 3, 4, 5, 6, 7, 8, 9, 10, 0, 1] (w' := tc_wS a ca kn nu wo si de la le ro tm nd ++ tc_wB o co bg (oz + (1 + (tc_mid x).length) + j)) (by decide) rfl rfl ?_
          refine x_icmp_ge (tgt := 113) C dS_appendNode_93 (by decide) (fun _ => ?_) (fun h => absurd (xk_none_le (by omega)) h)
          exact x_vret C T rfl dS_appendNode_113 (⟨bg, rfl, by rw [show oz + (1 + (tc_mid x).length) + j = oz + (tc_nb x).length by rw [yl, y5.2.2.2.1 (q3 ▸ g1b)]; have := y5.2.2.2.1 (q3 ▸ g1b); rw [this] at e1; simp at e1; simp; omega], (by have h0 := y5.2.2.2.1 (q3 ▸ g1b); have e2 := e2; unfold tc_nb; rw [h0] at e2 ⊢; simpa using e2)⟩)
    exact x_sub [1, 2, 3, 0] rfl (lp86 _ 0 bg (Nat.lt_succ_self _) (Nat.zero_le _) (by rw [List.take_zero, List.append_nil]; exact f1))
  refine x_iload_n C dS_appendNode_20 rfl 1 rfl ?_
  refine x_if_neN (tgt := 38) C (by omega) dS_appendNode_21 (by decide) (fun h21 => ?_) (fun h21 => ?_)
  ·
    refine x_iload_n C dS_appendNode_38 rfl 1 rfl ?_
    refine x_bipush (v := nI 7) C dS_appendNode_39 (by decide) ?_
    refine x_icmp_neN (tgt := 58) C (by omega) (by decide) dS_appendNode_41 (by decide) (fun h41 => ?_) (fun h41 => ?_)
    ·
      refine x_iload_n C dS_appendNode_58 rfl 1 rfl ?_
      refine x_bipush (v := nI 6) C dS_appendNode_59 (by decide) ?_
      refine x_icmp_eqN (tgt := 76) C (by omega) (by decide) dS_appendNode_61 (by decide) (fun h61 => ?_) (fun h61 => ?_)
      ·
        have hk689 : kn i = 6 ∨ kn i = 9 ∨ kn i = 8 := Or.inl h61
        refine x_aload_n C dS_appendNode_76 rfl 4 rfl ?_
        refine x_lload C dS_appendNode_77 0 rfl ?_
        refine x_l2i (v := nI x.2.1.toInt.toNat) C dS_appendNode_79 (tc_l2iN (by rw [y3.2.1]; exact (tc_okn_w y5 (Or.inr (q3 ▸ hk689))).1)) ?_
        have hm : tc_mid x = [x.2.1.toInt.toNat] := by unfold tc_mid; rw [if_neg (fun z => h21 (q3.trans z)), if_neg (fun z => h41 (q3.trans z)), if_pos (q3 ▸ hk689)]
        have hml := congrArg List.length hm
        rw [List.length_singleton] at hml
        refine x_callV C (c_B_append D o co (va_up ob oz (kn i)) (oz + 1) x.2.1.toInt.toNat (by omega)) kbS_103 kcS_103 [9, 10] [0, 1, 2, 3, 4, 5, 6, 7, 8] [8] (tc_wS a ca kn nu wo si de la le ro tm nd) rfl rfl (by decide) (by decide) (by decide) rfl 0 rfl rfl ⟨Nat.le_of_ble_eq_true rfl, Nat.le_of_ble_eq_true rfl⟩ ⟨Nat.le_of_ble_eq_true rfl, Nat.le_of_ble_eq_true rfl⟩ [] rfl rfl (Nat.le_of_ble_eq_true rfl) dS_appendNode_80 (fun rv ru hw => ?_)
        obtain ⟨rfl, rfl⟩ := hw
        show xk_Go K D 7 0 0 (tc_wS a ca kn nu wo si de la le ro tm nd ++ tc_wB o co (va_up (va_up ob oz (kn i)) (oz + 1) x.2.1.toInt.toNat) ((oz + 1) + 1)) [(4, .long (nu i)), (3, .int (nI (kn i))), (0, .ref (a 0)), (1, .int (nI i)), (2, .ref (o 0))] 83 []
        exact x_sub [2, 3, 4] rfl (jn83 (va_up (va_up ob oz (kn i)) (oz + 1) x.2.1.toInt.toNat) ((oz + 1) + 1) (by rw [hm]; exact tc_apd_1 f0 rfl rfl) (by omega))
      ·
        refine x_iload_n C dS_appendNode_64 rfl 1 rfl ?_
        refine x_bipush (v := nI 9) C dS_appendNode_65 (by decide) ?_
        refine x_icmp_eqN (tgt := 76) C (by omega) (by decide) dS_appendNode_67 (by decide) (fun h67 => ?_) (fun h67 => ?_)
        ·
          have hk689 : kn i = 6 ∨ kn i = 9 ∨ kn i = 8 := Or.inr (Or.inl h67)
          refine x_aload_n C dS_appendNode_76 rfl 4 rfl ?_
          refine x_lload C dS_appendNode_77 0 rfl ?_
          refine x_l2i (v := nI x.2.1.toInt.toNat) C dS_appendNode_79 (tc_l2iN (by rw [y3.2.1]; exact (tc_okn_w y5 (Or.inr (q3 ▸ hk689))).1)) ?_
          have hm : tc_mid x = [x.2.1.toInt.toNat] := by unfold tc_mid; rw [if_neg (fun z => h21 (q3.trans z)), if_neg (fun z => h41 (q3.trans z)), if_pos (q3 ▸ hk689)]
          have hml := congrArg List.length hm
          rw [List.length_singleton] at hml
          refine x_callV C (c_B_append D o co (va_up ob oz (kn i)) (oz + 1) x.2.1.toInt.toNat (by omega)) kbS_103 kcS_103 [9, 10] [0, 1, 2, 3, 4, 5, 6, 7, 8] [8] (tc_wS a ca kn nu wo si de la le ro tm nd) rfl rfl (by decide) (by decide) (by decide) rfl 0 rfl rfl ⟨Nat.le_of_ble_eq_true rfl, Nat.le_of_ble_eq_true rfl⟩ ⟨Nat.le_of_ble_eq_true rfl, Nat.le_of_ble_eq_true rfl⟩ [] rfl rfl (Nat.le_of_ble_eq_true rfl) dS_appendNode_80 (fun rv ru hw => ?_)
          obtain ⟨rfl, rfl⟩ := hw
          show xk_Go K D 7 0 0 (tc_wS a ca kn nu wo si de la le ro tm nd ++ tc_wB o co (va_up (va_up ob oz (kn i)) (oz + 1) x.2.1.toInt.toNat) ((oz + 1) + 1)) [(4, .long (nu i)), (3, .int (nI (kn i))), (0, .ref (a 0)), (1, .int (nI i)), (2, .ref (o 0))] 83 []
          exact x_sub [2, 3, 4] rfl (jn83 (va_up (va_up ob oz (kn i)) (oz + 1) x.2.1.toInt.toNat) ((oz + 1) + 1) (by rw [hm]; exact tc_apd_1 f0 rfl rfl) (by omega))
        ·
          refine x_iload_n C dS_appendNode_70 rfl 1 rfl ?_
          refine x_bipush (v := nI 8) C dS_appendNode_71 (by decide) ?_
          refine x_icmp_neN (tgt := 83) C (by omega) (by decide) dS_appendNode_73 (by decide) (fun h73 => ?_) (fun h73 => ?_)
          ·
            exact x_sub [2, 3, 4] rfl (jn83 (va_up ob oz (kn i)) (oz + 1) (by rw [tc_mid_none (fun z => h21 (q3.trans z)) (fun z => h41 (q3.trans z)) (fun z => h61 (q3.trans z)) (fun z => h67 (q3.trans z)) (fun z => h73 (q3.trans z))]; exact f0) (by rw [tc_mid_none (fun z => h21 (q3.trans z)) (fun z => h41 (q3.trans z)) (fun z => h61 (q3.trans z)) (fun z => h67 (q3.trans z)) (fun z => h73 (q3.trans z))]; rfl))
          ·
            have hk689 : kn i = 6 ∨ kn i = 9 ∨ kn i = 8 := Or.inr (Or.inr h73)
            refine x_aload_n C dS_appendNode_76 rfl 4 rfl ?_
            refine x_lload C dS_appendNode_77 0 rfl ?_
            refine x_l2i (v := nI x.2.1.toInt.toNat) C dS_appendNode_79 (tc_l2iN (by rw [y3.2.1]; exact (tc_okn_w y5 (Or.inr (q3 ▸ hk689))).1)) ?_
            have hm : tc_mid x = [x.2.1.toInt.toNat] := by unfold tc_mid; rw [if_neg (fun z => h21 (q3.trans z)), if_neg (fun z => h41 (q3.trans z)), if_pos (q3 ▸ hk689)]
            have hml := congrArg List.length hm
            rw [List.length_singleton] at hml
            refine x_callV C (c_B_append D o co (va_up ob oz (kn i)) (oz + 1) x.2.1.toInt.toNat (by omega)) kbS_103 kcS_103 [9, 10] [0, 1, 2, 3, 4, 5, 6, 7, 8] [8] (tc_wS a ca kn nu wo si de la le ro tm nd) rfl rfl (by decide) (by decide) (by decide) rfl 0 rfl rfl ⟨Nat.le_of_ble_eq_true rfl, Nat.le_of_ble_eq_true rfl⟩ ⟨Nat.le_of_ble_eq_true rfl, Nat.le_of_ble_eq_true rfl⟩ [] rfl rfl (Nat.le_of_ble_eq_true rfl) dS_appendNode_80 (fun rv ru hw => ?_)
            obtain ⟨rfl, rfl⟩ := hw
            show xk_Go K D 7 0 0 (tc_wS a ca kn nu wo si de la le ro tm nd ++ tc_wB o co (va_up (va_up ob oz (kn i)) (oz + 1) x.2.1.toInt.toNat) ((oz + 1) + 1)) [(4, .long (nu i)), (3, .int (nI (kn i))), (0, .ref (a 0)), (1, .int (nI i)), (2, .ref (o 0))] 83 []
            exact x_sub [2, 3, 4] rfl (jn83 (va_up (va_up ob oz (kn i)) (oz + 1) x.2.1.toInt.toNat) ((oz + 1) + 1) (by rw [hm]; exact tc_apd_1 f0 rfl rfl) (by omega))
    ·
      refine x_aload_n C dS_appendNode_44 rfl 4 rfl ?_
      refine x_lload C dS_appendNode_45 0 rfl ?_
      refine x_lload C dS_appendNode_47 0 rfl ?_
      refine x_callS C (c_F_signedGroups D (nu i)) kbS_116 kcS_116 [] [0, 1, 2, 3, 4, 5, 6, 7, 8, 9, 10] [] (tc_wS a ca kn nu wo si de la le ro tm nd ++ tc_wB o co (va_up ob oz (kn i)) (oz + 1)) rfl rfl (by decide) (by decide) (by decide) rfl ⟨Nat.le_of_ble_eq_true rfl, Nat.le_of_ble_eq_true rfl⟩ ⟨Nat.le_of_ble_eq_true rfl, Nat.le_of_ble_eq_true rfl⟩ [.long (nu i), .ref (o 0)] rfl rfl (Nat.le_of_ble_eq_true rfl) dS_appendNode_49 (fun rv ru hw => ?_)
      obtain ⟨rfl, rfl⟩ := hw
      show xk_Go K D 7 0 0 (tc_wS a ca kn nu wo si de la le ro tm nd ++ tc_wB o co (va_up ob oz (kn i)) (oz + 1)) [(4, .long (nu i)), (3, .int (nI (kn i))), (0, .ref (a 0)), (1, .int (nI i)), (2, .ref (o 0))] 52 [.int (nI (tc_gS (nu i).toInt)), .long (nu i), .ref (o 0)]
      have hm : tc_mid x = tc_grs (nu i) (tc_gS (nu i).toInt) := by unfold tc_mid; rw [if_neg (fun z => h21 (q3.trans z)), if_pos (q3 ▸ h41), y3.2.1]
      have hml := congrArg List.length hm
      rw [tc_grs_len] at hml
      have hg := tc_gS_le (nu i).toInt
      refine x_callV C (c_B_appendGroups D o co (va_up ob oz (kn i)) (oz + 1) (nu i) (tc_gS (nu i).toInt) (by omega) (by omega)) kbS_112 kcS_112 [9, 10] [0, 1, 2, 3, 4, 5, 6, 7, 8] [8] (tc_wS a ca kn nu wo si de la le ro tm nd) rfl rfl (by decide) (by decide) (by decide) rfl 0 rfl rfl ⟨Nat.le_of_ble_eq_true rfl, Nat.le_of_ble_eq_true rfl⟩ ⟨Nat.le_of_ble_eq_true rfl, Nat.le_of_ble_eq_true rfl⟩ [] rfl rfl (Nat.le_of_ble_eq_true rfl) dS_appendNode_52 (fun rv ru hw => ?_)
      obtain ⟨bgm, rfl, rfl, g1m, g2m⟩ := hw
      show xk_Go K D 7 0 0 (tc_wS a ca kn nu wo si de la le ro tm nd ++ tc_wB o co bgm ((oz + 1) + (tc_gS (nu i).toInt))) [(4, .long (nu i)), (3, .int (nI (kn i))), (0, .ref (a 0)), (1, .int (nI i)), (2, .ref (o 0))] 55 []
      refine x_goto C 83 dS_appendNode_55 (by decide) ?_
      exact x_sub [2, 3, 4] rfl (jn83 bgm ((oz + 1) + (tc_gS (nu i).toInt)) (by rw [hm]; exact tc_apd_g f0 rfl g1m g2m) (by omega))
  ·
    obtain ⟨v, hv, hv2, hvx⟩ : ∃ v, nu i = lN v ∧ v ≤ 200 ∧ v = x.2.1.toInt.toNat := ⟨_, by rw [y3.2.1]; exact (tc_okn_w y5 (Or.inl (q3 ▸ h21))).1, (tc_okn_w y5 (Or.inl (q3 ▸ h21))).2, rfl⟩
    rw [hv]
    have hg := tc_gU_le v
    refine x_aload_n C dS_appendNode_24 rfl 4 rfl ?_
    refine x_lload C dS_appendNode_25 0 rfl ?_
    refine x_lload C dS_appendNode_27 0 rfl ?_
    refine x_callS C (c_F_unsignedGroups D v (by omega)) kbS_108 kcS_108 [] [0, 1, 2, 3, 4, 5, 6, 7, 8, 9, 10] [] (tc_wS a ca kn nu wo si de la le ro tm nd ++ tc_wB o co (va_up ob oz (kn i)) (oz + 1)) rfl rfl (by decide) (by decide) (by decide) rfl ⟨Nat.le_of_ble_eq_true rfl, Nat.le_of_ble_eq_true rfl⟩ ⟨Nat.le_of_ble_eq_true rfl, Nat.le_of_ble_eq_true rfl⟩ [.long (lN v), .ref (o 0)] rfl rfl (Nat.le_of_ble_eq_true rfl) dS_appendNode_29 (fun rv ru hw => ?_)
    obtain ⟨rfl, rfl⟩ := hw
    show xk_Go K D 7 0 0 (tc_wS a ca kn nu wo si de la le ro tm nd ++ tc_wB o co (va_up ob oz (kn i)) (oz + 1)) [(4, .long (lN v)), (3, .int (nI (kn i))), (0, .ref (a 0)), (1, .int (nI i)), (2, .ref (o 0))] 32 [.int (nI (tc_gU v)), .long (lN v), .ref (o 0)]
    have hm : tc_mid x = tc_grs (lN v) (tc_gU v) := by unfold tc_mid; rw [if_pos (q3 ▸ h21), ← hvx, ← y3.2.1, hv]
    have hml := congrArg List.length hm
    rw [tc_grs_len] at hml
    refine x_callV C (c_B_appendGroups D o co (va_up ob oz (kn i)) (oz + 1) (lN v) (tc_gU v) (by omega) (by omega)) kbS_112 kcS_112 [9, 10] [0, 1, 2, 3, 4, 5, 6, 7, 8] [8] (tc_wS a ca kn nu wo si de la le ro tm nd) rfl rfl (by decide) (by decide) (by decide) rfl 0 rfl rfl ⟨Nat.le_of_ble_eq_true rfl, Nat.le_of_ble_eq_true rfl⟩ ⟨Nat.le_of_ble_eq_true rfl, Nat.le_of_ble_eq_true rfl⟩ [] rfl rfl (Nat.le_of_ble_eq_true rfl) dS_appendNode_32 (fun rv ru hw => ?_)
    obtain ⟨bgm, rfl, rfl, g1m, g2m⟩ := hw
    show xk_Go K D 7 0 0 (tc_wS a ca kn nu wo si de la le ro tm nd ++ tc_wB o co bgm ((oz + 1) + (tc_gU v))) [(4, .long (lN v)), (3, .int (nI (kn i))), (0, .ref (a 0)), (1, .int (nI i)), (2, .ref (o 0))] 35 []
    refine x_goto C 83 dS_appendNode_35 (by decide) ?_
    exact x_sub [2, 3, 4] rfl (jn83 bgm ((oz + 1) + (tc_gU v)) (by rw [hm]; exact tc_apd_g f0 rfl g1m g2m) (by omega))
