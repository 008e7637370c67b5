set_option maxHeartbeats 4000000 in
set_option maxRecDepth 100000 in
/-- adopt -/
theorem c_S_adopt (D : va_G) (a : Nat → Nat) (ca : Nat → ClassId) (kn : Nat → Nat) (nu : Nat → Int64) (wo : Nat → Int64) (si : Nat → Nat) (de : Nat → Nat) (la : Nat → Nat) (le : Nat → Nat) (ro : Nat → Nat) (tm : Nat) (nd : Nat) (en : Nat) (Ts : List (List tc_Nd)) (L : List tc_Nd) (y1 : tc_RS Ts (kn, nu, wo, si, de, la, le) ro tm nd) (y2 : en = nd + L.length) (y3 : en ≤ 200) (y4 : tc_okt L) (y5 : tc_raw kn nu wo nd L) : xk_Ct yS_adopt cS_adopt 3 none { frames := 3, cells := 0, slots := 0, locals := 75 } D (tc_tS ca) [.ref (a 0), .int (nI en)] (tc_wS a ca kn nu wo si de la le ro tm nd) (fun rv ru => (∃ (kg : Nat → Nat), ∃ (ug : Nat → Int64), ∃ (wg : Nat → Int64), ∃ (sg : Nat → Nat), ∃ (dg : Nat → Nat), ∃ (lg : Nat → Nat), ∃ (eg : Nat → Nat), ∃ (rg : Nat → Nat), ∃ (tg : Nat), ∃ (ng : Nat), rv = none ∧ ru = tc_wS a ca kg ug wg sg dg lg eg rg tg ng ∧ (tc_RS (L :: Ts) (kg, ug, wg, sg, dg, lg, eg) rg tg ng))) := by
  refine xk_enter (by decide) (Nat.le_of_ble_eq_true rfl) (fun K C T hin => ?_)
  obtain ⟨ytm, ytn⟩ := tc_RS_tm y1
  have yl := tc_wf_pos y4.1
  show xk_Go K D 3 0 0 (tc_wS a ca kn nu wo si de la le ro tm nd) [(0, .ref (a 0)), (1, .int (nI en))] 0 []
  refine x_iload_n C dS_adopt_0 rfl 1 rfl ?_
  refine x_sipush (v := nI 200) C dS_adopt_1 (by decide) ?_
  refine x_min C kmS_93 (by omega) (by omega) (by decide) (Nat.le_of_ble_eq_true rfl) (Nat.le_of_ble_eq_true rfl) (Nat.le_of_ble_eq_true rfl) dS_adopt_4 ?_
  rw [show min en 200 = en by omega]
  refine x_iconst (v := nI 1) C dS_adopt_7 (by decide) ?_
  refine x_isub C dS_adopt_8 ?_
  refine x_top (tc_pr_sub en) ?_
  refine x_istore_n C [(2, .int (xk_oI (tc_pr en))), (0, .ref (a 0)), (1, .int (nI en))] dS_adopt_9 rfl (by decide) rfl ?_
  have lp10 : ∀ (zc : Nat) (jn : Nat) (sg : Nat → Nat) (dg : Nat → Nat) (lg : Nat → Nat) (eg : Nat → Nat), jn < zc → (nd ≤ jn) → (jn ≤ en) → (tc_AR (kn, nu, wo, sg, dg, lg, eg) 0 (tc_cat Ts)) → (tc_AR (kn, nu, wo, sg, dg, lg, eg) jn (L.drop (jn - nd))) → xk_Go K D 3 0 0 (tc_wS a ca kn nu wo sg dg lg eg ro tm nd) [(0, .ref (a 0)), (1, .int (nI en)), (2, .int (xk_oI (tc_pr jn)))] 10 [] := by
    intro zc
    induction zc with
    | zero => intro jn sg dg lg eg hm; exact absurd hm (Nat.not_lt_zero _)
    | succ zc ih10 =>
      intro jn sg dg lg eg hm e1 e2 e3 e4
      refine x_iload_n C dS_adopt_10 rfl 2 rfl ?_
      rcases jn with _ | j
      ·
        show xk_Go K D 3 0 0 (tc_wS a ca kn nu wo sg dg lg eg ro tm nd) [(0, .ref (a 0)), (1, .int (nI en)), (2, .int (xk_oI none))] 11 [.int (xk_oI none)]
        refine x_aload_n C dS_adopt_11 rfl 0 rfl ?_
        refine x_get C fgS_41 0 rfl rfl dS_adopt_12 ?_
        refine x_icmp_lt (tgt := 29) C dS_adopt_15 (by decide) (fun _ => ?_) (fun h => absurd (xk_none_lt (by omega)) h)
        refine x_aload_n C dS_adopt_29 rfl 0 rfl ?_
        refine x_aload_n C dS_adopt_30 rfl 0 rfl ?_
        refine x_get C fgS_41 0 rfl rfl dS_adopt_31 ?_
        refine x_callV C (c_S_pushTerm D a ca kn nu wo sg dg lg eg ro tm nd nd (by omega)) kbS_84 kcS_84 [0, 1, 2, 3, 4, 5, 6, 7, 8] [] [0, 1, 2, 3, 4, 5, 6, 7] ([]) rfl rfl (by decide) (by decide) (by decide) rfl 0 rfl rfl ⟨Nat.le_of_ble_eq_true rfl, Nat.le_of_ble_eq_true rfl⟩ ⟨Nat.le_of_ble_eq_true rfl, Nat.le_of_ble_eq_true rfl⟩ [] rfl rfl (Nat.le_of_ble_eq_true rfl) dS_adopt_34 (fun rv ru hw => ?_)
        obtain ⟨rfl, rfl⟩ := hw
        show xk_Go K D 3 0 0 (tc_wS a ca kn nu wo sg dg lg eg (va_up ro tm nd) (tm + 1) nd) [(0, .ref (a 0)), (1, .int (nI en)), (2, .int (xk_oI none))] 37 []
        refine x_aload_n C dS_adopt_37 rfl 0 rfl ?_
        refine x_iload_n C dS_adopt_38 rfl 1 rfl ?_
        refine x_put C fpS_41 0 (tc_wS a ca kn nu wo sg dg lg eg (va_up ro tm nd) (tm + 1) en) rfl rfl rfl rfl (Nat.le_of_ble_eq_true rfl) dS_adopt_39 ?_
        exact x_vret C T rfl dS_adopt_42 (⟨_, _, _, _, _, _, _, _, _, _, rfl, rfl, (tc_adopt_RS y1 y2 y3 y4 (by omega) e1 e3 e4)⟩)
      ·
        show xk_Go K D 3 0 0 (tc_wS a ca kn nu wo sg dg lg eg ro tm nd) [(0, .ref (a 0)), (1, .int (nI en)), (2, .int (nI j))] 11 [.int (nI j)]
        refine x_aload_n C dS_adopt_11 rfl 0 rfl ?_
        refine x_get C fgS_41 0 rfl rfl dS_adopt_12 ?_
        refine x_icmp_ltN (tgt := 29) C (by omega) (by omega) dS_adopt_15 (by decide) (fun h15 => ?_) (fun h15 => ?_)
        ·
          refine x_aload_n C dS_adopt_29 rfl 0 rfl ?_
          refine x_aload_n C dS_adopt_30 rfl 0 rfl ?_
          refine x_get C fgS_41 0 rfl rfl dS_adopt_31 ?_
          refine x_callV C (c_S_pushTerm D a ca kn nu wo sg dg lg eg ro tm nd nd (by omega)) kbS_84 kcS_84 [0, 1, 2, 3, 4, 5, 6, 7, 8] [] [0, 1, 2, 3, 4, 5, 6, 7] ([]) rfl rfl (by decide) (by decide) (by decide) rfl 0 rfl rfl ⟨Nat.le_of_ble_eq_true rfl, Nat.le_of_ble_eq_true rfl⟩ ⟨Nat.le_of_ble_eq_true rfl, Nat.le_of_ble_eq_true rfl⟩ [] rfl rfl (Nat.le_of_ble_eq_true rfl) dS_adopt_34 (fun rv ru hw => ?_)
          obtain ⟨rfl, rfl⟩ := hw
          show xk_Go K D 3 0 0 (tc_wS a ca kn nu wo sg dg lg eg (va_up ro tm nd) (tm + 1) nd) [(0, .ref (a 0)), (1, .int (nI en)), (2, .int (nI j))] 37 []
          refine x_aload_n C dS_adopt_37 rfl 0 rfl ?_
          refine x_iload_n C dS_adopt_38 rfl 1 rfl ?_
          refine x_put C fpS_41 0 (tc_wS a ca kn nu wo sg dg lg eg (va_up ro tm nd) (tm + 1) en) rfl rfl rfl rfl (Nat.le_of_ble_eq_true rfl) dS_adopt_39 ?_
          exact x_vret C T rfl dS_adopt_42 (⟨_, _, _, _, _, _, _, _, _, _, rfl, rfl, (tc_adopt_RS y1 y2 y3 y4 (by omega) e1 e3 e4)⟩)
        ·
          refine x_aload_n C dS_adopt_18 rfl 0 rfl ?_
          refine x_iload_n C dS_adopt_19 rfl 2 rfl ?_
          obtain ⟨x, hxj⟩ : ∃ x, L[j - nd]? = some x := ⟨_, List.getElem?_eq_getElem (by omega)⟩
          obtain ⟨m, hwm⟩ := tc_wf_drop (j - nd) y4.1
          have hraw := y5 _ _ hxj
          rw [show nd + (j - nd) = j by omega] at hraw
          have hokx := y4.2.2 x (List.mem_of_getElem? hxj)
          have hk11 := hokx.1
          have hdr : L.drop (j - nd) = x :: L.drop (j + 1 - nd) := by rw [show j + 1 - nd = (j - nd) + 1 by omega]; exact tc_drop1 hxj
          have hwm2 := hwm
          rw [hdr] at hwm2
          refine x_callV C (c_S_settle D a ca kn nu wo sg dg lg eg ro tm nd j x.2.1.toInt.toNat (by omega) (by rw [hraw.1]; omega) (by rw [hraw.1, hraw.2.1]; exact tc_okn_v hokx) (by rw [hraw.1]; exact tc_ch_bd e4 hwm2.2 (by have := hwm2.1; omega) (fun y hy => y4.2.2 y (List.mem_of_mem_drop hy)) (by rw [List.length_drop]; omega))) kbS_80 kcS_80 [0, 1, 2, 3, 4, 5, 6, 7, 8] [] [0, 1, 2, 3, 4, 5, 6, 7] ([]) rfl rfl (by decide) (by decide) (by decide) rfl 0 rfl rfl ⟨Nat.le_of_ble_eq_true rfl, Nat.le_of_ble_eq_true rfl⟩ ⟨Nat.le_of_ble_eq_true rfl, Nat.le_of_ble_eq_true rfl⟩ [] rfl rfl (Nat.le_of_ble_eq_true rfl) dS_adopt_20 (fun rv ru hw => ?_)
          obtain ⟨s, dd, l, e, rfl, rfl, g1, g2, g3, g4⟩ := hw
          show xk_Go K D 3 0 0 (tc_wS a ca kn nu wo (va_up sg j s) (va_up dg j dd) (va_up lg j l) (va_up eg j e) ro tm nd) [(0, .ref (a 0)), (1, .int (nI en)), (2, .int (nI j))] 23 []
          refine x_iinc (q := 2) C (xk_oI (tc_pr j)) [(2, .int (xk_oI (tc_pr j))), (0, .ref (a 0)), (1, .int (nI en))] dS_adopt_23 rfl (tc_pr_dec j) (by decide) rfl ?_
          refine x_goto C 10 dS_adopt_26 (by decide) ?_
          exact x_sub [1, 2, 0] rfl (ih10 j (va_up sg j s) (va_up dg j dd) (va_up lg j l) (va_up eg j e) (by omega) (by omega) (by omega) (tc_AR_eq 0 0 (tc_cat_ok y1.1) (fun t ht => by have hne : (0 + t) ≠ j := (by have := y1.2.2.1; omega); exact ⟨rfl, rfl, fun _ _ => rfl, va_up_ne _ _ hne, va_up_ne _ _ hne, va_up_ne _ _ hne, va_up_ne _ _ hne⟩) e3) (tc_adopt_step (by omega) hxj y5 hwm y4.2.2 e4 g1 g2 g3 g4))
  exact x_sub [1, 2, 0] rfl (lp10 _ en si de la le (Nat.lt_succ_self _) (by omega) (Nat.le_refl _) y1.2.2.2.2.2 (by rw [show en - nd = L.length by omega, List.drop_length]; trivial))
