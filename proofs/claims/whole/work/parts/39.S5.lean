set_option maxHeartbeats 4000000 in
set_option maxRecDepth 100000 in
/-- extend -/
theorem c_S_extend (D : va_G) (a : Nat → Nat) (ca : Nat → ClassId) (kn : Nat → Nat) (nu : Nat → Int64) (wo : Nat → Int64) (si : Nat → Nat) (de : Nat → Nat) (la : Nat → Nat) (le : Nat → Nat) (ro : Nat → Nat) (tm : Nat) (nd : Nat) (pt : Int64) (n : Nat) (Ts : List (List tc_Nd)) (y1 : tc_RS Ts (kn, nu, wo, si, de, la, le) ro tm nd) (y2 : n ≤ 8) : xk_Ct yS_extend cS_extend 7 (some .boolean) { frames := 3, cells := 0, slots := 0, locals := 75 } D (tc_tS ca) [.ref (a 0), .long pt, .int (nI n)] (tc_wS a ca kn nu wo si de la le ro tm nd) (fun rv ru => (rv = some (.int (nI 0)) ∧ ru = tc_wS a ca kn nu wo si de la le ro tm nd ∧ (tc_ext pt n Ts = none)) ∨ (∃ (kg : Nat → Nat), ∃ (ug : Nat → Int64), ∃ (wg : Nat → Int64), ∃ (sg : Nat → Nat), ∃ (dg : Nat → Nat), ∃ (lg : Nat → Nat), ∃ (eg : Nat → Nat), ∃ (rg : Nat → Nat), ∃ (tg : Nat), ∃ (ng : Nat), ∃ (Tn : List (List tc_Nd)), rv = some (.int (nI 1)) ∧ ru = tc_wS a ca kg ug wg sg dg lg eg rg tg ng ∧ (tc_ext pt n Ts = some Tn) ∧ (tc_RS Tn (kg, ug, wg, sg, dg, lg, eg) rg tg ng))) := by
  refine xk_enter (by decide) (Nat.le_of_ble_eq_true rfl) (fun K C T hin => ?_)
  show xk_Go K D 7 0 0 (tc_wS a ca kn nu wo si de la le ro tm nd) [(0, .ref (a 0)), (1, .long pt), (3, .int (nI n))] 0 []
  refine x_aload_n C dS_extend_0 rfl 0 rfl ?_
  refine x_callV C (c_S_lastRoot D a ca kn nu wo si de la le ro tm nd ((tc_RS_tm y1).1) (tc_RS_rt y1)) kbS_52 kcS_52 [0, 1, 2, 3, 4, 5, 6, 7, 8] [] [0, 1, 2, 3, 4, 5, 6, 7] ([]) rfl rfl (by decide) (by decide) (by decide) rfl 0 rfl rfl ⟨Nat.le_of_ble_eq_true rfl, Nat.le_of_ble_eq_true rfl⟩ ⟨Nat.le_of_ble_eq_true rfl, Nat.le_of_ble_eq_true rfl⟩ [] rfl rfl (Nat.le_of_ble_eq_true rfl) dS_extend_1 (fun rv ru hw => ?_)
  rcases hw with ⟨rfl, rfl, g1⟩ | ⟨rfl, rfl, g1⟩
  ·
    show xk_Go K D 7 0 0 (tc_wS a ca kn nu wo si de la le ro tm nd) [(0, .ref (a 0)), (1, .long pt), (3, .int (nI n))] 4 [.int (xk_oI none)]
    refine x_istore C [(4, .int (xk_oI none)), (0, .ref (a 0)), (1, .long pt), (3, .int (nI n))] dS_extend_4 (by decide) rfl ?_
    refine x_iload C dS_extend_6 0 rfl ?_
    refine x_if_lt (tgt := 36) C dS_extend_8 (by decide) (fun _ => ?_) (fun h => absurd (by decide) h)
    refine x_iconst (v := nI 0) C dS_extend_36 (by decide) ?_
    exact x_iret C T .boolean rfl rfl dS_extend_37 (Or.inl (⟨rfl, rfl, (by rw [tc_RS_nil y1 g1]; rfl)⟩))
  ·
    show xk_Go K D 7 0 0 (tc_wS a ca kn nu wo si de la le ro tm nd) [(0, .ref (a 0)), (1, .long pt), (3, .int (nI n))] 4 [.int (nI (ro (tm - 1)))]
    obtain ⟨t, R, rfl⟩ := tc_RS_cons y1 g1
    obtain ⟨z1, z2, z3, z4, z5, z6, z7, z8, z9, z10, z11, z12⟩ := tc_top y1
    have zs : si (ro (tm - 1)) = t.length := by rw [z2]; exact z9
    obtain ⟨x, t', rfl⟩ := tc_hd z5
    obtain ⟨k1, k2, k3, k4⟩ := tc_top_hd y1
    have k11 := k4.1
    have zt := y1.1 _ List.mem_cons_self
    obtain ⟨cn, hcn⟩ : ∃ c, c = x.2.2.length := ⟨_, rfl⟩
    have k64 := k4.2.2.2.2.1
    refine x_istore C [(4, .int (nI (ro (tm - 1)))), (0, .ref (a 0)), (1, .long pt), (3, .int (nI n))] dS_extend_4 (by decide) rfl ?_
    refine x_iload C dS_extend_6 0 rfl ?_
    refine x_if_ltN (tgt := 36) C (by omega) dS_extend_8 (by decide) ?_
    refine x_aload_n C dS_extend_11 rfl 1 rfl ?_
    refine x_get C fgS_9 0 rfl rfl dS_extend_12 ?_
    refine x_iload C dS_extend_15 0 rfl ?_
    refine x_ild C 1 0 rfl rfl (by omega) (by decide) dS_extend_17 ?_
    show xk_Go K D 7 0 0 (tc_wS a ca kn nu wo si de la le ro tm nd) [(4, .int (nI (ro (tm - 1)))), (0, .ref (a 0)), (1, .long pt), (3, .int (nI n))] 18 [.int (nI (kn (ro (tm - 1))))]
    refine x_bipush (v := nI 8) C dS_extend_18 (by decide) ?_
    refine x_icmp_neN (tgt := 36) C (by omega) (by decide) dS_extend_20 (by decide) (fun h20 => ?_) (fun h20 => ?_)
    ·
      refine x_iconst (v := nI 0) C dS_extend_36 (by decide) ?_
      exact x_iret C T .boolean rfl rfl dS_extend_37 (Or.inl (⟨rfl, rfl, (tc_ext_none (Or.inl (fun q => h20 (k1.trans q))))⟩))
    ·
      have zk8 : kn (ro (tm - 1)) = 8 := h20
      have h8 : x.1 = 8 := k1 ▸ h20
      obtain rfl : t' = [] := tc_leaf zt.1 (by rw [h8]; rfl)
      refine x_iload_n C dS_extend_23 rfl 3 rfl ?_
      refine x_bipush (v := nI 64) C dS_extend_24 (by decide) ?_
      refine x_aload_n C dS_extend_26 rfl 1 rfl ?_
      refine x_iload C dS_extend_27 0 rfl ?_
      refine x_callV C (c_S_byteCount D a ca kn nu wo si de la le ro tm nd (ro (tm - 1)) cn (by omega) (by omega) (fun _ => by rw [k2, hcn]; exact k4.2.2.1 h8)) kbS_87 kcS_87 [0, 1, 2, 3, 4, 5, 6, 7, 8] [] [0, 1, 2, 3, 4, 5, 6, 7] ([]) rfl rfl (by decide) (by decide) (by decide) rfl 0 rfl rfl ⟨Nat.le_of_ble_eq_true rfl, Nat.le_of_ble_eq_true rfl⟩ ⟨Nat.le_of_ble_eq_true rfl, Nat.le_of_ble_eq_true rfl⟩ [.int (nI 64), .int (nI n)] rfl rfl (Nat.le_of_ble_eq_true rfl) dS_extend_29 (fun rv ru hw => ?_)
      rcases hw with ⟨rfl, rfl, g1b⟩ | ⟨rfl, rfl, g1b⟩
      ·
        show xk_Go K D 7 0 0 (tc_wS a ca kn nu wo si de la le ro tm nd) [(4, .int (nI (ro (tm - 1)))), (0, .ref (a 0)), (1, .long pt), (3, .int (nI n))] 32 [.int (nI cn), .int (nI 64), .int (nI n)]
        refine x_isubN C (by omega) dS_extend_32 ?_
        refine x_icmp_leN (tgt := 38) C (by omega) (by omega) dS_extend_33 (by decide) (fun h33 => ?_) (fun h33 => ?_)
        ·
          refine x_aload_n C dS_extend_38 rfl 1 rfl ?_
          refine x_iload C dS_extend_39 0 rfl ?_
          refine x_callV C (c_S_byteCount D a ca kn nu wo si de la le ro tm nd (ro (tm - 1)) cn (by omega) (by omega) (fun _ => by rw [k2, hcn]; exact k4.2.2.1 h8)) kbS_87 kcS_87 [0, 1, 2, 3, 4, 5, 6, 7, 8] [] [0, 1, 2, 3, 4, 5, 6, 7] ([]) rfl rfl (by decide) (by decide) (by decide) rfl 0 rfl rfl ⟨Nat.le_of_ble_eq_true rfl, Nat.le_of_ble_eq_true rfl⟩ ⟨Nat.le_of_ble_eq_true rfl, Nat.le_of_ble_eq_true rfl⟩ [] rfl rfl (Nat.le_of_ble_eq_true rfl) dS_extend_41 (fun rv ru hw => ?_)
          rcases hw with ⟨rfl, rfl, g1b⟩ | ⟨rfl, rfl, g1b⟩
          ·
            show xk_Go K D 7 0 0 (tc_wS a ca kn nu wo si de la le ro tm nd) [(4, .int (nI (ro (tm - 1)))), (0, .ref (a 0)), (1, .long pt), (3, .int (nI n))] 44 [.int (nI cn)]
            refine x_istore C [(5, .int (nI cn)), (4, .int (nI (ro (tm - 1)))), (0, .ref (a 0)), (1, .long pt), (3, .int (nI n))] dS_extend_44 (by decide) rfl ?_
            refine x_iconst (v := nI 0) C dS_extend_46 (by decide) ?_
            refine x_istore C [(6, .int (nI 0)), (5, .int (nI cn)), (4, .int (nI (ro (tm - 1)))), (0, .ref (a 0)), (1, .long pt), (3, .int (nI n))] dS_extend_47 (by decide) rfl ?_
            have lp49 : ∀ (zc : Nat) (j : Nat) (wg : Nat → Int64), (n - j) < zc → (j ≤ n) → (∀ q t, t < 64 → tc_wb wg q t = if q = ro (tm - 1) ∧ cn ≤ t ∧ t < cn + j then tc_by pt (n - 1 - (t - cn)) else tc_wb wo q t) → xk_Go K D 7 0 0 (tc_wS a ca kn nu wg si de la le ro tm nd) [(0, .ref (a 0)), (1, .long pt), (3, .int (nI n)), (4, .int (nI (ro (tm - 1)))), (5, .int (nI cn)), (6, .int (nI j))] 49 [] := by
              intro zc
              induction zc with
              | zero => intro j wg hm; exact absurd hm (Nat.not_lt_zero _)
              | succ zc ih49 =>
                intro j wg hm e1 e2
                refine x_iload C dS_extend_49 5 rfl ?_
                refine x_iload_n C dS_extend_51 rfl 2 rfl ?_
                refine x_icmp_geN (tgt := 82) C (by omega) (by omega) dS_extend_52 (by decide) (fun h52 => ?_) (fun h52 => ?_)
                ·
                  refine x_aload_n C dS_extend_82 rfl 0 rfl ?_
                  refine x_get C fgS_15 0 rfl rfl dS_extend_83 ?_
                  refine x_iload C dS_extend_86 3 rfl ?_
                  refine x_iload C dS_extend_88 4 rfl ?_
                  refine x_iload_n C dS_extend_90 rfl 2 rfl ?_
                  refine x_iaddN C dS_extend_91 ?_
                  refine x_i2l (v := lN (cn + n)) C dS_extend_92 (nI_l (by omega)) ?_
                  refine x_lst C 2 1 (tc_wS a ca kn (vp_updL nu (ro (tm - 1)) (lN (cn + n))) wg si de la le ro tm nd) rfl rfl rfl rfl (by omega) (by decide) dS_extend_93 ?_
                  refine x_aload_n C dS_extend_94 rfl 0 rfl ?_
                  refine x_iload C dS_extend_95 3 rfl ?_
                  refine x_callV C (c_S_settle D a ca kn (vp_updL nu (ro (tm - 1)) (lN (cn + n))) wg si de la le ro tm nd (ro (tm - 1)) (cn + n) (by omega) (by simp [zk8]) (fun _ => ⟨pk_uLs, by omega⟩) (fun q hq => by rw [tc_chs_0 (by rw [zk8]; rfl)] at hq; cases hq)) kbS_80 kcS_80 [0, 1, 2, 3, 4, 5, 6, 7, 8] [] [0, 1, 2, 3, 4, 5, 6, 7] ([]) rfl rfl (by decide) (by decide) (by decide) rfl 0 rfl rfl ⟨Nat.le_of_ble_eq_true rfl, Nat.le_of_ble_eq_true rfl⟩ ⟨Nat.le_of_ble_eq_true rfl, Nat.le_of_ble_eq_true rfl⟩ [] rfl rfl (Nat.le_of_ble_eq_true rfl) dS_extend_97 (fun rv ru hw => ?_)
                  obtain ⟨s, dd, l, e, rfl, rfl, g1, g2, g3, g4⟩ := hw
                  show xk_Go K D 7 0 0 (tc_wS a ca kn (vp_updL nu (ro (tm - 1)) (lN (cn + n))) wg (va_up si (ro (tm - 1)) s) (va_up de (ro (tm - 1)) dd) (va_up la (ro (tm - 1)) l) (va_up le (ro (tm - 1)) e) ro tm nd) [(0, .ref (a 0)), (1, .long pt), (3, .int (nI n)), (4, .int (nI (ro (tm - 1)))), (5, .int (nI cn)), (6, .int (nI j))] 100 []
                  rw [zk8, pk_uLs, tc_chs_0 rfl] at g1 g2 g3
                  rw [zk8, pk_uLs, tc_chs_0 rfl] at g4
                  refine x_iconst (v := nI 1) C dS_extend_100 (by decide) ?_
                  have ejn : j = n := by omega
                  rw [ejn] at e2
                  exact x_iret C T .boolean rfl rfl dS_extend_101 (Or.inr (⟨_, _, _, _, _, _, _, _, _, _, ([(8, lN (x.2.2.length + n), x.2.2 ++ tc_bts pt n)] :: R), rfl, rfl, (tc_ext_some h8 (by omega)), (tc_ext_RS y1 h8 hcn (by omega) e2 g1 g2 g3 g4)⟩))
                ·
                  refine x_aload_n C dS_extend_55 rfl 0 rfl ?_
                  refine x_iload C dS_extend_56 3 rfl ?_
                  refine x_iload C dS_extend_58 4 rfl ?_
                  refine x_iload C dS_extend_60 5 rfl ?_
                  refine x_iaddN C dS_extend_62 ?_
                  refine x_lload_n C dS_extend_63 rfl 1 rfl ?_
                  refine x_iload_n C dS_extend_64 rfl 2 rfl ?_
                  refine x_iconst (v := nI 1) C dS_extend_65 (by decide) ?_
                  refine x_isubN C (by omega) dS_extend_66 ?_
                  refine x_iload C dS_extend_67 5 rfl ?_
                  refine x_isubN C (by omega) dS_extend_69 ?_
                  refine x_callS C (c_F_byteOf D pt (n - 1 - j) (by omega)) kbS_59 kcS_59 [] [0, 1, 2, 3, 4, 5, 6, 7, 8] [] (tc_wS a ca kn nu wg si de la le ro tm nd) rfl rfl (by decide) (by decide) (by decide) rfl ⟨Nat.le_of_ble_eq_true rfl, Nat.le_of_ble_eq_true rfl⟩ ⟨Nat.le_of_ble_eq_true rfl, Nat.le_of_ble_eq_true rfl⟩ [.int (nI (cn + j)), .int (nI (ro (tm - 1))), .ref (a 0)] rfl rfl (Nat.le_of_ble_eq_true rfl) dS_extend_70 (fun rv ru hw => ?_)
                  obtain ⟨rfl, rfl⟩ := hw
                  show xk_Go K D 7 0 0 (tc_wS a ca kn nu wg si de la le ro tm nd) [(0, .ref (a 0)), (1, .long pt), (3, .int (nI n)), (4, .int (nI (ro (tm - 1)))), (5, .int (nI cn)), (6, .int (nI j))] 73 [.int (nI (tc_by pt (n - 1 - j))), .int (nI (cn + j)), .int (nI (ro (tm - 1))), .ref (a 0)]
                  refine x_callV C (c_S_setByte D a ca kn nu wg si de la le ro tm nd (ro (tm - 1)) (cn + j) (tc_by pt (n - 1 - j)) (by omega) (by omega) (tc_by_lt _ _)) kbS_90 kcS_90 [0, 1, 2, 3, 4, 5, 6, 7, 8] [] [0, 1, 2, 3, 4, 5, 6, 7] ([]) rfl rfl (by decide) (by decide) (by decide) rfl 0 rfl rfl ⟨Nat.le_of_ble_eq_true rfl, Nat.le_of_ble_eq_true rfl⟩ ⟨Nat.le_of_ble_eq_true rfl, Nat.le_of_ble_eq_true rfl⟩ [] rfl rfl (Nat.le_of_ble_eq_true rfl) dS_extend_73 (fun rv ru hw => ?_)
                  obtain ⟨wh, rfl, rfl, gs⟩ := hw
                  show xk_Go K D 7 0 0 (tc_wS a ca kn nu wh si de la le ro tm nd) [(0, .ref (a 0)), (1, .long pt), (3, .int (nI n)), (4, .int (nI (ro (tm - 1)))), (5, .int (nI cn)), (6, .int (nI j))] 76 []
                  refine x_iinc (q := 5) C (nI (j + 1)) [(6, .int (nI (j + 1))), (0, .ref (a 0)), (1, .long pt), (3, .int (nI n)), (4, .int (nI (ro (tm - 1)))), (5, .int (nI cn))] dS_extend_76 rfl (nI_add j 1) (by decide) rfl ?_
                  refine x_goto C 49 dS_extend_79 (by decide) ?_
                  exact x_sub [1, 2, 3, 4, 5, 0] rfl (ih49 (j + 1) wh (by omega) (by omega) (tc_ext_step e2 gs))
            exact x_sub [3, 4, 5, 2, 1, 0] rfl (lp49 _ 0 wo (Nat.lt_succ_self _) (Nat.zero_le _) (fun q t ht => by rw [if_neg (fun z => by omega)]))
          ·
            show xk_Go K D 7 0 0 (tc_wS a ca kn nu wo si de la le ro tm nd) [(4, .int (nI (ro (tm - 1)))), (0, .ref (a 0)), (1, .long pt), (3, .int (nI n))] 44 [.int (xk_oI none)]
            exact absurd zk8 g1b
        ·
          refine x_iconst (v := nI 0) C dS_extend_36 (by decide) ?_
          exact x_iret C T .boolean rfl rfl dS_extend_37 (Or.inl (⟨rfl, rfl, (tc_ext_none (Or.inr (by omega)))⟩))
      ·
        show xk_Go K D 7 0 0 (tc_wS a ca kn nu wo si de la le ro tm nd) [(4, .int (nI (ro (tm - 1)))), (0, .ref (a 0)), (1, .long pt), (3, .int (nI n))] 32 [.int (xk_oI none), .int (nI 64), .int (nI n)]
        exact absurd zk8 g1b
