set_option maxHeartbeats 4000000 in
set_option maxRecDepth 100000 in
/-- write -/
theorem c_X_write (D : va_G) (xx : Nat → Nat) (cxx : Nat → ClassId) (r : Nat → Nat) (cr : Nat → ClassId) (g : Nat → Nat) (cg : Nat → ClassId) (o : Nat → Nat) (co : Nat → ClassId) (a : Nat → Nat) (ca : Nat → ClassId) (wl : Nat → Nat) (wm : Nat → Nat) (wt : Nat) (nx : Nat) (ap : Nat) (fa : Nat) (pl : Option Nat) (gb : Nat → Nat) (gz : Nat) (ob : Nat → Nat) (oz : Nat) (kn : Nat → Nat) (nu : Nat → Int64) (wo : Nat → Int64) (si : Nat → Nat) (de : Nat → Nat) (la : Nat → Nat) (le : Nat → Nat) (ro : Nat → Nat) (tm : Nat) (nd : Nat) (Ts : List (List tc_Nd)) (y1 : tc_RS Ts (kn, nu, wo, si, de, la, le) ro tm nd) (y2 : oz ≤ 4096) : xk_Ct yX_write cX_write 4 (some .int) { frames := 3, cells := 0, slots := 0, locals := 72 } D (tc_tX cxx ++ (tc_tR cr ++ (tc_tB cg ++ (tc_tB co ++ tc_tS ca)))) [.ref (xx 0)] (tc_wX xx cxx (a 0) (o 0) (g 0) (r 0) ++ (tc_wR r cr (g 0) (a 0) wl wm wt nx ap fa pl ++ (tc_wB g cg gb gz ++ (tc_wB o co ob oz ++ tc_wS a ca kn nu wo si de la le ro tm nd)))) (fun rv ru => (rv = some (.int (xk_oI none)) ∧ ru = tc_wX xx cxx (a 0) (o 0) (g 0) (r 0) ++ (tc_wR r cr (g 0) (a 0) wl wm wt nx ap fa pl ++ (tc_wB g cg gb gz ++ (tc_wB o co ob oz ++ tc_wS a ca kn nu wo si de la le ro tm nd))) ∧ (tc_wr Ts oz = none)) ∨ (∃ (bg : Nat → Nat), ∃ (L : List Nat), rv = some (.int (nI (oz + L.length))) ∧ ru = tc_wX xx cxx (a 0) (o 0) (g 0) (r 0) ++ (tc_wR r cr (g 0) (a 0) wl wm wt nx ap fa pl ++ (tc_wB g cg gb gz ++ (tc_wB o co bg (oz + L.length) ++ tc_wS a ca kn nu wo si de la le ro tm nd))) ∧ (tc_wr Ts oz = some L) ∧ (tc_apd ob oz bg L))) := by
  refine xk_enter (by decide) (Nat.le_of_ble_eq_true rfl) (fun K C T hin => ?_)
  show xk_Go K D 4 0 0 (tc_wX xx cxx (a 0) (o 0) (g 0) (r 0) ++ (tc_wR r cr (g 0) (a 0) wl wm wt nx ap fa pl ++ (tc_wB g cg gb gz ++ (tc_wB o co ob oz ++ tc_wS a ca kn nu wo si de la le ro tm nd)))) [(0, .ref (xx 0))] 0 []
  refine x_aload_n C dX_write_0 rfl 0 rfl ?_
  refine x_get C fgX_10 0 rfl rfl dX_write_1 ?_
  refine x_callV C (c_S_lastRoot D a ca kn nu wo si de la le ro tm nd ((tc_RS_tm y1).1) (tc_RS_rt y1)) kbX_86 kcX_86 [8, 9, 10, 11, 12, 13, 14, 15, 16] [0, 1, 2, 3, 4, 5, 6, 7] [4, 5, 6, 7, 8, 9, 10, 11] (tc_wX xx cxx (a 0) (o 0) (g 0) (r 0) ++ (tc_wR r cr (g 0) (a 0) wl wm wt nx ap fa pl ++ (tc_wB g cg gb gz ++ tc_wB o co ob oz))) rfl rfl (by decide) (by decide) (by decide) rfl 0 rfl rfl ⟨Nat.le_of_ble_eq_true rfl, Nat.le_of_ble_eq_true rfl⟩ ⟨Nat.le_of_ble_eq_true rfl, Nat.le_of_ble_eq_true rfl⟩ [] rfl rfl (Nat.le_of_ble_eq_true rfl) dX_write_4 (fun rv ru hw => ?_)
  rcases hw with ⟨rfl, rfl, g1⟩ | ⟨rfl, rfl, g1⟩
  ·
    show xk_Go K D 4 0 0 (tc_wX xx cxx (a 0) (o 0) (g 0) (r 0) ++ (tc_wR r cr (g 0) (a 0) wl wm wt nx ap fa pl ++ (tc_wB g cg gb gz ++ (tc_wB o co ob oz ++ tc_wS a ca kn nu wo si de la le ro tm nd)))) [(0, .ref (xx 0))] 7 [.int (xk_oI none)]
    refine x_istore_n C [(1, .int (xk_oI none)), (0, .ref (xx 0))] dX_write_7 rfl (by decide) rfl ?_
    refine x_iload_n C dX_write_8 rfl 0 rfl ?_
    refine x_if_lt (tgt := 31) C dX_write_9 (by decide) (fun _ => ?_) (fun h => absurd (by decide) h)
    refine x_iconst (v := xk_oI none) C dX_write_31 (by decide) ?_
    exact x_iret C T .int rfl rfl dX_write_32 (Or.inl (⟨rfl, rfl, (by rw [tc_RS_nil y1 g1]; rfl)⟩))
  ·
    show xk_Go K D 4 0 0 (tc_wX xx cxx (a 0) (o 0) (g 0) (r 0) ++ (tc_wR r cr (g 0) (a 0) wl wm wt nx ap fa pl ++ (tc_wB g cg gb gz ++ (tc_wB o co ob oz ++ tc_wS a ca kn nu wo si de la le ro tm nd)))) [(0, .ref (xx 0))] 7 [.int (nI (ro (tm - 1)))]
    obtain ⟨t, R, rfl⟩ := tc_RS_cons y1 g1
    obtain ⟨z1, z2, z3, z4, z5, z6, z7, z8, z9, z10, z11, z12⟩ := tc_top y1
    have zs : si (ro (tm - 1)) = t.length := by rw [z2]; exact z9
    have zt := y1.1 t List.mem_cons_self
    have zl : le (ro (tm - 1)) = tc_ln t := by rw [z2]; exact z12
    have zlb := tc_ln_tb zt
    have zle := tc_ev_sum_n t zt.2.2
    rw [tc_tb_sum t zt.2.2] at zle
    refine x_istore_n C [(1, .int (nI (ro (tm - 1)))), (0, .ref (xx 0))] dX_write_7 rfl (by decide) rfl ?_
    refine x_iload_n C dX_write_8 rfl 0 rfl ?_
    refine x_if_ltN (tgt := 31) C (by omega) dX_write_9 (by decide) ?_
    refine x_aload_n C dX_write_12 rfl 1 rfl ?_
    refine x_get C fgX_10 0 rfl rfl dX_write_13 ?_
    refine x_get C fgX_89 8 rfl rfl dX_write_16 ?_
    refine x_iload_n C dX_write_19 rfl 0 rfl ?_
    refine x_ild C 15 10 rfl rfl (by omega) (by decide) dX_write_20 ?_
    show xk_Go K D 4 0 0 (tc_wX xx cxx (a 0) (o 0) (g 0) (r 0) ++ (tc_wR r cr (g 0) (a 0) wl wm wt nx ap fa pl ++ (tc_wB g cg gb gz ++ (tc_wB o co ob oz ++ tc_wS a ca kn nu wo si de la le ro tm nd)))) [(1, .int (nI (ro (tm - 1)))), (0, .ref (xx 0))] 21 [.int (nI (le (ro (tm - 1))))]
    refine x_aload_n C dX_write_21 rfl 1 rfl ?_
    refine x_get C fgX_19 0 rfl rfl dX_write_22 ?_
    refine x_callV C (c_B_room D o co ob oz (by omega)) kbX_93 kcX_93 [6, 7] [0, 1, 2, 3, 4, 5, 8, 9, 10, 11, 12, 13, 14, 15, 16] [3] (tc_wX xx cxx (a 0) (o 0) (g 0) (r 0) ++ (tc_wR r cr (g 0) (a 0) wl wm wt nx ap fa pl ++ (tc_wB g cg gb gz ++ tc_wS a ca kn nu wo si de la le ro tm nd))) rfl rfl (by decide) (by decide) (by decide) rfl 0 rfl rfl ⟨Nat.le_of_ble_eq_true rfl, Nat.le_of_ble_eq_true rfl⟩ ⟨Nat.le_of_ble_eq_true rfl, Nat.le_of_ble_eq_true rfl⟩ [.int (nI (le (ro (tm - 1))))] rfl rfl (Nat.le_of_ble_eq_true rfl) dX_write_25 (fun rv ru hw => ?_)
    obtain ⟨rfl, rfl⟩ := hw
    show xk_Go K D 4 0 0 (tc_wX xx cxx (a 0) (o 0) (g 0) (r 0) ++ (tc_wR r cr (g 0) (a 0) wl wm wt nx ap fa pl ++ (tc_wB g cg gb gz ++ (tc_wS a ca kn nu wo si de la le ro tm nd ++ tc_wB o co ob oz)))) [(1, .int (nI (ro (tm - 1)))), (0, .ref (xx 0))] 28 [.int (nI (4096 - oz)), .int (nI (le (ro (tm - 1))))]
    refine x_perm [0, 1, 2, 3, 4, 5, 15, 16, 6, 7, 8, 9, 10, 11, 12, 13, 14] (w' := tc_wX xx cxx (a 0) (o 0) (g 0) (r 0) ++ (tc_wR r cr (g 0) (a 0) wl wm wt nx ap fa pl ++ (tc_wB g cg gb gz ++ (tc_wB o co ob oz ++ tc_wS a ca kn nu wo si de la le ro tm nd)))) (by decide) rfl rfl ?_
    refine x_icmp_leN (tgt := 33) C (by omega) (by omega) dX_write_28 (by decide) (fun h28 => ?_) (fun h28 => ?_)
    ·
      refine x_iload_n C dX_write_33 rfl 0 rfl ?_
      refine x_aload_n C dX_write_34 rfl 1 rfl ?_
      refine x_get C fgX_10 0 rfl rfl dX_write_35 ?_
      refine x_get C fgX_96 8 rfl rfl dX_write_38 ?_
      refine x_iload_n C dX_write_41 rfl 0 rfl ?_
      refine x_ild C 12 7 rfl rfl (by omega) (by decide) dX_write_42 ?_
      show xk_Go K D 4 0 0 (tc_wX xx cxx (a 0) (o 0) (g 0) (r 0) ++ (tc_wR r cr (g 0) (a 0) wl wm wt nx ap fa pl ++ (tc_wB g cg gb gz ++ (tc_wB o co ob oz ++ tc_wS a ca kn nu wo si de la le ro tm nd)))) [(1, .int (nI (ro (tm - 1)))), (0, .ref (xx 0))] 43 [.int (nI (si (ro (tm - 1)))), .int (nI (ro (tm - 1)))]
      refine x_iaddN C dX_write_43 ?_
      refine x_istore_n C [(2, .int (nI (ro (tm - 1) + (si (ro (tm - 1)))))), (1, .int (nI (ro (tm - 1)))), (0, .ref (xx 0))] dX_write_44 rfl (by decide) rfl ?_
      refine x_iload_n C dX_write_45 rfl 1 rfl ?_
      refine x_istore_n C [(3, .int (nI (ro (tm - 1)))), (2, .int (nI (ro (tm - 1) + (si (ro (tm - 1)))))), (1, .int (nI (ro (tm - 1)))), (0, .ref (xx 0))] dX_write_46 rfl (by decide) rfl ?_
      have lp47 : ∀ (zc : Nat) (q : Nat) (bg : Nat → Nat) (s1 : Nat), (t.length - q) < zc → (q ≤ t.length) → (tc_apd ob oz bg (tc_tb (t.take q))) → (s1 = oz + (tc_tb (t.take q)).length) → xk_Go K D 4 0 0 (tc_wX xx cxx (a 0) (o 0) (g 0) (r 0) ++ (tc_wR r cr (g 0) (a 0) wl wm wt nx ap fa pl ++ (tc_wB g cg gb gz ++ (tc_wB o co bg s1 ++ tc_wS a ca kn nu wo si de la le ro tm nd)))) [(0, .ref (xx 0)), (1, .int (nI (ro (tm - 1)))), (2, .int (nI (ro (tm - 1) + (si (ro (tm - 1)))))), (3, .int (nI (ro (tm - 1) + q)))] 47 [] := by
        intro zc
        induction zc with
        | zero => intro q bg s1 hm; exact absurd hm (Nat.not_lt_zero _)
        | succ zc ih47 =>
          intro q bg s1 hm e1 e2 e3
          refine x_iload_n C dX_write_47 rfl 3 rfl ?_
          refine x_iload_n C dX_write_48 rfl 2 rfl ?_
          refine x_icmp_geN (tgt := 77) C (by omega) (by omega) dX_write_49 (by decide) (fun h49 => ?_) (fun h49 => ?_)
          ·
            refine x_aload_n C dX_write_77 rfl 0 rfl ?_
            refine x_get C fgX_19 0 rfl rfl dX_write_78 ?_
            refine x_get C fgX_103 6 rfl rfl dX_write_81 ?_
            have eq : q = t.length := by omega
            rw [eq, List.take_length] at e2 e3
            subst e3
            exact x_iret C T .int rfl rfl dX_write_84 (Or.inr (⟨bg, (tc_tb t), rfl, rfl, (if_pos (by omega)), e2⟩))
          ·
            refine x_iload_n C dX_write_52 rfl 3 rfl ?_
            refine x_sipush (v := nI 200) C dX_write_53 (by decide) ?_
            refine x_icmp_geN (tgt := 77) C (by omega) (by decide) dX_write_56 (by decide) (fun h56 => ?_) (fun h56 => ?_)
            ·
              exact absurd h56 (by omega)
            ·
              refine x_aload_n C dX_write_59 rfl 0 rfl ?_
              refine x_get C fgX_10 0 rfl rfl dX_write_60 ?_
              refine x_iload_n C dX_write_63 rfl 3 rfl ?_
              refine x_aload_n C dX_write_64 rfl 0 rfl ?_
              refine x_get C fgX_19 0 rfl rfl dX_write_65 ?_
              obtain ⟨x, hxq⟩ : ∃ x, t[q]? = some x := ⟨_, List.getElem?_eq_getElem (by omega)⟩
              have hxo := zt.2.2 x (List.mem_of_getElem? hxq)
              have hq1 := tc_tb_le (t := t) (q + 1)
              rw [tc_tb_take hxq, List.length_append] at hq1
              refine x_callV C (c_S_appendNode D a ca o co kn nu wo si de la le ro tm nd bg s1 (ro (tm - 1) + q) x _ (by omega) (by rw [z2]; exact tc_at_k z8 hxq) hxo (by omega)) kbX_99 kcX_99 [8, 9, 10, 11, 12, 13, 14, 15, 16, 6, 7] [0, 1, 2, 3, 4, 5] [4, 5, 6, 7, 8, 9, 10, 11, 3] (tc_wX xx cxx (a 0) (o 0) (g 0) (r 0) ++ (tc_wR r cr (g 0) (a 0) wl wm wt nx ap fa pl ++ tc_wB g cg gb gz)) rfl rfl (by decide) (by decide) (by decide) rfl 0 rfl rfl ⟨Nat.le_of_ble_eq_true rfl, Nat.le_of_ble_eq_true rfl⟩ ⟨Nat.le_of_ble_eq_true rfl, Nat.le_of_ble_eq_true rfl⟩ [] rfl rfl (Nat.le_of_ble_eq_true rfl) dX_write_68 (fun rv ru hw => ?_)
              obtain ⟨bgn, rfl, rfl, g1n⟩ := hw
              show xk_Go K D 4 0 0 (tc_wX xx cxx (a 0) (o 0) (g 0) (r 0) ++ (tc_wR r cr (g 0) (a 0) wl wm wt nx ap fa pl ++ (tc_wB g cg gb gz ++ (tc_wS a ca kn nu wo si de la le ro tm nd ++ tc_wB o co bgn (s1 + (tc_nb x).length))))) [(0, .ref (xx 0)), (1, .int (nI (ro (tm - 1)))), (2, .int (nI (ro (tm - 1) + (si (ro (tm - 1)))))), (3, .int (nI (ro (tm - 1) + q)))] 71 []
              refine x_perm [0, 1, 2, 3, 4, 5, 15, 16, 6, 7, 8, 9, 10, 11, 12, 13, 14] (w' := tc_wX xx cxx (a 0) (o 0) (g 0) (r 0) ++ (tc_wR r cr (g 0) (a 0) wl wm wt nx ap fa pl ++ (tc_wB g cg gb gz ++ (tc_wB o co bgn (s1 + (tc_nb x).length) ++ tc_wS a ca kn nu wo si de la le ro tm nd)))) (by decide) rfl rfl ?_
              refine x_iinc (q := 3) C (nI (ro (tm - 1) + q + 1)) [(3, .int (nI (ro (tm - 1) + q + 1))), (0, .ref (xx 0)), (1, .int (nI (ro (tm - 1)))), (2, .int (nI (ro (tm - 1) + (si (ro (tm - 1))))))] dX_write_71 rfl (nI_add (ro (tm - 1) + q) 1) (by decide) rfl ?_
              refine x_goto C 47 dX_write_74 (by decide) ?_
              exact x_sub [1, 2, 3, 0] rfl (ih47 (q + 1) bgn (s1 + (tc_nb x).length) (by omega) (by omega) (by rw [tc_tb_take hxq]; exact tc_apd_app e2 e3 g1n) (by rw [tc_tb_take hxq, List.length_append]; omega))
      exact x_sub [3, 2, 1, 0] rfl (lp47 _ 0 ob oz (Nat.lt_succ_self _) (Nat.zero_le _) (tc_apd_0 ob oz) rfl)
    ·
      refine x_iconst (v := xk_oI none) C dX_write_31 (by decide) ?_
      exact x_iret C T .int rfl rfl dX_write_32 (Or.inl (⟨rfl, rfl, (if_neg (by omega))⟩))
set_option maxHeartbeats 4000000 in
set_option maxRecDepth 100000 in
/-- give -/
theorem c_X_give (D : va_G) (xx : Nat → Nat) (cxx : Nat → ClassId) (r : Nat → Nat) (cr : Nat → ClassId) (g : Nat → Nat) (cg : Nat → ClassId) (o : Nat → Nat) (co : Nat → ClassId) (a : Nat → Nat) (ca : Nat → ClassId) (wl : Nat → Nat) (wm : Nat → Nat) (wt : Nat) (nx : Nat) (ap : Nat) (fa : Nat) (pl : Option Nat) (gb : Nat → Nat) (gz : Nat) (ob : Nat → Nat) (oz : Nat) (kn : Nat → Nat) (nu : Nat → Int64) (wo : Nat → Int64) (si : Nat → Nat) (de : Nat → Nat) (la : Nat → Nat) (le : Nat → Nat) (ro : Nat → Nat) (tm : Nat) (nd : Nat) (v : Int64) (n : Int32) (y1 : gz ≤ 4096) : xk_Ct yX_give cX_give 5 (some .boolean) { frames := 1, cells := 0, slots := 0, locals := 22 } D (tc_tX cxx ++ (tc_tR cr ++ (tc_tB cg ++ (tc_tB co ++ tc_tS ca)))) [.ref (xx 0), .long v, .int n] (tc_wX xx cxx (a 0) (o 0) (g 0) (r 0) ++ (tc_wR r cr (g 0) (a 0) wl wm wt nx ap fa pl ++ (tc_wB g cg gb gz ++ (tc_wB o co ob oz ++ tc_wS a ca kn nu wo si de la le ro tm nd)))) (fun rv ru => (rv = some (.int (nI 0)) ∧ ru = tc_wX xx cxx (a 0) (o 0) (g 0) (r 0) ++ (tc_wR r cr (g 0) (a 0) wl wm wt nx ap fa pl ++ (tc_wB g cg gb gz ++ (tc_wB o co ob oz ++ tc_wS a ca kn nu wo si de la le ro tm nd))) ∧ (tc_gv n gz = none)) ∨ (∃ (k : Nat), ∃ (bg : Nat → Nat), rv = some (.int (nI 1)) ∧ ru = tc_wX xx cxx (a 0) (o 0) (g 0) (r 0) ++ (tc_wR r cr (g 0) (a 0) wl wm wt nx ap fa pl ++ (tc_wB g cg bg (gz + k) ++ (tc_wB o co ob oz ++ tc_wS a ca kn nu wo si de la le ro tm nd))) ∧ (tc_gv n gz = some k) ∧ (tc_apd gb gz bg (tc_bts v k)))) := by
  refine xk_enter (by decide) (Nat.le_of_ble_eq_true rfl) (fun K C T hin => ?_)
  show xk_Go K D 5 0 0 (tc_wX xx cxx (a 0) (o 0) (g 0) (r 0) ++ (tc_wR r cr (g 0) (a 0) wl wm wt nx ap fa pl ++ (tc_wB g cg gb gz ++ (tc_wB o co ob oz ++ tc_wS a ca kn nu wo si de la le ro tm nd)))) [(0, .ref (xx 0)), (1, .long v), (3, .int n)] 0 []
  refine x_iload_n C dX_give_0 rfl 2 rfl ?_
  refine x_iconst (v := nI 1) C dX_give_1 (by decide) ?_
  refine x_icmp_lt (tgt := 22) C dX_give_2 (by decide) (fun h2 => ?_) (fun h2 => ?_)
  ·
    refine x_iconst (v := nI 0) C dX_give_22 (by decide) ?_
    exact x_iret C T .boolean rfl rfl dX_give_23 (Or.inl (⟨rfl, rfl, (tc_gv_lo h2)⟩))
  ·
    refine x_iload_n C dX_give_5 rfl 2 rfl ?_
    refine x_bipush (v := nI 8) C dX_give_6 (by decide) ?_
    refine x_icmp_gt (tgt := 22) C dX_give_8 (by decide) (fun h8 => ?_) (fun h8 => ?_)
    ·
      refine x_iconst (v := nI 0) C dX_give_22 (by decide) ?_
      exact x_iret C T .boolean rfl rfl dX_give_23 (Or.inl (⟨rfl, rfl, (tc_gv_hi h8)⟩))
    ·
      obtain ⟨k, hk1, hk8, rfl⟩ := tc_rng18 h2 h8
      refine x_iload_n C dX_give_11 rfl 2 rfl ?_
      refine x_aload_n C dX_give_12 rfl 0 rfl ?_
      refine x_get C fgX_23 0 rfl rfl dX_give_13 ?_
      refine x_callV C (c_B_room D g cg gb gz (by omega)) kbX_93 kcX_93 [4, 5] [0, 1, 2, 3, 6, 7, 8, 9, 10, 11, 12, 13, 14, 15, 16] [2] (tc_wX xx cxx (a 0) (o 0) (g 0) (r 0) ++ (tc_wR r cr (g 0) (a 0) wl wm wt nx ap fa pl ++ (tc_wB o co ob oz ++ tc_wS a ca kn nu wo si de la le ro tm nd))) rfl rfl (by decide) (by decide) (by decide) rfl 0 rfl rfl ⟨Nat.le_of_ble_eq_true rfl, Nat.le_of_ble_eq_true rfl⟩ ⟨Nat.le_of_ble_eq_true rfl, Nat.le_of_ble_eq_true rfl⟩ [.int (nI k)] rfl rfl (Nat.le_of_ble_eq_true rfl) dX_give_16 (fun rv ru hw => ?_)
      obtain ⟨rfl, rfl⟩ := hw
      show xk_Go K D 5 0 0 (tc_wX xx cxx (a 0) (o 0) (g 0) (r 0) ++ (tc_wR r cr (g 0) (a 0) wl wm wt nx ap fa pl ++ (tc_wB o co ob oz ++ (tc_wS a ca kn nu wo si de la le ro tm nd ++ tc_wB g cg gb gz)))) [(0, .ref (xx 0)), (1, .long v), (3, .int (nI k))] 19 [.int (nI (4096 - gz)), .int (nI k)]
      refine x_perm [0, 1, 2, 3, 15, 16, 4, 5, 6, 7, 8, 9, 10, 11, 12, 13, 14] (w' := tc_wX xx cxx (a 0) (o 0) (g 0) (r 0) ++ (tc_wR r cr (g 0) (a 0) wl wm wt nx ap fa pl ++ (tc_wB g cg gb gz ++ (tc_wB o co ob oz ++ tc_wS a ca kn nu wo si de la le ro tm nd)))) (by decide) rfl rfl ?_
      refine x_icmp_leN (tgt := 24) C (by omega) (by omega) dX_give_19 (by decide) (fun h19 => ?_) (fun h19 => ?_)
      ·
        refine x_iload_n C dX_give_24 rfl 2 rfl ?_
        refine x_iconst (v := nI 1) C dX_give_25 (by decide) ?_
        refine x_isub C dX_give_26 ?_
        refine x_top (tc_pr_sub k) ?_
        refine x_istore C [(4, .int (xk_oI (tc_pr k))), (0, .ref (xx 0)), (1, .long v), (3, .int (nI k))] dX_give_27 (by decide) rfl ?_
        have lp29 : ∀ (zc : Nat) (jn : Nat) (bg : Nat → Nat) (s1 : Nat), jn < zc → (jn ≤ k) → (tc_apd gb gz bg ((tc_bts v k).take (k - jn))) → (s1 = gz + (k - jn)) → xk_Go K D 5 0 0 (tc_wX xx cxx (a 0) (o 0) (g 0) (r 0) ++ (tc_wR r cr (g 0) (a 0) wl wm wt nx ap fa pl ++ (tc_wB g cg bg s1 ++ (tc_wB o co ob oz ++ tc_wS a ca kn nu wo si de la le ro tm nd)))) [(0, .ref (xx 0)), (1, .long v), (3, .int (nI k)), (4, .int (xk_oI (tc_pr jn)))] 29 [] := by
          intro zc
          induction zc with
          | zero => intro jn bg s1 hm; exact absurd hm (Nat.not_lt_zero _)
          | succ zc ih29 =>
            intro jn bg s1 hm e1 e2 e3
            refine x_iload C dX_give_29 3 rfl ?_
            rcases jn with _ | j
            ·
              show xk_Go K D 5 0 0 (tc_wX xx cxx (a 0) (o 0) (g 0) (r 0) ++ (tc_wR r cr (g 0) (a 0) wl wm wt nx ap fa pl ++ (tc_wB g cg bg s1 ++ (tc_wB o co ob oz ++ tc_wS a ca kn nu wo si de la le ro tm nd)))) [(0, .ref (xx 0)), (1, .long v), (3, .int (nI k)), (4, .int (xk_oI none))] 31 [.int (xk_oI none)]
              refine x_if_lt (tgt := 53) C dX_give_31 (by decide) (fun _ => ?_) (fun h => absurd (by decide) h)
              refine x_iconst (v := nI 1) C dX_give_53 (by decide) ?_
              obtain rfl : s1 = gz + k := by omega
              rw [Nat.sub_zero, List.take_of_length_le (by rw [tc_bts_len]; exact Nat.le_refl _)] at e2
              exact x_iret C T .boolean rfl rfl dX_give_54 (Or.inr (⟨k, bg, rfl, rfl, (tc_gv_in hk1 hk8 (by omega)), e2⟩))
            ·
              show xk_Go K D 5 0 0 (tc_wX xx cxx (a 0) (o 0) (g 0) (r 0) ++ (tc_wR r cr (g 0) (a 0) wl wm wt nx ap fa pl ++ (tc_wB g cg bg s1 ++ (tc_wB o co ob oz ++ tc_wS a ca kn nu wo si de la le ro tm nd)))) [(0, .ref (xx 0)), (1, .long v), (3, .int (nI k)), (4, .int (nI j))] 31 [.int (nI j)]
              refine x_if_ltN (tgt := 53) C (by omega) dX_give_31 (by decide) ?_
              refine x_aload_n C dX_give_34 rfl 0 rfl ?_
              refine x_get C fgX_23 0 rfl rfl dX_give_35 ?_
              refine x_lload_n C dX_give_38 rfl 1 rfl ?_
              refine x_iload C dX_give_39 3 rfl ?_
              refine x_callS C (c_F_byteOf D v j (by omega)) kbX_106 kcX_106 [] [0, 1, 2, 3, 4, 5, 6, 7, 8, 9, 10, 11, 12, 13, 14, 15, 16] [] (tc_wX xx cxx (a 0) (o 0) (g 0) (r 0) ++ (tc_wR r cr (g 0) (a 0) wl wm wt nx ap fa pl ++ (tc_wB g cg bg s1 ++ (tc_wB o co ob oz ++ tc_wS a ca kn nu wo si de la le ro tm nd)))) rfl rfl (by decide) (by decide) (by decide) rfl ⟨Nat.le_of_ble_eq_true rfl, Nat.le_of_ble_eq_true rfl⟩ ⟨Nat.le_of_ble_eq_true rfl, Nat.le_of_ble_eq_true rfl⟩ [.ref (g 0)] rfl rfl (Nat.le_of_ble_eq_true rfl) dX_give_41 (fun rv ru hw => ?_)
              obtain ⟨rfl, rfl⟩ := hw
              show xk_Go K D 5 0 0 (tc_wX xx cxx (a 0) (o 0) (g 0) (r 0) ++ (tc_wR r cr (g 0) (a 0) wl wm wt nx ap fa pl ++ (tc_wB g cg bg s1 ++ (tc_wB o co ob oz ++ tc_wS a ca kn nu wo si de la le ro tm nd)))) [(0, .ref (xx 0)), (1, .long v), (3, .int (nI k)), (4, .int (nI j))] 44 [.int (nI (tc_by v j)), .ref (g 0)]
              refine x_callV C (c_B_append D g cg bg s1 (tc_by v j) (by omega)) kbX_110 kcX_110 [4, 5] [0, 1, 2, 3, 6, 7, 8, 9, 10, 11, 12, 13, 14, 15, 16] [2] (tc_wX xx cxx (a 0) (o 0) (g 0) (r 0) ++ (tc_wR r cr (g 0) (a 0) wl wm wt nx ap fa pl ++ (tc_wB o co ob oz ++ tc_wS a ca kn nu wo si de la le ro tm nd))) rfl rfl (by decide) (by decide) (by decide) rfl 0 rfl rfl ⟨Nat.le_of_ble_eq_true rfl, Nat.le_of_ble_eq_true rfl⟩ ⟨Nat.le_of_ble_eq_true rfl, Nat.le_of_ble_eq_true rfl⟩ [] rfl rfl (Nat.le_of_ble_eq_true rfl) dX_give_44 (fun rv ru hw => ?_)
              obtain ⟨rfl, rfl⟩ := hw
              show xk_Go K D 5 0 0 (tc_wX xx cxx (a 0) (o 0) (g 0) (r 0) ++ (tc_wR r cr (g 0) (a 0) wl wm wt nx ap fa pl ++ (tc_wB o co ob oz ++ (tc_wS a ca kn nu wo si de la le ro tm nd ++ tc_wB g cg (va_up bg s1 (tc_by v j)) (s1 + 1))))) [(0, .ref (xx 0)), (1, .long v), (3, .int (nI k)), (4, .int (nI j))] 47 []
              refine x_perm [0, 1, 2, 3, 15, 16, 4, 5, 6, 7, 8, 9, 10, 11, 12, 13, 14] (w' := tc_wX xx cxx (a 0) (o 0) (g 0) (r 0) ++ (tc_wR r cr (g 0) (a 0) wl wm wt nx ap fa pl ++ (tc_wB g cg (va_up bg s1 (tc_by v j)) (s1 + 1) ++ (tc_wB o co ob oz ++ tc_wS a ca kn nu wo si de la le ro tm nd)))) (by decide) rfl rfl ?_
              refine x_iinc (q := 3) C (xk_oI (tc_pr j)) [(4, .int (xk_oI (tc_pr j))), (0, .ref (xx 0)), (1, .long v), (3, .int (nI k))] dX_give_47 rfl (tc_pr_dec j) (by decide) rfl ?_
              refine x_goto C 29 dX_give_50 (by decide) ?_
              exact x_sub [1, 2, 3, 0] rfl (ih29 j (va_up bg s1 (tc_by v j)) (s1 + 1) (by omega) (by omega) (by rw [tc_bts_take (by omega)]; exact tc_apd_1 e2 (by rw [List.length_take, tc_bts_len]; omega) rfl) (by omega))
        exact x_sub [1, 2, 3, 0] rfl (lp29 _ k gb gz (Nat.lt_succ_self _) (Nat.le_refl _) (by rw [Nat.sub_self]; exact tc_apd_0 gb gz) (by omega))
      ·
        refine x_iconst (v := nI 0) C dX_give_22 (by decide) ?_
        exact x_iret C T .boolean rfl rfl dX_give_23 (Or.inl (⟨rfl, rfl, (tc_gv_no hk8 (by omega))⟩))
set_option maxHeartbeats 4000000 in
set_option maxRecDepth 100000 in
/-- cut -/
theorem c_X_cut (D : va_G) (xx : Nat → Nat) (cxx : Nat → ClassId) (r : Nat → Nat) (cr : Nat → ClassId) (g : Nat → Nat) (cg : Nat → ClassId) (o : Nat → Nat) (co : Nat → ClassId) (a : Nat → Nat) (ca : Nat → ClassId) (wl : Nat → Nat) (wm : Nat → Nat) (wt : Nat) (nx : Nat) (ap : Nat) (fa : Nat) (pl : Option Nat) (gb : Nat → Nat) (gz : Nat) (ob : Nat → Nat) (oz : Nat) (kn : Nat → Nat) (nu : Nat → Int64) (wo : Nat → Int64) (si : Nat → Nat) (de : Nat → Nat) (la : Nat → Nat) (le : Nat → Nat) (ro : Nat → Nat) (tm : Nat) (nd : Nat) (n : Int32) (y1 : gz ≤ 4096) : xk_Ct yX_cut cX_cut 2 (some .boolean) { frames := 0, cells := 0, slots := 0, locals := 0 } D (tc_tX cxx ++ (tc_tR cr ++ (tc_tB cg ++ (tc_tB co ++ tc_tS ca)))) [.ref (xx 0), .int n] (tc_wX xx cxx (a 0) (o 0) (g 0) (r 0) ++ (tc_wR r cr (g 0) (a 0) wl wm wt nx ap fa pl ++ (tc_wB g cg gb gz ++ (tc_wB o co ob oz ++ tc_wS a ca kn nu wo si de la le ro tm nd)))) (fun rv ru => (rv = some (.int (nI 0)) ∧ ru = tc_wX xx cxx (a 0) (o 0) (g 0) (r 0) ++ (tc_wR r cr (g 0) (a 0) wl wm wt nx ap fa pl ++ (tc_wB g cg gb gz ++ (tc_wB o co ob oz ++ tc_wS a ca kn nu wo si de la le ro tm nd))) ∧ (tc_ct n gz = none)) ∨ (∃ (k : Nat), rv = some (.int (nI 1)) ∧ ru = tc_wX xx cxx (a 0) (o 0) (g 0) (r 0) ++ (tc_wR r cr (g 0) (a 0) wl wm wt nx 0 fa pl ++ (tc_wB g cg gb k ++ (tc_wB o co ob oz ++ tc_wS a ca kn nu wo si de la le ro tm nd))) ∧ (tc_ct n gz = some k) ∧ (k ≤ gz))) := by
  refine xk_enter (by decide) (Nat.le_of_ble_eq_true rfl) (fun K C T hin => ?_)
  show xk_Go K D 2 0 0 (tc_wX xx cxx (a 0) (o 0) (g 0) (r 0) ++ (tc_wR r cr (g 0) (a 0) wl wm wt nx ap fa pl ++ (tc_wB g cg gb gz ++ (tc_wB o co ob oz ++ tc_wS a ca kn nu wo si de la le ro tm nd)))) [(0, .ref (xx 0)), (1, .int n)] 0 []
  refine x_iload_n C dX_cut_0 rfl 1 rfl ?_
  refine x_if_lt (tgt := 15) C dX_cut_1 (by decide) (fun h1 => ?_) (fun h1 => ?_)
  ·
    refine x_iconst (v := nI 0) C dX_cut_15 (by decide) ?_
    exact x_iret C T .boolean rfl rfl dX_cut_16 (Or.inl (⟨rfl, rfl, (tc_ct_lo h1)⟩))
  ·
    obtain ⟨k, hk, rfl⟩ := nI_of h1
    refine x_iload_n C dX_cut_4 rfl 1 rfl ?_
    refine x_aload_n C dX_cut_5 rfl 0 rfl ?_
    refine x_get C fgX_23 0 rfl rfl dX_cut_6 ?_
    refine x_get C fgX_103 4 rfl rfl dX_cut_9 ?_
    refine x_icmp_leN (tgt := 17) C (by omega) (by omega) dX_cut_12 (by decide) (fun h12 => ?_) (fun h12 => ?_)
    ·
      refine x_aload_n C dX_cut_17 rfl 0 rfl ?_
      refine x_get C fgX_23 0 rfl rfl dX_cut_18 ?_
      refine x_iload_n C dX_cut_21 rfl 1 rfl ?_
      refine x_put C fpX_103 4 (tc_wX xx cxx (a 0) (o 0) (g 0) (r 0) ++ (tc_wR r cr (g 0) (a 0) wl wm wt nx ap fa pl ++ (tc_wB g cg gb k ++ (tc_wB o co ob oz ++ tc_wS a ca kn nu wo si de la le ro tm nd)))) rfl rfl rfl rfl (Nat.le_of_ble_eq_true rfl) dX_cut_22 ?_
      refine x_aload_n C dX_cut_25 rfl 0 rfl ?_
      refine x_get C fgX_31 0 rfl rfl dX_cut_26 ?_
      refine x_iconst (v := nI 0) C dX_cut_29 (by decide) ?_
      refine x_put C fpX_114 1 (tc_wX xx cxx (a 0) (o 0) (g 0) (r 0) ++ (tc_wR r cr (g 0) (a 0) wl wm wt nx 0 fa pl ++ (tc_wB g cg gb k ++ (tc_wB o co ob oz ++ tc_wS a ca kn nu wo si de la le ro tm nd)))) rfl rfl rfl rfl (Nat.le_of_ble_eq_true rfl) dX_cut_30 ?_
      refine x_iconst (v := nI 1) C dX_cut_33 (by decide) ?_
      exact x_iret C T .boolean rfl rfl dX_cut_34 (Or.inr (⟨k, rfl, rfl, (tc_ct_in h12 (by omega)), h12⟩))
    ·
      refine x_iconst (v := nI 0) C dX_cut_15 (by decide) ?_
      exact x_iret C T .boolean rfl rfl dX_cut_16 (Or.inl (⟨rfl, rfl, (tc_ct_no h12 hk)⟩))
set_option maxHeartbeats 4000000 in
set_option maxRecDepth 100000 in
/-- turn -/
theorem c_X_turn (D : va_G) (xx : Nat → Nat) (cxx : Nat → ClassId) (r : Nat → Nat) (cr : Nat → ClassId) (g : Nat → Nat) (cg : Nat → ClassId) (o : Nat → Nat) (co : Nat → ClassId) (a : Nat → Nat) (ca : Nat → ClassId) (wl : Nat → Nat) (wm : Nat → Nat) (wt : Nat) (nx : Nat) (ap : Nat) (fa : Nat) (pl : Option Nat) (gb : Nat → Nat) (gz : Nat) (ob : Nat → Nat) (oz : Nat) (kn : Nat → Nat) (nu : Nat → Int64) (wo : Nat → Int64) (si : Nat → Nat) (de : Nat → Nat) (la : Nat → Nat) (le : Nat → Nat) (ro : Nat → Nat) (tm : Nat) (nd : Nat) (y1 : oz ≤ 4096) : xk_Ct yX_turn cX_turn 1 none { frames := 2, cells := 0, slots := 0, locals := 121 } D (tc_tX cxx ++ (tc_tR cr ++ (tc_tB cg ++ (tc_tB co ++ tc_tS ca)))) [.ref (xx 0)] (tc_wX xx cxx (a 0) (o 0) (g 0) (r 0) ++ (tc_wR r cr (g 0) (a 0) wl wm wt nx ap fa pl ++ (tc_wB g cg gb gz ++ (tc_wB o co ob oz ++ tc_wS a ca kn nu wo si de la le ro tm nd)))) (fun rv ru => (rv = none ∧ ru = tc_wX xx cxx (a 0) (o 0) (g 0) (r 0) ++ (tc_wR r cr (g 0) (a 0) wl wm wt nx 0 fa pl ++ (tc_wB g cg (va_cpy ob gb 0 0 oz) oz ++ (tc_wB o co ob oz ++ tc_wS a ca kn nu wo si de la le ro tm nd))))) := by
  refine xk_enter (by decide) (Nat.le_of_ble_eq_true rfl) (fun K C T hin => ?_)
  show xk_Go K D 1 0 0 (tc_wX xx cxx (a 0) (o 0) (g 0) (r 0) ++ (tc_wR r cr (g 0) (a 0) wl wm wt nx ap fa pl ++ (tc_wB g cg gb gz ++ (tc_wB o co ob oz ++ tc_wS a ca kn nu wo si de la le ro tm nd)))) [(0, .ref (xx 0))] 0 []
  refine x_aload_n C dX_turn_0 rfl 0 rfl ?_
  refine x_get C fgX_23 0 rfl rfl dX_turn_1 ?_
  refine x_aload_n C dX_turn_4 rfl 0 rfl ?_
  refine x_get C fgX_19 0 rfl rfl dX_turn_5 ?_
  refine x_callV C (c_B_copyFrom D g cg o co gb gz ob oz y1) kbX_117 kcX_117 [4, 5, 6, 7] [0, 1, 2, 3, 8, 9, 10, 11, 12, 13, 14, 15, 16] [2, 3] (tc_wX xx cxx (a 0) (o 0) (g 0) (r 0) ++ (tc_wR r cr (g 0) (a 0) wl wm wt nx ap fa pl ++ tc_wS a ca kn nu wo si de la le ro tm nd)) rfl rfl (by decide) (by decide) (by decide) rfl 0 rfl rfl ⟨Nat.le_of_ble_eq_true rfl, Nat.le_of_ble_eq_true rfl⟩ ⟨Nat.le_of_ble_eq_true rfl, Nat.le_of_ble_eq_true rfl⟩ [] rfl rfl (Nat.le_of_ble_eq_true rfl) dX_turn_8 (fun rv ru hw => ?_)
  obtain ⟨rfl, rfl⟩ := hw
  show xk_Go K D 1 0 0 (tc_wX xx cxx (a 0) (o 0) (g 0) (r 0) ++ (tc_wR r cr (g 0) (a 0) wl wm wt nx ap fa pl ++ (tc_wS a ca kn nu wo si de la le ro tm nd ++ (tc_wB g cg (va_cpy ob gb 0 0 oz) oz ++ tc_wB o co ob oz)))) [(0, .ref (xx 0))] 11 []
  refine x_perm [0, 1, 2, 3, 13, 14, 15, 16, 4, 5, 6, 7, 8, 9, 10, 11, 12] (w' := tc_wX xx cxx (a 0) (o 0) (g 0) (r 0) ++ (tc_wR r cr (g 0) (a 0) wl wm wt nx ap fa pl ++ (tc_wB g cg (va_cpy ob gb 0 0 oz) oz ++ (tc_wB o co ob oz ++ tc_wS a ca kn nu wo si de la le ro tm nd)))) (by decide) rfl rfl ?_
  refine x_aload_n C dX_turn_11 rfl 0 rfl ?_
  refine x_get C fgX_31 0 rfl rfl dX_turn_12 ?_
  refine x_iconst (v := nI 0) C dX_turn_15 (by decide) ?_
  refine x_put C fpX_114 1 (tc_wX xx cxx (a 0) (o 0) (g 0) (r 0) ++ (tc_wR r cr (g 0) (a 0) wl wm wt nx 0 fa pl ++ (tc_wB g cg (va_cpy ob gb 0 0 oz) oz ++ (tc_wB o co ob oz ++ tc_wS a ca kn nu wo si de la le ro tm nd)))) rfl rfl rfl rfl (Nat.le_of_ble_eq_true rfl) dX_turn_16 ?_
  exact x_vret C T rfl dX_turn_19 (⟨rfl, rfl⟩)
set_option maxHeartbeats 4000000 in
set_option maxRecDepth 100000 in
/-- output -/
theorem c_X_output (D : va_G) (xx : Nat → Nat) (cxx : Nat → ClassId) (r : Nat → Nat) (cr : Nat → ClassId) (g : Nat → Nat) (cg : Nat → ClassId) (o : Nat → Nat) (co : Nat → ClassId) (a : Nat → Nat) (ca : Nat → ClassId) (wl : Nat → Nat) (wm : Nat → Nat) (wt : Nat) (nx : Nat) (ap : Nat) (fa : Nat) (pl : Option Nat) (gb : Nat → Nat) (gz : Nat) (ob : Nat → Nat) (oz : Nat) (kn : Nat → Nat) (nu : Nat → Int64) (wo : Nat → Int64) (si : Nat → Nat) (de : Nat → Nat) (la : Nat → Nat) (le : Nat → Nat) (ro : Nat → Nat) (tm : Nat) (nd : Nat) (k : Int32) (y1 : oz ≤ 4096) : xk_Ct yX_output cX_output 2 (some .int) { frames := 1, cells := 0, slots := 0, locals := 21 } D (tc_tX cxx ++ (tc_tR cr ++ (tc_tB cg ++ (tc_tB co ++ tc_tS ca)))) [.ref (xx 0), .int k] (tc_wX xx cxx (a 0) (o 0) (g 0) (r 0) ++ (tc_wR r cr (g 0) (a 0) wl wm wt nx ap fa pl ++ (tc_wB g cg gb gz ++ (tc_wB o co ob oz ++ tc_wS a ca kn nu wo si de la le ro tm nd)))) (fun rv ru => (rv = some (.int (xk_oI none)) ∧ ru = tc_wX xx cxx (a 0) (o 0) (g 0) (r 0) ++ (tc_wR r cr (g 0) (a 0) wl wm wt nx ap fa pl ++ (tc_wB g cg gb gz ++ (tc_wB o co ob oz ++ tc_wS a ca kn nu wo si de la le ro tm nd))) ∧ (∀ j, j < oz → k ≠ nI j)) ∨ (∃ (j : Nat), rv = some (.int (nI (ob j % 256))) ∧ ru = tc_wX xx cxx (a 0) (o 0) (g 0) (r 0) ++ (tc_wR r cr (g 0) (a 0) wl wm wt nx ap fa pl ++ (tc_wB g cg gb gz ++ (tc_wB o co ob oz ++ tc_wS a ca kn nu wo si de la le ro tm nd))) ∧ (k = nI j) ∧ (j < oz))) := by
  refine xk_enter (by decide) (Nat.le_of_ble_eq_true rfl) (fun K C T hin => ?_)
  show xk_Go K D 2 0 0 (tc_wX xx cxx (a 0) (o 0) (g 0) (r 0) ++ (tc_wR r cr (g 0) (a 0) wl wm wt nx ap fa pl ++ (tc_wB g cg gb gz ++ (tc_wB o co ob oz ++ tc_wS a ca kn nu wo si de la le ro tm nd)))) [(0, .ref (xx 0)), (1, .int k)] 0 []
  refine x_aload_n C dX_output_0 rfl 0 rfl ?_
  refine x_get C fgX_19 0 rfl rfl dX_output_1 ?_
  refine x_iload_n C dX_output_4 rfl 1 rfl ?_
  refine x_callV C (c_B_get D o co ob oz k y1) kbX_161 kcX_161 [6, 7] [0, 1, 2, 3, 4, 5, 8, 9, 10, 11, 12, 13, 14, 15, 16] [3] (tc_wX xx cxx (a 0) (o 0) (g 0) (r 0) ++ (tc_wR r cr (g 0) (a 0) wl wm wt nx ap fa pl ++ (tc_wB g cg gb gz ++ tc_wS a ca kn nu wo si de la le ro tm nd))) rfl rfl (by decide) (by decide) (by decide) rfl 0 rfl rfl ⟨Nat.le_of_ble_eq_true rfl, Nat.le_of_ble_eq_true rfl⟩ ⟨Nat.le_of_ble_eq_true rfl, Nat.le_of_ble_eq_true rfl⟩ [] rfl rfl (Nat.le_of_ble_eq_true rfl) dX_output_5 (fun rv ru hw => ?_)
  rcases hw with ⟨rfl, rfl, g1⟩ | ⟨j, rfl, rfl, g1, g2⟩
  ·
    show xk_Go K D 2 0 0 (tc_wX xx cxx (a 0) (o 0) (g 0) (r 0) ++ (tc_wR r cr (g 0) (a 0) wl wm wt nx ap fa pl ++ (tc_wB g cg gb gz ++ (tc_wS a ca kn nu wo si de la le ro tm nd ++ tc_wB o co ob oz)))) [(0, .ref (xx 0)), (1, .int k)] 8 [.int (xk_oI none)]
    refine x_perm [0, 1, 2, 3, 4, 5, 15, 16, 6, 7, 8, 9, 10, 11, 12, 13, 14] (w' := tc_wX xx cxx (a 0) (o 0) (g 0) (r 0) ++ (tc_wR r cr (g 0) (a 0) wl wm wt nx ap fa pl ++ (tc_wB g cg gb gz ++ (tc_wB o co ob oz ++ tc_wS a ca kn nu wo si de la le ro tm nd)))) (by decide) rfl rfl ?_
    exact x_iret C T .int rfl rfl dX_output_8 (Or.inl (⟨rfl, rfl, g1⟩))
  ·
    show xk_Go K D 2 0 0 (tc_wX xx cxx (a 0) (o 0) (g 0) (r 0) ++ (tc_wR r cr (g 0) (a 0) wl wm wt nx ap fa pl ++ (tc_wB g cg gb gz ++ (tc_wS a ca kn nu wo si de la le ro tm nd ++ tc_wB o co ob oz)))) [(0, .ref (xx 0)), (1, .int k)] 8 [.int (nI (ob j % 256))]
    refine x_perm [0, 1, 2, 3, 4, 5, 15, 16, 6, 7, 8, 9, 10, 11, 12, 13, 14] (w' := tc_wX xx cxx (a 0) (o 0) (g 0) (r 0) ++ (tc_wR r cr (g 0) (a 0) wl wm wt nx ap fa pl ++ (tc_wB g cg gb gz ++ (tc_wB o co ob oz ++ tc_wS a ca kn nu wo si de la le ro tm nd)))) (by decide) rfl rfl ?_
    exact x_iret C T .int rfl rfl dX_output_8 (Or.inr (⟨j, rfl, rfl, g1, g2⟩))
