set_option maxHeartbeats 4000000 in
set_option maxRecDepth 100000 in
/-- node -/
theorem c_L_node (D : va_G) (xx : Nat → Nat) (cxx : Nat → ClassId) (r : Nat → Nat) (cr : Nat → ClassId) (g : Nat → Nat) (cg : Nat → ClassId) (o : Nat → Nat) (co : Nat → ClassId) (a : Nat → Nat) (ca : Nat → ClassId) (ou : Nat → Nat) (cou : Nat → ClassId) (wl : Nat → Nat) (wm : Nat → Nat) (wt : Nat) (nx : Nat) (ap : Nat) (fa : Nat) (pl : Option Nat) (gb : Nat → Nat) (gz : Nat) (ob : Nat → Nat) (oz : Nat) (kn : Nat → Nat) (nu : Nat → Int64) (wo : Nat → Int64) (si : Nat → Nat) (de : Nat → Nat) (la : Nat → Nat) (le : Nat → Nat) (ro : Nat → Nat) (tm : Nat) (nd : Nat) (ov : Nat → Int64) (kd : Int32) (x : Int64) (Ts : List (List tc_Nd)) (y1 : tc_RS Ts (kn, nu, wo, si, de, la, le) ro tm nd) : xk_CtW [(0, 11, 14, 13), (0, 11, 18, 15)] yL_node cL_node 6 (some .int) { frames := 7, cells := 1, slots := 6, locals := 172 } D (tc_tX cxx ++ (tc_tR cr ++ (tc_tB cg ++ (tc_tB co ++ (tc_tS ca ++ tc_tU cou))))) [.ref (xx 0), .int kd, .long x, .ref (ou 0)] (tc_wX xx cxx (a 0) (o 0) (g 0) (r 0) ++ (tc_wR r cr (g 0) (a 0) wl wm wt nx ap fa pl ++ (tc_wB g cg gb gz ++ (tc_wB o co ob oz ++ (tc_wS a ca kn nu wo si de la le ro tm nd ++ tc_wU ou cou ov))))) (fun rv ru => (rv = some (.int (nI 1)) ∧ ru = tc_wX xx cxx (a 0) (o 0) (g 0) (r 0) ++ (tc_wR r cr (g 0) (a 0) wl wm wt nx ap fa pl ++ (tc_wB g cg gb gz ++ (tc_wB o co ob oz ++ (tc_wS a ca kn nu wo si de la le ro tm nd ++ tc_wU ou cou ov)))) ∧ (tc_nk kd x = none)) ∨ (∃ (k : Nat), rv = some (.int (nI 2)) ∧ ru = tc_wX xx cxx (a 0) (o 0) (g 0) (r 0) ++ (tc_wR r cr (g 0) (a 0) wl wm wt nx ap fa pl ++ (tc_wB g cg gb gz ++ (tc_wB o co ob oz ++ (tc_wS a ca kn nu wo si de la le ro tm nd ++ tc_wU ou cou ov)))) ∧ (tc_nk kd x = some k) ∧ (tc_put (k, x, []) Ts = none)) ∨ (∃ (k : Nat), ∃ (Tn : List (List tc_Nd)), ∃ (kg : Nat → Nat), ∃ (ug : Nat → Int64), ∃ (wg : Nat → Int64), ∃ (sg : Nat → Nat), ∃ (dg : Nat → Nat), ∃ (lg : Nat → Nat), ∃ (eg : Nat → Nat), ∃ (rg : Nat → Nat), ∃ (tg : Nat), ∃ (ng : Nat), rv = some (.int (nI 0)) ∧ ru = tc_wX xx cxx (a 0) (o 0) (g 0) (r 0) ++ (tc_wR r cr (g 0) (a 0) wl wm wt nx ap fa pl ++ (tc_wB g cg gb gz ++ (tc_wB o co ob oz ++ (tc_wS a ca kg ug wg sg dg lg eg rg tg ng ++ tc_wU ou cou (vp_updL ov 0 (lN Tn.length)))))) ∧ (tc_nk kd x = some k) ∧ (tc_put (k, x, []) Ts = some Tn) ∧ (tc_RS Tn (kg, ug, wg, sg, dg, lg, eg) rg tg ng))) := by
  refine xk_enterW (by decide) (Nat.le_of_ble_eq_true rfl) (fun K C T Hx => ?_)
  show xk_Go K D 6 0 0 (tc_wX xx cxx (a 0) (o 0) (g 0) (r 0) ++ (tc_wR r cr (g 0) (a 0) wl wm wt nx ap fa pl ++ (tc_wB g cg gb gz ++ (tc_wB o co ob oz ++ (tc_wS a ca kn nu wo si de la le ro tm nd ++ tc_wU ou cou ov))))) [(0, .ref (xx 0)), (1, .int kd), (2, .long x), (4, .ref (ou 0))] 0 []
  refine x_aload C dL_node_0 3 rfl ?_
  refine x_iconst (v := nI 0) C dL_node_2 (by decide) ?_
  refine x_aload_n C dL_node_3 rfl 0 rfl ?_
  refine x_iload_n C dL_node_4 rfl 1 rfl ?_
  refine x_lload_n C dL_node_5 rfl 2 rfl ?_
  refine x_callVT C Hx (c_X_node D xx cxx r cr g cg o co a ca wl wm wt nx ap fa pl gb gz ob oz kn nu wo si de la le ro tm nd kd x Ts y1) kbL_7 kcL_7 [0, 1, 2, 3, 4, 5, 6, 7, 8, 9, 10, 11, 12, 13, 14, 15, 16] [17] [0, 1, 2, 3, 4, 5, 6, 7, 8, 9, 10, 11] (tc_wU ou cou ov) rfl rfl (by decide) (by decide) (by decide) rfl 0 rfl rfl ⟨Nat.le_of_ble_eq_true rfl, Nat.le_of_ble_eq_true rfl⟩ ⟨Nat.le_of_ble_eq_true rfl, Nat.le_of_ble_eq_true rfl⟩ [.int (nI 0), .ref (ou 0)] rfl rfl (Nat.le_of_ble_eq_true rfl) dL_node_6 (fun rv ru hw => ?_) (fun Xn ru hw => ?_)
  ·
    rcases hw with ⟨hrv, rfl, g1⟩ | ⟨k, hrv, rfl, g1, g2⟩ | ⟨k, Tn, kg, ug, wg, sg, dg, lg, eg, rg, tg, ng, hrv, rfl, g1, g2, g3⟩
    ·
      cases hrv
    ·
      cases hrv
    ·
      cases hrv
      show xk_Go K D 6 1 6 (tc_wU ou cou ov ++ (tc_wX xx cxx (a 0) (o 0) (g 0) (r 0) ++ (tc_wR r cr (g 0) (a 0) wl wm wt nx ap fa pl ++ (tc_wB g cg gb gz ++ (tc_wB o co ob oz ++ tc_wS a ca kg ug wg sg dg lg eg rg tg ng))))) [(0, .ref (xx 0)), (1, .int kd), (2, .long x), (4, .ref (ou 0))] 9 [.int (nI Tn.length), .int (nI 0), .ref (ou 0)]
      refine x_perm [1, 2, 3, 4, 5, 6, 7, 8, 9, 10, 11, 12, 13, 14, 15, 16, 17, 0] (w' := tc_wX xx cxx (a 0) (o 0) (g 0) (r 0) ++ (tc_wR r cr (g 0) (a 0) wl wm wt nx ap fa pl ++ (tc_wB g cg gb gz ++ (tc_wB o co ob oz ++ (tc_wS a ca kg ug wg sg dg lg eg rg tg ng ++ tc_wU ou cou ov))))) (by decide) rfl rfl ?_
      have hb := (tc_RS_tm g3).1
      rw [g3.2.1] at hb
      refine x_i2l (v := lN Tn.length) C dL_node_9 (nI_l (by omega)) ?_
      refine x_lst C 17 12 (tc_wX xx cxx (a 0) (o 0) (g 0) (r 0) ++ (tc_wR r cr (g 0) (a 0) wl wm wt nx ap fa pl ++ (tc_wB g cg gb gz ++ (tc_wB o co ob oz ++ (tc_wS a ca kg ug wg sg dg lg eg rg tg ng ++ tc_wU ou cou (vp_updL ov 0 (lN Tn.length))))))) rfl rfl rfl rfl (by omega) (by decide) dL_node_10 ?_
      refine x_goto C 22 dL_node_11 (by decide) ?_
      refine x_iconst (v := nI 0) C dL_node_22 (by decide) ?_
      exact x_iret C T .int rfl rfl dL_node_23 (Or.inr (Or.inr (⟨k, Tn, _, _, _, _, _, _, _, _, _, _, rfl, rfl, g1, g2, g3⟩)))
  ·
    rcases hw with ⟨hrv, rfl, g1⟩ | ⟨k, hrv, rfl, g1, g2⟩ | ⟨k, Tn, kg, ug, wg, sg, dg, lg, eg, rg, tg, ng, hrv, rfl, g1, g2, g3⟩
    ·
      cases hrv
      refine ⟨14, xk_cat_L_node_IllegalArgumentException, fun ax => ?_⟩
      show xk_Go K D 6 1 6 (tc_wU ou cou ov ++ (tc_wX xx cxx (a 0) (o 0) (g 0) (r 0) ++ (tc_wR r cr (g 0) (a 0) wl wm wt nx ap fa pl ++ (tc_wB g cg gb gz ++ (tc_wB o co ob oz ++ tc_wS a ca kn nu wo si de la le ro tm nd))))) [(0, .ref (xx 0)), (1, .int kd), (2, .long x), (4, .ref (ou 0))] 14 [.ref ax]
      refine x_perm [1, 2, 3, 4, 5, 6, 7, 8, 9, 10, 11, 12, 13, 14, 15, 16, 17, 0] (w' := tc_wX xx cxx (a 0) (o 0) (g 0) (r 0) ++ (tc_wR r cr (g 0) (a 0) wl wm wt nx ap fa pl ++ (tc_wB g cg gb gz ++ (tc_wB o co ob oz ++ (tc_wS a ca kn nu wo si de la le ro tm nd ++ tc_wU ou cou ov))))) (by decide) rfl rfl ?_
      refine x_astore C [(5, .ref ax), (0, .ref (xx 0)), (1, .int kd), (2, .long x), (4, .ref (ou 0))] dL_node_14 (by decide) rfl ?_
      refine x_iconst (v := nI 1) C dL_node_16 (by decide) ?_
      exact x_iret C T .int rfl rfl dL_node_17 (Or.inl (⟨rfl, rfl, g1⟩))
    ·
      cases hrv
      refine ⟨18, xk_cat_L_node_IllegalStateException, fun ax => ?_⟩
      show xk_Go K D 6 1 6 (tc_wU ou cou ov ++ (tc_wX xx cxx (a 0) (o 0) (g 0) (r 0) ++ (tc_wR r cr (g 0) (a 0) wl wm wt nx ap fa pl ++ (tc_wB g cg gb gz ++ (tc_wB o co ob oz ++ tc_wS a ca kn nu wo si de la le ro tm nd))))) [(0, .ref (xx 0)), (1, .int kd), (2, .long x), (4, .ref (ou 0))] 18 [.ref ax]
      refine x_perm [1, 2, 3, 4, 5, 6, 7, 8, 9, 10, 11, 12, 13, 14, 15, 16, 17, 0] (w' := tc_wX xx cxx (a 0) (o 0) (g 0) (r 0) ++ (tc_wR r cr (g 0) (a 0) wl wm wt nx ap fa pl ++ (tc_wB g cg gb gz ++ (tc_wB o co ob oz ++ (tc_wS a ca kn nu wo si de la le ro tm nd ++ tc_wU ou cou ov))))) (by decide) rfl rfl ?_
      refine x_astore C [(5, .ref ax), (0, .ref (xx 0)), (1, .int kd), (2, .long x), (4, .ref (ou 0))] dL_node_18 (by decide) rfl ?_
      refine x_iconst (v := nI 2) C dL_node_20 (by decide) ?_
      exact x_iret C T .int rfl rfl dL_node_21 (Or.inr (Or.inl (⟨k, rfl, rfl, g1, g2⟩)))
    ·
      cases hrv
set_option maxHeartbeats 4000000 in
set_option maxRecDepth 100000 in
/-- bytes -/
theorem c_L_bytes (D : va_G) (xx : Nat → Nat) (cxx : Nat → ClassId) (r : Nat → Nat) (cr : Nat → ClassId) (g : Nat → Nat) (cg : Nat → ClassId) (o : Nat → Nat) (co : Nat → ClassId) (a : Nat → Nat) (ca : Nat → ClassId) (ou : Nat → Nat) (cou : Nat → ClassId) (wl : Nat → Nat) (wm : Nat → Nat) (wt : Nat) (nx : Nat) (ap : Nat) (fa : Nat) (pl : Option Nat) (gb : Nat → Nat) (gz : Nat) (ob : Nat → Nat) (oz : Nat) (kn : Nat → Nat) (nu : Nat → Int64) (wo : Nat → Int64) (si : Nat → Nat) (de : Nat → Nat) (la : Nat → Nat) (le : Nat → Nat) (ro : Nat → Nat) (tm : Nat) (nd : Nat) (ov : Nat → Int64) (x : Int64) (n : Int32) (Ts : List (List tc_Nd)) (y1 : tc_RS Ts (kn, nu, wo, si, de, la, le) ro tm nd) : xk_CtW [(0, 11, 14, 13), (0, 11, 18, 15)] yL_bytes cL_bytes 6 (some .int) { frames := 7, cells := 1, slots := 6, locals := 172 } D (tc_tX cxx ++ (tc_tR cr ++ (tc_tB cg ++ (tc_tB co ++ (tc_tS ca ++ tc_tU cou))))) [.ref (xx 0), .long x, .int n, .ref (ou 0)] (tc_wX xx cxx (a 0) (o 0) (g 0) (r 0) ++ (tc_wR r cr (g 0) (a 0) wl wm wt nx ap fa pl ++ (tc_wB g cg gb gz ++ (tc_wB o co ob oz ++ (tc_wS a ca kn nu wo si de la le ro tm nd ++ tc_wU ou cou ov))))) (fun rv ru => (rv = some (.int (nI 1)) ∧ ru = tc_wX xx cxx (a 0) (o 0) (g 0) (r 0) ++ (tc_wR r cr (g 0) (a 0) wl wm wt nx ap fa pl ++ (tc_wB g cg gb gz ++ (tc_wB o co ob oz ++ (tc_wS a ca kn nu wo si de la le ro tm nd ++ tc_wU ou cou ov)))) ∧ (tc_bn n = none)) ∨ (∃ (k : Nat), rv = some (.int (nI 2)) ∧ ru = tc_wX xx cxx (a 0) (o 0) (g 0) (r 0) ++ (tc_wR r cr (g 0) (a 0) wl wm wt nx ap fa pl ++ (tc_wB g cg gb gz ++ (tc_wB o co ob oz ++ (tc_wS a ca kn nu wo si de la le ro tm nd ++ tc_wU ou cou ov)))) ∧ (tc_bn n = some k) ∧ (tc_put (8, 0, []) Ts = none)) ∨ (∃ (k : Nat), ∃ (kg : Nat → Nat), ∃ (ug : Nat → Int64), ∃ (wg : Nat → Int64), ∃ (sg : Nat → Nat), ∃ (dg : Nat → Nat), ∃ (lg : Nat → Nat), ∃ (eg : Nat → Nat), ∃ (rg : Nat → Nat), ∃ (tg : Nat), ∃ (ng : Nat), rv = some (.int (nI 0)) ∧ ru = tc_wX xx cxx (a 0) (o 0) (g 0) (r 0) ++ (tc_wR r cr (g 0) (a 0) wl wm wt nx ap fa pl ++ (tc_wB g cg gb gz ++ (tc_wB o co ob oz ++ (tc_wS a ca kg ug wg sg dg lg eg rg tg ng ++ tc_wU ou cou (vp_updL ov 0 (lN (Ts.length + 1))))))) ∧ (tc_bn n = some k) ∧ (tc_put (8, 0, []) Ts = some ([(8, 0, [])] :: Ts)) ∧ (tc_RS ([(8, lN k, tc_bts x k)] :: Ts) (kg, ug, wg, sg, dg, lg, eg) rg tg ng))) := by
  refine xk_enterW (by decide) (Nat.le_of_ble_eq_true rfl) (fun K C T Hx => ?_)
  show xk_Go K D 6 0 0 (tc_wX xx cxx (a 0) (o 0) (g 0) (r 0) ++ (tc_wR r cr (g 0) (a 0) wl wm wt nx ap fa pl ++ (tc_wB g cg gb gz ++ (tc_wB o co ob oz ++ (tc_wS a ca kn nu wo si de la le ro tm nd ++ tc_wU ou cou ov))))) [(0, .ref (xx 0)), (1, .long x), (3, .int n), (4, .ref (ou 0))] 0 []
  refine x_aload C dL_bytes_0 3 rfl ?_
  refine x_iconst (v := nI 0) C dL_bytes_2 (by decide) ?_
  refine x_aload_n C dL_bytes_3 rfl 0 rfl ?_
  refine x_lload_n C dL_bytes_4 rfl 1 rfl ?_
  refine x_iload_n C dL_bytes_5 rfl 2 rfl ?_
  refine x_callVT C Hx (c_X_bytes D xx cxx r cr g cg o co a ca wl wm wt nx ap fa pl gb gz ob oz kn nu wo si de la le ro tm nd x n Ts y1) kbL_17 kcL_17 [0, 1, 2, 3, 4, 5, 6, 7, 8, 9, 10, 11, 12, 13, 14, 15, 16] [17] [0, 1, 2, 3, 4, 5, 6, 7, 8, 9, 10, 11] (tc_wU ou cou ov) rfl rfl (by decide) (by decide) (by decide) rfl 0 rfl rfl ⟨Nat.le_of_ble_eq_true rfl, Nat.le_of_ble_eq_true rfl⟩ ⟨Nat.le_of_ble_eq_true rfl, Nat.le_of_ble_eq_true rfl⟩ [.int (nI 0), .ref (ou 0)] rfl rfl (Nat.le_of_ble_eq_true rfl) dL_bytes_6 (fun rv ru hw => ?_) (fun Xn ru hw => ?_)
  ·
    rcases hw with ⟨hrv, rfl, g1⟩ | ⟨k, hrv, rfl, g1, g2⟩ | ⟨k, kg, ug, wg, sg, dg, lg, eg, rg, tg, ng, hrv, rfl, g1, g2, g3⟩
    ·
      cases hrv
    ·
      cases hrv
    ·
      cases hrv
      show xk_Go K D 6 1 6 (tc_wU ou cou ov ++ (tc_wX xx cxx (a 0) (o 0) (g 0) (r 0) ++ (tc_wR r cr (g 0) (a 0) wl wm wt nx ap fa pl ++ (tc_wB g cg gb gz ++ (tc_wB o co ob oz ++ tc_wS a ca kg ug wg sg dg lg eg rg tg ng))))) [(0, .ref (xx 0)), (1, .long x), (3, .int n), (4, .ref (ou 0))] 9 [.int (nI (Ts.length + 1)), .int (nI 0), .ref (ou 0)]
      refine x_perm [1, 2, 3, 4, 5, 6, 7, 8, 9, 10, 11, 12, 13, 14, 15, 16, 17, 0] (w' := tc_wX xx cxx (a 0) (o 0) (g 0) (r 0) ++ (tc_wR r cr (g 0) (a 0) wl wm wt nx ap fa pl ++ (tc_wB g cg gb gz ++ (tc_wB o co ob oz ++ (tc_wS a ca kg ug wg sg dg lg eg rg tg ng ++ tc_wU ou cou ov))))) (by decide) rfl rfl ?_
      have hb := (tc_RS_tm g3).1
      rw [g3.2.1, List.length_cons] at hb
      refine x_i2l (v := lN (Ts.length + 1)) C dL_bytes_9 (nI_l (by omega)) ?_
      refine x_lst C 17 12 (tc_wX xx cxx (a 0) (o 0) (g 0) (r 0) ++ (tc_wR r cr (g 0) (a 0) wl wm wt nx ap fa pl ++ (tc_wB g cg gb gz ++ (tc_wB o co ob oz ++ (tc_wS a ca kg ug wg sg dg lg eg rg tg ng ++ tc_wU ou cou (vp_updL ov 0 (lN (Ts.length + 1)))))))) rfl rfl rfl rfl (by omega) (by decide) dL_bytes_10 ?_
      refine x_goto C 22 dL_bytes_11 (by decide) ?_
      refine x_iconst (v := nI 0) C dL_bytes_22 (by decide) ?_
      exact x_iret C T .int rfl rfl dL_bytes_23 (Or.inr (Or.inr (⟨k, _, _, _, _, _, _, _, _, _, _, rfl, rfl, g1, g2, g3⟩)))
  ·
    rcases hw with ⟨hrv, rfl, g1⟩ | ⟨k, hrv, rfl, g1, g2⟩ | ⟨k, kg, ug, wg, sg, dg, lg, eg, rg, tg, ng, hrv, rfl, g1, g2, g3⟩
    ·
      cases hrv
      refine ⟨14, xk_cat_L_bytes_IllegalArgumentException, fun ax => ?_⟩
      show xk_Go K D 6 1 6 (tc_wU ou cou ov ++ (tc_wX xx cxx (a 0) (o 0) (g 0) (r 0) ++ (tc_wR r cr (g 0) (a 0) wl wm wt nx ap fa pl ++ (tc_wB g cg gb gz ++ (tc_wB o co ob oz ++ tc_wS a ca kn nu wo si de la le ro tm nd))))) [(0, .ref (xx 0)), (1, .long x), (3, .int n), (4, .ref (ou 0))] 14 [.ref ax]
      refine x_perm [1, 2, 3, 4, 5, 6, 7, 8, 9, 10, 11, 12, 13, 14, 15, 16, 17, 0] (w' := tc_wX xx cxx (a 0) (o 0) (g 0) (r 0) ++ (tc_wR r cr (g 0) (a 0) wl wm wt nx ap fa pl ++ (tc_wB g cg gb gz ++ (tc_wB o co ob oz ++ (tc_wS a ca kn nu wo si de la le ro tm nd ++ tc_wU ou cou ov))))) (by decide) rfl rfl ?_
      refine x_astore C [(5, .ref ax), (0, .ref (xx 0)), (1, .long x), (3, .int n), (4, .ref (ou 0))] dL_bytes_14 (by decide) rfl ?_
      refine x_iconst (v := nI 1) C dL_bytes_16 (by decide) ?_
      exact x_iret C T .int rfl rfl dL_bytes_17 (Or.inl (⟨rfl, rfl, g1⟩))
    ·
      cases hrv
      refine ⟨18, xk_cat_L_bytes_IllegalStateException, fun ax => ?_⟩
      show xk_Go K D 6 1 6 (tc_wU ou cou ov ++ (tc_wX xx cxx (a 0) (o 0) (g 0) (r 0) ++ (tc_wR r cr (g 0) (a 0) wl wm wt nx ap fa pl ++ (tc_wB g cg gb gz ++ (tc_wB o co ob oz ++ tc_wS a ca kn nu wo si de la le ro tm nd))))) [(0, .ref (xx 0)), (1, .long x), (3, .int n), (4, .ref (ou 0))] 18 [.ref ax]
      refine x_perm [1, 2, 3, 4, 5, 6, 7, 8, 9, 10, 11, 12, 13, 14, 15, 16, 17, 0] (w' := tc_wX xx cxx (a 0) (o 0) (g 0) (r 0) ++ (tc_wR r cr (g 0) (a 0) wl wm wt nx ap fa pl ++ (tc_wB g cg gb gz ++ (tc_wB o co ob oz ++ (tc_wS a ca kn nu wo si de la le ro tm nd ++ tc_wU ou cou ov))))) (by decide) rfl rfl ?_
      refine x_astore C [(5, .ref ax), (0, .ref (xx 0)), (1, .long x), (3, .int n), (4, .ref (ou 0))] dL_bytes_18 (by decide) rfl ?_
      refine x_iconst (v := nI 2) C dL_bytes_20 (by decide) ?_
      exact x_iret C T .int rfl rfl dL_bytes_21 (Or.inr (Or.inl (⟨k, rfl, rfl, g1, g2⟩)))
    ·
      cases hrv
set_option maxHeartbeats 4000000 in
set_option maxRecDepth 100000 in
/-- number -/
theorem c_L_number (D : va_G) (xx : Nat → Nat) (cxx : Nat → ClassId) (r : Nat → Nat) (cr : Nat → ClassId) (g : Nat → Nat) (cg : Nat → ClassId) (o : Nat → Nat) (co : Nat → ClassId) (a : Nat → Nat) (ca : Nat → ClassId) (ou : Nat → Nat) (cou : Nat → ClassId) (wl : Nat → Nat) (wm : Nat → Nat) (wt : Nat) (nx : Nat) (ap : Nat) (fa : Nat) (pl : Option Nat) (gb : Nat → Nat) (gz : Nat) (ob : Nat → Nat) (oz : Nat) (kn : Nat → Nat) (nu : Nat → Int64) (wo : Nat → Int64) (si : Nat → Nat) (de : Nat → Nat) (la : Nat → Nat) (le : Nat → Nat) (ro : Nat → Nat) (tm : Nat) (nd : Nat) (ov : Nat → Int64) (k : Int32) (Ts : List (List tc_Nd)) (y1 : tc_RS Ts (kn, nu, wo, si, de, la, le) ro tm nd) : xk_CtW [(0, 8, 11, 13)] yL_number cL_number 4 (some .int) { frames := 7, cells := 1, slots := 6, locals := 112 } D (tc_tX cxx ++ (tc_tR cr ++ (tc_tB cg ++ (tc_tB co ++ (tc_tS ca ++ tc_tU cou))))) [.ref (xx 0), .int k, .ref (ou 0)] (tc_wX xx cxx (a 0) (o 0) (g 0) (r 0) ++ (tc_wR r cr (g 0) (a 0) wl wm wt nx ap fa pl ++ (tc_wB g cg gb gz ++ (tc_wB o co ob oz ++ (tc_wS a ca kn nu wo si de la le ro tm nd ++ tc_wU ou cou ov))))) (fun rv ru => (rv = some (.int (nI 1)) ∧ ru = tc_wX xx cxx (a 0) (o 0) (g 0) (r 0) ++ (tc_wR r cr (g 0) (a 0) wl wm wt nx ap fa pl ++ (tc_wB g cg gb gz ++ (tc_wB o co ob oz ++ (tc_wS a ca kn nu wo si de la le ro tm nd ++ tc_wU ou cou ov)))) ∧ (tc_nba Ts k = none)) ∨ (∃ (v : Int64), rv = some (.int (nI 0)) ∧ ru = tc_wX xx cxx (a 0) (o 0) (g 0) (r 0) ++ (tc_wR r cr (g 0) (a 0) wl wm wt nx ap fa pl ++ (tc_wB g cg gb gz ++ (tc_wB o co ob oz ++ (tc_wS a ca kn nu wo si de la le ro tm nd ++ tc_wU ou cou (vp_updL ov 0 v))))) ∧ (tc_nba Ts k = some v))) := by
  refine xk_enterW (by decide) (Nat.le_of_ble_eq_true rfl) (fun K C T Hx => ?_)
  show xk_Go K D 4 0 0 (tc_wX xx cxx (a 0) (o 0) (g 0) (r 0) ++ (tc_wR r cr (g 0) (a 0) wl wm wt nx ap fa pl ++ (tc_wB g cg gb gz ++ (tc_wB o co ob oz ++ (tc_wS a ca kn nu wo si de la le ro tm nd ++ tc_wU ou cou ov))))) [(0, .ref (xx 0)), (1, .int k), (2, .ref (ou 0))] 0 []
  refine x_aload_n C dL_number_0 rfl 2 rfl ?_
  refine x_iconst (v := nI 0) C dL_number_1 (by decide) ?_
  refine x_aload_n C dL_number_2 rfl 0 rfl ?_
  refine x_iload_n C dL_number_3 rfl 1 rfl ?_
  refine x_callVT C Hx (c_X_number D xx cxx r cr g cg o co a ca wl wm wt nx ap fa pl gb gz ob oz kn nu wo si de la le ro tm nd k Ts y1) kbL_21 kcL_21 [0, 1, 2, 3, 4, 5, 6, 7, 8, 9, 10, 11, 12, 13, 14, 15, 16] [17] [0, 1, 2, 3, 4, 5, 6, 7, 8, 9, 10, 11] (tc_wU ou cou ov) rfl rfl (by decide) (by decide) (by decide) rfl 0 rfl rfl ⟨Nat.le_of_ble_eq_true rfl, Nat.le_of_ble_eq_true rfl⟩ ⟨Nat.le_of_ble_eq_true rfl, Nat.le_of_ble_eq_true rfl⟩ [.int (nI 0), .ref (ou 0)] rfl rfl (Nat.le_of_ble_eq_true rfl) dL_number_4 (fun rv ru hw => ?_) (fun Xn ru hw => ?_)
  ·
    rcases hw with ⟨hrv, rfl, g1⟩ | ⟨v, hrv, rfl, g1⟩
    ·
      cases hrv
    ·
      cases hrv
      show xk_Go K D 4 1 6 (tc_wU ou cou ov ++ (tc_wX xx cxx (a 0) (o 0) (g 0) (r 0) ++ (tc_wR r cr (g 0) (a 0) wl wm wt nx ap fa pl ++ (tc_wB g cg gb gz ++ (tc_wB o co ob oz ++ tc_wS a ca kn nu wo si de la le ro tm nd))))) [(0, .ref (xx 0)), (1, .int k), (2, .ref (ou 0))] 7 [.long v, .int (nI 0), .ref (ou 0)]
      refine x_perm [1, 2, 3, 4, 5, 6, 7, 8, 9, 10, 11, 12, 13, 14, 15, 16, 17, 0] (w' := tc_wX xx cxx (a 0) (o 0) (g 0) (r 0) ++ (tc_wR r cr (g 0) (a 0) wl wm wt nx ap fa pl ++ (tc_wB g cg gb gz ++ (tc_wB o co ob oz ++ (tc_wS a ca kn nu wo si de la le ro tm nd ++ tc_wU ou cou ov))))) (by decide) rfl rfl ?_
      refine x_lst C 17 12 (tc_wX xx cxx (a 0) (o 0) (g 0) (r 0) ++ (tc_wR r cr (g 0) (a 0) wl wm wt nx ap fa pl ++ (tc_wB g cg gb gz ++ (tc_wB o co ob oz ++ (tc_wS a ca kn nu wo si de la le ro tm nd ++ tc_wU ou cou (vp_updL ov 0 v)))))) rfl rfl rfl rfl (by omega) (by decide) dL_number_7 ?_
      refine x_goto C 14 dL_number_8 (by decide) ?_
      refine x_iconst (v := nI 0) C dL_number_14 (by decide) ?_
      exact x_iret C T .int rfl rfl dL_number_15 (Or.inr (⟨v, rfl, rfl, g1⟩))
  ·
    rcases hw with ⟨hrv, rfl, g1⟩ | ⟨v, hrv, rfl, g1⟩
    ·
      cases hrv
      refine ⟨11, xk_cat_L_number_IllegalArgumentException, fun ax => ?_⟩
      show xk_Go K D 4 1 6 (tc_wU ou cou ov ++ (tc_wX xx cxx (a 0) (o 0) (g 0) (r 0) ++ (tc_wR r cr (g 0) (a 0) wl wm wt nx ap fa pl ++ (tc_wB g cg gb gz ++ (tc_wB o co ob oz ++ tc_wS a ca kn nu wo si de la le ro tm nd))))) [(0, .ref (xx 0)), (1, .int k), (2, .ref (ou 0))] 11 [.ref ax]
      refine x_perm [1, 2, 3, 4, 5, 6, 7, 8, 9, 10, 11, 12, 13, 14, 15, 16, 17, 0] (w' := tc_wX xx cxx (a 0) (o 0) (g 0) (r 0) ++ (tc_wR r cr (g 0) (a 0) wl wm wt nx ap fa pl ++ (tc_wB g cg gb gz ++ (tc_wB o co ob oz ++ (tc_wS a ca kn nu wo si de la le ro tm nd ++ tc_wU ou cou ov))))) (by decide) rfl rfl ?_
      refine x_astore_n C [(3, .ref ax), (0, .ref (xx 0)), (1, .int k), (2, .ref (ou 0))] dL_number_11 rfl (by decide) rfl ?_
      refine x_iconst (v := nI 1) C dL_number_12 (by decide) ?_
      exact x_iret C T .int rfl rfl dL_number_13 (Or.inl (⟨rfl, rfl, g1⟩))
    ·
      cases hrv
set_option maxHeartbeats 4000000 in
set_option maxRecDepth 100000 in
/-- same -/
theorem c_L_same (D : va_G) (xx : Nat → Nat) (cxx : Nat → ClassId) (r : Nat → Nat) (cr : Nat → ClassId) (g : Nat → Nat) (cg : Nat → ClassId) (o : Nat → Nat) (co : Nat → ClassId) (a : Nat → Nat) (ca : Nat → ClassId) (ou : Nat → Nat) (cou : Nat → ClassId) (wl : Nat → Nat) (wm : Nat → Nat) (wt : Nat) (nx : Nat) (ap : Nat) (fa : Nat) (pl : Option Nat) (gb : Nat → Nat) (gz : Nat) (ob : Nat → Nat) (oz : Nat) (kn : Nat → Nat) (nu : Nat → Int64) (wo : Nat → Int64) (si : Nat → Nat) (de : Nat → Nat) (la : Nat → Nat) (le : Nat → Nat) (ro : Nat → Nat) (tm : Nat) (nd : Nat) (ov : Nat → Int64) (Ts : List (List tc_Nd)) (y1 : tc_RS Ts (kn, nu, wo, si, de, la, le) ro tm nd) : xk_CtW [(0, 15, 18, 15)] yL_same cL_same 3 (some .int) { frames := 7, cells := 1, slots := 6, locals := 111 } D (tc_tX cxx ++ (tc_tR cr ++ (tc_tB cg ++ (tc_tB co ++ (tc_tS ca ++ tc_tU cou))))) [.ref (xx 0), .ref (ou 0)] (tc_wX xx cxx (a 0) (o 0) (g 0) (r 0) ++ (tc_wR r cr (g 0) (a 0) wl wm wt nx ap fa pl ++ (tc_wB g cg gb gz ++ (tc_wB o co ob oz ++ (tc_wS a ca kn nu wo si de la le ro tm nd ++ tc_wU ou cou ov))))) (fun rv ru => (rv = some (.int (nI 1)) ∧ ru = tc_wX xx cxx (a 0) (o 0) (g 0) (r 0) ++ (tc_wR r cr (g 0) (a 0) wl wm wt nx ap fa pl ++ (tc_wB g cg gb gz ++ (tc_wB o co ob oz ++ (tc_wS a ca kn nu wo si de la le ro tm nd ++ tc_wU ou cou ov)))) ∧ (tc_sm Ts = none)) ∨ (rv = some (.int (nI 0)) ∧ ru = tc_wX xx cxx (a 0) (o 0) (g 0) (r 0) ++ (tc_wR r cr (g 0) (a 0) wl wm wt nx ap fa pl ++ (tc_wB g cg gb gz ++ (tc_wB o co ob oz ++ (tc_wS a ca kn nu wo si de la le ro tm nd ++ tc_wU ou cou (vp_updL ov 0 1))))) ∧ (tc_sm Ts = some true)) ∨ (rv = some (.int (nI 0)) ∧ ru = tc_wX xx cxx (a 0) (o 0) (g 0) (r 0) ++ (tc_wR r cr (g 0) (a 0) wl wm wt nx ap fa pl ++ (tc_wB g cg gb gz ++ (tc_wB o co ob oz ++ (tc_wS a ca kn nu wo si de la le ro tm nd ++ tc_wU ou cou (vp_updL ov 0 0))))) ∧ (tc_sm Ts = some false))) := by
  refine xk_enterW (by decide) (Nat.le_of_ble_eq_true rfl) (fun K C T Hx => ?_)
  show xk_Go K D 3 0 0 (tc_wX xx cxx (a 0) (o 0) (g 0) (r 0) ++ (tc_wR r cr (g 0) (a 0) wl wm wt nx ap fa pl ++ (tc_wB g cg gb gz ++ (tc_wB o co ob oz ++ (tc_wS a ca kn nu wo si de la le ro tm nd ++ tc_wU ou cou ov))))) [(0, .ref (xx 0)), (1, .ref (ou 0))] 0 []
  refine x_aload_n C dL_same_0 rfl 1 rfl ?_
  refine x_iconst (v := nI 0) C dL_same_1 (by decide) ?_
  refine x_aload_n C dL_same_2 rfl 0 rfl ?_
  refine x_callVT C Hx (c_X_same D xx cxx r cr g cg o co a ca wl wm wt nx ap fa pl gb gz ob oz kn nu wo si de la le ro tm nd Ts y1) kbL_25 kcL_25 [0, 1, 2, 3, 4, 5, 6, 7, 8, 9, 10, 11, 12, 13, 14, 15, 16] [17] [0, 1, 2, 3, 4, 5, 6, 7, 8, 9, 10, 11] (tc_wU ou cou ov) rfl rfl (by decide) (by decide) (by decide) rfl 0 rfl rfl ⟨Nat.le_of_ble_eq_true rfl, Nat.le_of_ble_eq_true rfl⟩ ⟨Nat.le_of_ble_eq_true rfl, Nat.le_of_ble_eq_true rfl⟩ [.int (nI 0), .ref (ou 0)] rfl rfl (Nat.le_of_ble_eq_true rfl) dL_same_3 (fun rv ru hw => ?_) (fun Xn ru hw => ?_)
  ·
    rcases hw with ⟨hrv, rfl, g1⟩ | ⟨b, hrv, rfl, g1⟩
    ·
      cases hrv
    ·
      cases hrv
      show xk_Go K D 3 1 6 (tc_wU ou cou ov ++ (tc_wX xx cxx (a 0) (o 0) (g 0) (r 0) ++ (tc_wR r cr (g 0) (a 0) wl wm wt nx ap fa pl ++ (tc_wB g cg gb gz ++ (tc_wB o co ob oz ++ tc_wS a ca kn nu wo si de la le ro tm nd))))) [(0, .ref (xx 0)), (1, .ref (ou 0))] 6 [.int (xk_bZ b), .int (nI 0), .ref (ou 0)]
      refine x_perm [1, 2, 3, 4, 5, 6, 7, 8, 9, 10, 11, 12, 13, 14, 15, 16, 17, 0] (w' := tc_wX xx cxx (a 0) (o 0) (g 0) (r 0) ++ (tc_wR r cr (g 0) (a 0) wl wm wt nx ap fa pl ++ (tc_wB g cg gb gz ++ (tc_wB o co ob oz ++ (tc_wS a ca kn nu wo si de la le ro tm nd ++ tc_wU ou cou ov))))) (by decide) rfl rfl ?_
      refine x_if_eqB (tgt := 13) C dL_same_6 (by decide) (fun h6 => ?_) (fun h6 => ?_)
      ·
        refine x_lconst (v := 0) C dL_same_13 (by decide) ?_
        refine x_lst C 17 12 (tc_wX xx cxx (a 0) (o 0) (g 0) (r 0) ++ (tc_wR r cr (g 0) (a 0) wl wm wt nx ap fa pl ++ (tc_wB g cg gb gz ++ (tc_wB o co ob oz ++ (tc_wS a ca kn nu wo si de la le ro tm nd ++ tc_wU ou cou (vp_updL ov 0 0)))))) rfl rfl rfl rfl (by omega) (by decide) dL_same_14 ?_
        refine x_goto C 21 dL_same_15 (by decide) ?_
        refine x_iconst (v := nI 0) C dL_same_21 (by decide) ?_
        exact x_iret C T .int rfl rfl dL_same_22 (Or.inr (Or.inr (⟨rfl, rfl, (by rw [g1, h6])⟩)))
      ·
        refine x_lconst (v := 1) C dL_same_9 (by decide) ?_
        refine x_goto C 14 dL_same_10 (by decide) ?_
        refine x_lst C 17 12 (tc_wX xx cxx (a 0) (o 0) (g 0) (r 0) ++ (tc_wR r cr (g 0) (a 0) wl wm wt nx ap fa pl ++ (tc_wB g cg gb gz ++ (tc_wB o co ob oz ++ (tc_wS a ca kn nu wo si de la le ro tm nd ++ tc_wU ou cou (vp_updL ov 0 1)))))) rfl rfl rfl rfl (by omega) (by decide) dL_same_14 ?_
        refine x_goto C 21 dL_same_15 (by decide) ?_
        refine x_iconst (v := nI 0) C dL_same_21 (by decide) ?_
        exact x_iret C T .int rfl rfl dL_same_22 (Or.inr (Or.inl (⟨rfl, rfl, (by rw [g1, h6])⟩)))
  ·
    rcases hw with ⟨hrv, rfl, g1⟩ | ⟨b, hrv, rfl, g1⟩
    ·
      cases hrv
      refine ⟨18, xk_cat_L_same_IllegalStateException, fun ax => ?_⟩
      show xk_Go K D 3 1 6 (tc_wU ou cou ov ++ (tc_wX xx cxx (a 0) (o 0) (g 0) (r 0) ++ (tc_wR r cr (g 0) (a 0) wl wm wt nx ap fa pl ++ (tc_wB g cg gb gz ++ (tc_wB o co ob oz ++ tc_wS a ca kn nu wo si de la le ro tm nd))))) [(0, .ref (xx 0)), (1, .ref (ou 0))] 18 [.ref ax]
      refine x_perm [1, 2, 3, 4, 5, 6, 7, 8, 9, 10, 11, 12, 13, 14, 15, 16, 17, 0] (w' := tc_wX xx cxx (a 0) (o 0) (g 0) (r 0) ++ (tc_wR r cr (g 0) (a 0) wl wm wt nx ap fa pl ++ (tc_wB g cg gb gz ++ (tc_wB o co ob oz ++ (tc_wS a ca kn nu wo si de la le ro tm nd ++ tc_wU ou cou ov))))) (by decide) rfl rfl ?_
      refine x_astore_n C [(2, .ref ax), (0, .ref (xx 0)), (1, .ref (ou 0))] dL_same_18 rfl (by decide) rfl ?_
      refine x_iconst (v := nI 1) C dL_same_19 (by decide) ?_
      exact x_iret C T .int rfl rfl dL_same_20 (Or.inl (⟨rfl, rfl, g1⟩))
    ·
      cases hrv
