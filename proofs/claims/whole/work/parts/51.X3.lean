set_option maxHeartbeats 4000000 in
set_option maxRecDepth 100000 in
/-- look -/
theorem c_X_look (D : va_G) (xx : Nat → Nat) (cxx : Nat → ClassId) (r : Nat → Nat) (cr : Nat → ClassId) (g : Nat → Nat) (cg : Nat → ClassId) (o : Nat → Nat) (co : Nat → ClassId) (a : Nat → Nat) (ca : Nat → ClassId) (wl : Nat → Nat) (wm : Nat → Nat) (wt : Nat) (nx : Nat) (ap : Nat) (fa : Nat) (pl : Option Nat) (gb : Nat → Nat) (gz : Nat) (ob : Nat → Nat) (oz : Nat) (kn : Nat → Nat) (nu : Nat → Int64) (wo : Nat → Int64) (si : Nat → Nat) (de : Nat → Nat) (la : Nat → Nat) (le : Nat → Nat) (ro : Nat → Nat) (tm : Nat) (nd : Nat) (w : Int32) (Ts : List (List tc_Nd)) (y1 : tc_RS Ts (kn, nu, wo, si, de, la, le) ro tm nd) : xk_Ct yX_look cX_look 2 (some .int) { frames := 4, cells := 0, slots := 0, locals := 82 } D (tc_tX cxx ++ (tc_tR cr ++ (tc_tB cg ++ (tc_tB co ++ tc_tS ca)))) [.ref (xx 0), .int w] (tc_wX xx cxx (a 0) (o 0) (g 0) (r 0) ++ (tc_wR r cr (g 0) (a 0) wl wm wt nx ap fa pl ++ (tc_wB g cg gb gz ++ (tc_wB o co ob oz ++ tc_wS a ca kn nu wo si de la le ro tm nd)))) (fun rv ru => (rv = some (.int (xk_oI (tc_look tm nd oz gz ap fa pl (tc_lln Ts) w))) ∧ ru = tc_wX xx cxx (a 0) (o 0) (g 0) (r 0) ++ (tc_wR r cr (g 0) (a 0) wl wm wt nx ap fa pl ++ (tc_wB g cg gb gz ++ (tc_wB o co ob oz ++ tc_wS a ca kn nu wo si de la le ro tm nd))))) := by
  refine xk_enter (by decide) (Nat.le_of_ble_eq_true rfl) (fun K C T hin => ?_)
  show xk_Go K D 2 0 0 (tc_wX xx cxx (a 0) (o 0) (g 0) (r 0) ++ (tc_wR r cr (g 0) (a 0) wl wm wt nx ap fa pl ++ (tc_wB g cg gb gz ++ (tc_wB o co ob oz ++ tc_wS a ca kn nu wo si de la le ro tm nd)))) [(0, .ref (xx 0)), (1, .int w)] 0 []
  refine x_iload_n C dX_look_0 rfl 1 rfl ?_
  rcases tc_w8 w with rfl | rfl | rfl | rfl | rfl | rfl | rfl | rfl | hw
  ·
    refine x_tblIn C 48 dX_look_1 (by decide) (by decide) rfl (by decide) ?_
    refine x_aload_n C dX_look_48 rfl 0 rfl ?_
    refine x_get C fgX_10 0 rfl rfl dX_look_49 ?_
    refine x_get C fgX_35 8 rfl rfl dX_look_52 ?_
    exact x_iret C T .int rfl rfl dX_look_55 (⟨by unfold tc_look; rw [if_pos rfl]; rfl, rfl⟩)
  ·
    refine x_tblIn C 56 dX_look_1 (by decide) (by decide) rfl (by decide) ?_
    refine x_aload_n C dX_look_56 rfl 0 rfl ?_
    refine x_get C fgX_10 0 rfl rfl dX_look_57 ?_
    refine x_get C fgX_39 8 rfl rfl dX_look_60 ?_
    exact x_iret C T .int rfl rfl dX_look_63 (⟨by unfold tc_look; rw [if_neg (show ¬ (nI 1 = nI 0) by decide), if_pos rfl]; rfl, rfl⟩)
  ·
    refine x_tblIn C 64 dX_look_1 (by decide) (by decide) rfl (by decide) ?_
    refine x_aload_n C dX_look_64 rfl 0 rfl ?_
    refine x_get C fgX_19 0 rfl rfl dX_look_65 ?_
    refine x_get C fgX_103 6 rfl rfl dX_look_68 ?_
    exact x_iret C T .int rfl rfl dX_look_71 (⟨by unfold tc_look; rw [if_neg (show ¬ (nI 2 = nI 0) by decide), if_neg (show ¬ (nI 2 = nI 1) by decide), if_pos rfl]; rfl, rfl⟩)
  ·
    refine x_tblIn C 72 dX_look_1 (by decide) (by decide) rfl (by decide) ?_
    refine x_aload_n C dX_look_72 rfl 0 rfl ?_
    refine x_get C fgX_23 0 rfl rfl dX_look_73 ?_
    refine x_get C fgX_103 4 rfl rfl dX_look_76 ?_
    exact x_iret C T .int rfl rfl dX_look_79 (⟨by unfold tc_look; rw [if_neg (show ¬ (nI 3 = nI 0) by decide), if_neg (show ¬ (nI 3 = nI 1) by decide), if_neg (show ¬ (nI 3 = nI 2) by decide), if_pos rfl]; rfl, rfl⟩)
  ·
    refine x_tblIn C 80 dX_look_1 (by decide) (by decide) rfl (by decide) ?_
    refine x_aload_n C dX_look_80 rfl 0 rfl ?_
    refine x_get C fgX_31 0 rfl rfl dX_look_81 ?_
    refine x_get C fgX_114 1 rfl rfl dX_look_84 ?_
    exact x_iret C T .int rfl rfl dX_look_87 (⟨by unfold tc_look; rw [if_neg (show ¬ (nI 4 = nI 0) by decide), if_neg (show ¬ (nI 4 = nI 1) by decide), if_neg (show ¬ (nI 4 = nI 2) by decide), if_neg (show ¬ (nI 4 = nI 3) by decide), if_pos rfl]; rfl, rfl⟩)
  ·
    refine x_tblIn C 88 dX_look_1 (by decide) (by decide) rfl (by decide) ?_
    refine x_aload_n C dX_look_88 rfl 0 rfl ?_
    refine x_get C fgX_31 0 rfl rfl dX_look_89 ?_
    refine x_get C fgX_164 1 rfl rfl dX_look_92 ?_
    exact x_iret C T .int rfl rfl dX_look_95 (⟨by unfold tc_look; rw [if_neg (show ¬ (nI 5 = nI 0) by decide), if_neg (show ¬ (nI 5 = nI 1) by decide), if_neg (show ¬ (nI 5 = nI 2) by decide), if_neg (show ¬ (nI 5 = nI 3) by decide), if_neg (show ¬ (nI 5 = nI 4) by decide), if_pos rfl]; rfl, rfl⟩)
  ·
    refine x_tblIn C 96 dX_look_1 (by decide) (by decide) rfl (by decide) ?_
    refine x_aload_n C dX_look_96 rfl 0 rfl ?_
    refine x_get C fgX_31 0 rfl rfl dX_look_97 ?_
    refine x_get C fgX_167 1 rfl rfl dX_look_100 ?_
    exact x_iret C T .int rfl rfl dX_look_103 (⟨by unfold tc_look; rw [if_neg (show ¬ (nI 6 = nI 0) by decide), if_neg (show ¬ (nI 6 = nI 1) by decide), if_neg (show ¬ (nI 6 = nI 2) by decide), if_neg (show ¬ (nI 6 = nI 3) by decide), if_neg (show ¬ (nI 6 = nI 4) by decide), if_neg (show ¬ (nI 6 = nI 5) by decide), if_pos rfl], rfl⟩)
  ·
    refine x_tblIn C 104 dX_look_1 (by decide) (by decide) rfl (by decide) ?_
    refine x_aload_n C dX_look_104 rfl 0 rfl ?_
    refine x_get C fgX_10 0 rfl rfl dX_look_105 ?_
    refine x_callV C (c_S_lastLength D a ca kn nu wo si de la le ro tm nd ((tc_RS_tm y1).1) (fun h => by obtain ⟨t, R, rfl⟩ := tc_RS_cons y1 h; obtain ⟨z1, z2, z3, z4, z5, z6, z7, z8, z9, z10, z11, z12⟩ := tc_top y1; omega)) kbX_170 kcX_170 [8, 9, 10, 11, 12, 13, 14, 15, 16] [0, 1, 2, 3, 4, 5, 6, 7] [4, 5, 6, 7, 8, 9, 10, 11] (tc_wX xx cxx (a 0) (o 0) (g 0) (r 0) ++ (tc_wR r cr (g 0) (a 0) wl wm wt nx ap fa pl ++ (tc_wB g cg gb gz ++ tc_wB o co ob oz))) rfl rfl (by decide) (by decide) (by decide) rfl 0 rfl rfl ⟨Nat.le_of_ble_eq_true rfl, Nat.le_of_ble_eq_true rfl⟩ ⟨Nat.le_of_ble_eq_true rfl, Nat.le_of_ble_eq_true rfl⟩ [] rfl rfl (Nat.le_of_ble_eq_true rfl) dX_look_108 (fun rv ru hw => ?_)
    rcases hw with ⟨rfl, rfl, g1⟩ | ⟨rfl, rfl, g1⟩
    ·
      show xk_Go K D 2 0 0 (tc_wX xx cxx (a 0) (o 0) (g 0) (r 0) ++ (tc_wR r cr (g 0) (a 0) wl wm wt nx ap fa pl ++ (tc_wB g cg gb gz ++ (tc_wB o co ob oz ++ tc_wS a ca kn nu wo si de la le ro tm nd)))) [(0, .ref (xx 0)), (1, .int (nI 7))] 111 [.int (xk_oI none)]
      exact x_iret C T .int rfl rfl dX_look_111 (⟨by unfold tc_look; rw [if_neg (show ¬ (nI 7 = nI 0) by decide), if_neg (show ¬ (nI 7 = nI 1) by decide), if_neg (show ¬ (nI 7 = nI 2) by decide), if_neg (show ¬ (nI 7 = nI 3) by decide), if_neg (show ¬ (nI 7 = nI 4) by decide), if_neg (show ¬ (nI 7 = nI 5) by decide), if_neg (show ¬ (nI 7 = nI 6) by decide), if_pos rfl]; rw [tc_RS_nil y1 g1]; rfl, rfl⟩)
    ·
      show xk_Go K D 2 0 0 (tc_wX xx cxx (a 0) (o 0) (g 0) (r 0) ++ (tc_wR r cr (g 0) (a 0) wl wm wt nx ap fa pl ++ (tc_wB g cg gb gz ++ (tc_wB o co ob oz ++ tc_wS a ca kn nu wo si de la le ro tm nd)))) [(0, .ref (xx 0)), (1, .int (nI 7))] 111 [.int (nI (le (ro (tm - 1))))]
      obtain ⟨t, R, rfl⟩ := tc_RS_cons y1 g1
      obtain ⟨z1, z2, z3, z4, z5, z6, z7, z8, z9, z10, z11, z12⟩ := tc_top y1
      exact x_iret C T .int rfl rfl dX_look_111 (⟨by unfold tc_look; rw [if_neg (show ¬ (nI 7 = nI 0) by decide), if_neg (show ¬ (nI 7 = nI 1) by decide), if_neg (show ¬ (nI 7 = nI 2) by decide), if_neg (show ¬ (nI 7 = nI 3) by decide), if_neg (show ¬ (nI 7 = nI 4) by decide), if_neg (show ¬ (nI 7 = nI 5) by decide), if_neg (show ¬ (nI 7 = nI 6) by decide), if_pos rfl]; show _ = some (Value.int (nI (tc_ln t))); rw [z2, z12], rfl⟩)
  ·
    refine x_tblOut C 112 dX_look_1 hw (by decide) ?_
    refine x_iconst (v := xk_oI none) C dX_look_112 (by decide) ?_
    exact x_iret C T .int rfl rfl dX_look_113 (⟨by rw [tc_look_no hw], rfl⟩)
set_option maxHeartbeats 4000000 in
set_option maxRecDepth 100000 in
/-- of -/
theorem c_X_of (D : va_G) (xx : Nat → Nat) (cxx : Nat → ClassId) (r : Nat → Nat) (cr : Nat → ClassId) (g : Nat → Nat) (cg : Nat → ClassId) (o : Nat → Nat) (co : Nat → ClassId) (a : Nat → Nat) (ca : Nat → ClassId) (wl : Nat → Nat) (wm : Nat → Nat) (wt : Nat) (nx : Nat) (ap : Nat) (fa : Nat) (pl : Option Nat) (gb : Nat → Nat) (gz : Nat) (ob : Nat → Nat) (oz : Nat) (kn : Nat → Nat) (nu : Nat → Int64) (wo : Nat → Int64) (si : Nat → Nat) (de : Nat → Nat) (la : Nat → Nat) (le : Nat → Nat) (ro : Nat → Nat) (tm : Nat) (nd : Nat) (k : Int32) (w : Int32) (Ts : List (List tc_Nd)) (y1 : tc_RS Ts (kn, nu, wo, si, de, la, le) ro tm nd) : xk_Ct yX_of cX_of 4 (some .int) { frames := 5, cells := 0, slots := 0, locals := 107 } D (tc_tX cxx ++ (tc_tR cr ++ (tc_tB cg ++ (tc_tB co ++ tc_tS ca)))) [.ref (xx 0), .int k, .int w] (tc_wX xx cxx (a 0) (o 0) (g 0) (r 0) ++ (tc_wR r cr (g 0) (a 0) wl wm wt nx ap fa pl ++ (tc_wB g cg gb gz ++ (tc_wB o co ob oz ++ tc_wS a ca kn nu wo si de la le ro tm nd)))) (fun rv ru => (rv = some (.int (xk_oI (tc_ofa Ts k w))) ∧ ru = tc_wX xx cxx (a 0) (o 0) (g 0) (r 0) ++ (tc_wR r cr (g 0) (a 0) wl wm wt nx ap fa pl ++ (tc_wB g cg gb gz ++ (tc_wB o co ob oz ++ tc_wS a ca kn nu wo si de la le ro tm nd))))) := by
  refine xk_enter (by decide) (Nat.le_of_ble_eq_true rfl) (fun K C T hin => ?_)
  show xk_Go K D 4 0 0 (tc_wX xx cxx (a 0) (o 0) (g 0) (r 0) ++ (tc_wR r cr (g 0) (a 0) wl wm wt nx ap fa pl ++ (tc_wB g cg gb gz ++ (tc_wB o co ob oz ++ tc_wS a ca kn nu wo si de la le ro tm nd)))) [(0, .ref (xx 0)), (1, .int k), (2, .int w)] 0 []
  refine x_aload_n C dX_of_0 rfl 0 rfl ?_
  refine x_get C fgX_10 0 rfl rfl dX_of_1 ?_
  refine x_iload_n C dX_of_4 rfl 1 rfl ?_
  refine x_callV C (c_S_find D a ca kn nu wo si de la le ro tm nd k ((tc_RS_tm y1).1) (fun h => by obtain ⟨t, R, rfl⟩ := tc_RS_cons y1 h; obtain ⟨z1, z2, z3, z4, z5, z6, z7, z8, z9, z10, z11, z12⟩ := tc_top y1; omega) (fun h => by obtain ⟨t, R, rfl⟩ := tc_RS_cons y1 h; obtain ⟨z1, z2, z3, z4, z5, z6, z7, z8, z9, z10, z11, z12⟩ := tc_top y1; rw [z2, z9]; omega)) kbX_124 kcX_124 [8, 9, 10, 11, 12, 13, 14, 15, 16] [0, 1, 2, 3, 4, 5, 6, 7] [4, 5, 6, 7, 8, 9, 10, 11] (tc_wX xx cxx (a 0) (o 0) (g 0) (r 0) ++ (tc_wR r cr (g 0) (a 0) wl wm wt nx ap fa pl ++ (tc_wB g cg gb gz ++ tc_wB o co ob oz))) rfl rfl (by decide) (by decide) (by decide) rfl 0 rfl rfl ⟨Nat.le_of_ble_eq_true rfl, Nat.le_of_ble_eq_true rfl⟩ ⟨Nat.le_of_ble_eq_true rfl, Nat.le_of_ble_eq_true rfl⟩ [] rfl rfl (Nat.le_of_ble_eq_true rfl) dX_of_5 (fun rv ru hw => ?_)
  rcases hw with ⟨rfl, rfl, g1⟩ | ⟨j, rfl, rfl, g1, g2, g3⟩
  ·
    show xk_Go K D 4 0 0 (tc_wX xx cxx (a 0) (o 0) (g 0) (r 0) ++ (tc_wR r cr (g 0) (a 0) wl wm wt nx ap fa pl ++ (tc_wB g cg gb gz ++ (tc_wB o co ob oz ++ tc_wS a ca kn nu wo si de la le ro tm nd)))) [(0, .ref (xx 0)), (1, .int k), (2, .int w)] 8 [.int (xk_oI none)]
    have hno : tc_nth Ts k = none := tc_nth_no y1 g1
    refine x_istore_n C [(3, .int (xk_oI none)), (0, .ref (xx 0)), (1, .int k), (2, .int w)] dX_of_8 rfl (by decide) rfl ?_
    refine x_iload_n C dX_of_9 rfl 0 rfl ?_
    refine x_if_ge (tgt := 15) C dX_of_10 (by decide) (fun h => absurd h (by decide)) (fun _ => ?_)
    refine x_iconst (v := xk_oI none) C dX_of_13 (by decide) ?_
    exact x_iret C T .int rfl rfl dX_of_14 (⟨by rw [tc_ofa_none hno], rfl⟩)
  ·
    show xk_Go K D 4 0 0 (tc_wX xx cxx (a 0) (o 0) (g 0) (r 0) ++ (tc_wR r cr (g 0) (a 0) wl wm wt nx ap fa pl ++ (tc_wB g cg gb gz ++ (tc_wB o co ob oz ++ tc_wS a ca kn nu wo si de la le ro tm nd)))) [(0, .ref (xx 0)), (1, .int k), (2, .int w)] 8 [.int (nI (ro (tm - 1) + j))]
    obtain ⟨t, R, rfl⟩ := tc_RS_cons y1 g3
    obtain ⟨z1, z2, z3, z4, z5, z6, z7, z8, z9, z10, z11, z12⟩ := tc_top y1
    subst g1
    rw [z2, z9] at g2
    have zt := y1.1 t List.mem_cons_self
    have hth : tc_nth (t :: R) (nI j) = some j := tc_nth_some g2 (by omega)
    obtain ⟨x, hxj⟩ : ∃ x, t[j]? = some x := ⟨_, List.getElem?_eq_getElem g2⟩
    have hxd := tc_drop1 hxj
    have hn := tc_at_k z8 hxj
    rw [← z2] at hn
    have hxo := zt.2.2 x (List.mem_of_getElem? hxj)
    have hx11 := hxo.1
    refine x_istore_n C [(3, .int (nI (ro (tm - 1) + j))), (0, .ref (xx 0)), (1, .int (nI j)), (2, .int w)] dX_of_8 rfl (by decide) rfl ?_
    refine x_iload_n C dX_of_9 rfl 0 rfl ?_
    refine x_if_geN (tgt := 15) C (by omega) dX_of_10 (by decide) ?_
    refine x_iload_n C dX_of_15 rfl 3 rfl ?_
    rcases tc_w6 w with rfl | rfl | rfl | rfl | rfl | rfl | hw
    ·
      refine x_tblIn C 56 dX_of_16 (by decide) (by decide) rfl (by decide) ?_
      refine x_aload_n C dX_of_56 rfl 1 rfl ?_
      refine x_get C fgX_10 0 rfl rfl dX_of_57 ?_
      refine x_get C fgX_128 8 rfl rfl dX_of_60 ?_
      refine x_iload_n C dX_of_63 rfl 0 rfl ?_
      refine x_ild C 9 4 rfl rfl (by omega) (by decide) dX_of_64 ?_
      show xk_Go K D 4 0 0 (tc_wX xx cxx (a 0) (o 0) (g 0) (r 0) ++ (tc_wR r cr (g 0) (a 0) wl wm wt nx ap fa pl ++ (tc_wB g cg gb gz ++ (tc_wB o co ob oz ++ tc_wS a ca kn nu wo si de la le ro tm nd)))) [(3, .int (nI (ro (tm - 1) + j))), (0, .ref (xx 0)), (1, .int (nI j)), (2, .int (nI 0))] 65 [.int (nI (kn (ro (tm - 1) + j)))]
      exact x_iret C T .int rfl rfl dX_of_65 (⟨by rw [tc_ofa_some hth hxd]; unfold tc_ofn; rw [if_pos rfl]; rw [hn.1]; rfl, rfl⟩)
    ·
      refine x_tblIn C 66 dX_of_16 (by decide) (by decide) rfl (by decide) ?_
      refine x_aload_n C dX_of_66 rfl 1 rfl ?_
      refine x_get C fgX_10 0 rfl rfl dX_of_67 ?_
      refine x_get C fgX_96 8 rfl rfl dX_of_70 ?_
      refine x_iload_n C dX_of_73 rfl 0 rfl ?_
      refine x_ild C 12 7 rfl rfl (by omega) (by decide) dX_of_74 ?_
      show xk_Go K D 4 0 0 (tc_wX xx cxx (a 0) (o 0) (g 0) (r 0) ++ (tc_wR r cr (g 0) (a 0) wl wm wt nx ap fa pl ++ (tc_wB g cg gb gz ++ (tc_wB o co ob oz ++ tc_wS a ca kn nu wo si de la le ro tm nd)))) [(3, .int (nI (ro (tm - 1) + j))), (0, .ref (xx 0)), (1, .int (nI j)), (2, .int (nI 1))] 75 [.int (nI (si (ro (tm - 1) + j)))]
      exact x_iret C T .int rfl rfl dX_of_75 (⟨by rw [tc_ofa_some hth hxd]; unfold tc_ofn; rw [if_neg (show ¬ (nI 1 = nI 0) by decide), if_pos rfl]; rw [hn.2.2.2.1]; rfl, rfl⟩)
    ·
      refine x_tblIn C 76 dX_of_16 (by decide) (by decide) rfl (by decide) ?_
      refine x_aload_n C dX_of_76 rfl 1 rfl ?_
      refine x_get C fgX_10 0 rfl rfl dX_of_77 ?_
      refine x_get C fgX_131 8 rfl rfl dX_of_80 ?_
      refine x_iload_n C dX_of_83 rfl 0 rfl ?_
      refine x_ild C 13 8 rfl rfl (by omega) (by decide) dX_of_84 ?_
      show xk_Go K D 4 0 0 (tc_wX xx cxx (a 0) (o 0) (g 0) (r 0) ++ (tc_wR r cr (g 0) (a 0) wl wm wt nx ap fa pl ++ (tc_wB g cg gb gz ++ (tc_wB o co ob oz ++ tc_wS a ca kn nu wo si de la le ro tm nd)))) [(3, .int (nI (ro (tm - 1) + j))), (0, .ref (xx 0)), (1, .int (nI j)), (2, .int (nI 2))] 85 [.int (nI (de (ro (tm - 1) + j)))]
      exact x_iret C T .int rfl rfl dX_of_85 (⟨by rw [tc_ofa_some hth hxd]; unfold tc_ofn; rw [if_neg (show ¬ (nI 2 = nI 0) by decide), if_neg (show ¬ (nI 2 = nI 1) by decide), if_pos rfl]; rw [hn.2.2.2.2.1]; rfl, rfl⟩)
    ·
      refine x_tblIn C 86 dX_of_16 (by decide) (by decide) rfl (by decide) ?_
      refine x_aload_n C dX_of_86 rfl 1 rfl ?_
      refine x_get C fgX_10 0 rfl rfl dX_of_87 ?_
      refine x_get C fgX_134 8 rfl rfl dX_of_90 ?_
      refine x_iload_n C dX_of_93 rfl 0 rfl ?_
      refine x_ild C 14 9 rfl rfl (by omega) (by decide) dX_of_94 ?_
      show xk_Go K D 4 0 0 (tc_wX xx cxx (a 0) (o 0) (g 0) (r 0) ++ (tc_wR r cr (g 0) (a 0) wl wm wt nx ap fa pl ++ (tc_wB g cg gb gz ++ (tc_wB o co ob oz ++ tc_wS a ca kn nu wo si de la le ro tm nd)))) [(3, .int (nI (ro (tm - 1) + j))), (0, .ref (xx 0)), (1, .int (nI j)), (2, .int (nI 3))] 95 [.int (nI (la (ro (tm - 1) + j)))]
      exact x_iret C T .int rfl rfl dX_of_95 (⟨by rw [tc_ofa_some hth hxd]; unfold tc_ofn; rw [if_neg (show ¬ (nI 3 = nI 0) by decide), if_neg (show ¬ (nI 3 = nI 1) by decide), if_neg (show ¬ (nI 3 = nI 2) by decide), if_pos rfl]; rw [hn.2.2.2.2.2.1]; rfl, rfl⟩)
    ·
      refine x_tblIn C 96 dX_of_16 (by decide) (by decide) rfl (by decide) ?_
      refine x_aload_n C dX_of_96 rfl 1 rfl ?_
      refine x_get C fgX_10 0 rfl rfl dX_of_97 ?_
      refine x_iload_n C dX_of_100 rfl 2 rfl ?_
      refine x_callV C (c_S_parentOf D a ca kn nu wo si de la le ro tm nd j ((tc_RS_tm y1).1) (by omega) (by rw [z2, z9]; omega) (fun i hi => by have hs := tc_sib z8 (show i < t.length by omega); rw [z2, hs]; have := tc_sz_le (L := t.drop i); rw [List.length_drop] at this; omega) (by rw [z2, z9]; exact g2)) kbX_137 kcX_137 [8, 9, 10, 11, 12, 13, 14, 15, 16] [0, 1, 2, 3, 4, 5, 6, 7] [4, 5, 6, 7, 8, 9, 10, 11] (tc_wX xx cxx (a 0) (o 0) (g 0) (r 0) ++ (tc_wR r cr (g 0) (a 0) wl wm wt nx ap fa pl ++ (tc_wB g cg gb gz ++ tc_wB o co ob oz))) rfl rfl (by decide) (by decide) (by decide) rfl 0 rfl rfl ⟨Nat.le_of_ble_eq_true rfl, Nat.le_of_ble_eq_true rfl⟩ ⟨Nat.le_of_ble_eq_true rfl, Nat.le_of_ble_eq_true rfl⟩ [] rfl rfl (Nat.le_of_ble_eq_true rfl) dX_of_101 (fun rv ru hw => ?_)
      rcases hw with ⟨jp, rfl, rfl, g1p, g2p, g3p⟩ | ⟨rfl, rfl, g1p⟩
      ·
        show xk_Go K D 4 0 0 (tc_wX xx cxx (a 0) (o 0) (g 0) (r 0) ++ (tc_wR r cr (g 0) (a 0) wl wm wt nx ap fa pl ++ (tc_wB g cg gb gz ++ (tc_wB o co ob oz ++ tc_wS a ca kn nu wo si de la le ro tm nd)))) [(3, .int (nI (ro (tm - 1) + j))), (0, .ref (xx 0)), (1, .int (nI j)), (2, .int (nI 4))] 104 [.int (nI jp)]
        exact x_iret C T .int rfl rfl dX_of_104 (⟨by rw [tc_ofa_some hth hxd]; unfold tc_ofn; rw [if_neg (show ¬ (nI 4 = nI 0) by decide), if_neg (show ¬ (nI 4 = nI 1) by decide), if_neg (show ¬ (nI 4 = nI 2) by decide), if_neg (show ¬ (nI 4 = nI 3) by decide), if_pos rfl]; rw [tc_par_is zt.1 g2 g1p (by have hs := tc_sib z8 (show jp < t.length by omega); rw [z2, hs] at g2p; exact g2p) (fun i h1 h2 => by have hs := tc_sib z8 (show i < t.length by omega); have := g3p i h1 h2; rw [z2, hs] at this; exact this)]; rfl, rfl⟩)
      ·
        show xk_Go K D 4 0 0 (tc_wX xx cxx (a 0) (o 0) (g 0) (r 0) ++ (tc_wR r cr (g 0) (a 0) wl wm wt nx ap fa pl ++ (tc_wB g cg gb gz ++ (tc_wB o co ob oz ++ tc_wS a ca kn nu wo si de la le ro tm nd)))) [(3, .int (nI (ro (tm - 1) + j))), (0, .ref (xx 0)), (1, .int (nI j)), (2, .int (nI 4))] 104 [.int (xk_oI none)]
        exact x_iret C T .int rfl rfl dX_of_104 (⟨by rw [tc_ofa_some hth hxd]; unfold tc_ofn; rw [if_neg (show ¬ (nI 4 = nI 0) by decide), if_neg (show ¬ (nI 4 = nI 1) by decide), if_neg (show ¬ (nI 4 = nI 2) by decide), if_neg (show ¬ (nI 4 = nI 3) by decide), if_pos rfl]; rw [tc_par_no zt.1 g2 (fun i h1 => by have hs := tc_sib z8 (show i < t.length by omega); have := g1p i h1; rw [z2, hs] at this; exact this)], rfl⟩)
    ·
      refine x_tblIn C 105 dX_of_16 (by decide) (by decide) rfl (by decide) ?_
      refine x_aload_n C dX_of_105 rfl 1 rfl ?_
      refine x_get C fgX_10 0 rfl rfl dX_of_106 ?_
      refine x_iload_n C dX_of_109 rfl 0 rfl ?_
      refine x_callV C (c_S_byteCount D a ca kn nu wo si de la le ro tm nd (ro (tm - 1) + j) x.2.2.length (by omega) (by rw [hn.1]; omega) (fun q => by rw [hn.2.1]; exact hxo.2.2.1 (hn.1 ▸ q))) kbX_140 kcX_140 [8, 9, 10, 11, 12, 13, 14, 15, 16] [0, 1, 2, 3, 4, 5, 6, 7] [4, 5, 6, 7, 8, 9, 10, 11] (tc_wX xx cxx (a 0) (o 0) (g 0) (r 0) ++ (tc_wR r cr (g 0) (a 0) wl wm wt nx ap fa pl ++ (tc_wB g cg gb gz ++ tc_wB o co ob oz))) rfl rfl (by decide) (by decide) (by decide) rfl 0 rfl rfl ⟨Nat.le_of_ble_eq_true rfl, Nat.le_of_ble_eq_true rfl⟩ ⟨Nat.le_of_ble_eq_true rfl, Nat.le_of_ble_eq_true rfl⟩ [] rfl rfl (Nat.le_of_ble_eq_true rfl) dX_of_110 (fun rv ru hw => ?_)
      rcases hw with ⟨rfl, rfl, g1c⟩ | ⟨rfl, rfl, g1c⟩
      ·
        show xk_Go K D 4 0 0 (tc_wX xx cxx (a 0) (o 0) (g 0) (r 0) ++ (tc_wR r cr (g 0) (a 0) wl wm wt nx ap fa pl ++ (tc_wB g cg gb gz ++ (tc_wB o co ob oz ++ tc_wS a ca kn nu wo si de la le ro tm nd)))) [(3, .int (nI (ro (tm - 1) + j))), (0, .ref (xx 0)), (1, .int (nI j)), (2, .int (nI 5))] 113 [.int (nI x.2.2.length)]
        exact x_iret C T .int rfl rfl dX_of_113 (⟨by rw [tc_ofa_some hth hxd]; unfold tc_ofn; rw [if_neg (show ¬ (nI 5 = nI 0) by decide), if_neg (show ¬ (nI 5 = nI 1) by decide), if_neg (show ¬ (nI 5 = nI 2) by decide), if_neg (show ¬ (nI 5 = nI 3) by decide), if_neg (show ¬ (nI 5 = nI 4) by decide), if_pos rfl]; rw [if_pos (hn.1 ▸ g1c)]; rfl, rfl⟩)
      ·
        show xk_Go K D 4 0 0 (tc_wX xx cxx (a 0) (o 0) (g 0) (r 0) ++ (tc_wR r cr (g 0) (a 0) wl wm wt nx ap fa pl ++ (tc_wB g cg gb gz ++ (tc_wB o co ob oz ++ tc_wS a ca kn nu wo si de la le ro tm nd)))) [(3, .int (nI (ro (tm - 1) + j))), (0, .ref (xx 0)), (1, .int (nI j)), (2, .int (nI 5))] 113 [.int (xk_oI none)]
        exact x_iret C T .int rfl rfl dX_of_113 (⟨by rw [tc_ofa_some hth hxd]; unfold tc_ofn; rw [if_neg (show ¬ (nI 5 = nI 0) by decide), if_neg (show ¬ (nI 5 = nI 1) by decide), if_neg (show ¬ (nI 5 = nI 2) by decide), if_neg (show ¬ (nI 5 = nI 3) by decide), if_neg (show ¬ (nI 5 = nI 4) by decide), if_pos rfl]; rw [if_neg (hn.1 ▸ g1c)], rfl⟩)
    ·
      refine x_tblOut C 114 dX_of_16 hw (by decide) ?_
      refine x_iconst (v := xk_oI none) C dX_of_114 (by decide) ?_
      exact x_iret C T .int rfl rfl dX_of_115 (⟨by rw [tc_ofa_some hth hxd, tc_ofn_no hw], rfl⟩)
set_option maxHeartbeats 4000000 in
set_option maxRecDepth 100000 in
/-- byteAt -/
theorem c_X_byteAt (D : va_G) (xx : Nat → Nat) (cxx : Nat → ClassId) (r : Nat → Nat) (cr : Nat → ClassId) (g : Nat → Nat) (cg : Nat → ClassId) (o : Nat → Nat) (co : Nat → ClassId) (a : Nat → Nat) (ca : Nat → ClassId) (wl : Nat → Nat) (wm : Nat → Nat) (wt : Nat) (nx : Nat) (ap : Nat) (fa : Nat) (pl : Option Nat) (gb : Nat → Nat) (gz : Nat) (ob : Nat → Nat) (oz : Nat) (kn : Nat → Nat) (nu : Nat → Int64) (wo : Nat → Int64) (si : Nat → Nat) (de : Nat → Nat) (la : Nat → Nat) (le : Nat → Nat) (ro : Nat → Nat) (tm : Nat) (nd : Nat) (k : Int32) (jj : Int32) (Ts : List (List tc_Nd)) (y1 : tc_RS Ts (kn, nu, wo, si, de, la, le) ro tm nd) : xk_Ct yX_byteAt cX_byteAt 4 (some .int) { frames := 4, cells := 0, slots := 0, locals := 83 } D (tc_tX cxx ++ (tc_tR cr ++ (tc_tB cg ++ (tc_tB co ++ tc_tS ca)))) [.ref (xx 0), .int k, .int jj] (tc_wX xx cxx (a 0) (o 0) (g 0) (r 0) ++ (tc_wR r cr (g 0) (a 0) wl wm wt nx ap fa pl ++ (tc_wB g cg gb gz ++ (tc_wB o co ob oz ++ tc_wS a ca kn nu wo si de la le ro tm nd)))) (fun rv ru => (rv = some (.int (xk_oI (tc_bta Ts k jj))) ∧ ru = tc_wX xx cxx (a 0) (o 0) (g 0) (r 0) ++ (tc_wR r cr (g 0) (a 0) wl wm wt nx ap fa pl ++ (tc_wB g cg gb gz ++ (tc_wB o co ob oz ++ tc_wS a ca kn nu wo si de la le ro tm nd))))) := by
  refine xk_enter (by decide) (Nat.le_of_ble_eq_true rfl) (fun K C T hin => ?_)
  show xk_Go K D 4 0 0 (tc_wX xx cxx (a 0) (o 0) (g 0) (r 0) ++ (tc_wR r cr (g 0) (a 0) wl wm wt nx ap fa pl ++ (tc_wB g cg gb gz ++ (tc_wB o co ob oz ++ tc_wS a ca kn nu wo si de la le ro tm nd)))) [(0, .ref (xx 0)), (1, .int k), (2, .int jj)] 0 []
  refine x_aload_n C dX_byteAt_0 rfl 0 rfl ?_
  refine x_get C fgX_10 0 rfl rfl dX_byteAt_1 ?_
  refine x_iload_n C dX_byteAt_4 rfl 1 rfl ?_
  refine x_callV C (c_S_find D a ca kn nu wo si de la le ro tm nd k ((tc_RS_tm y1).1) (fun h => by obtain ⟨t, R, rfl⟩ := tc_RS_cons y1 h; obtain ⟨z1, z2, z3, z4, z5, z6, z7, z8, z9, z10, z11, z12⟩ := tc_top y1; omega) (fun h => by obtain ⟨t, R, rfl⟩ := tc_RS_cons y1 h; obtain ⟨z1, z2, z3, z4, z5, z6, z7, z8, z9, z10, z11, z12⟩ := tc_top y1; rw [z2, z9]; omega)) kbX_124 kcX_124 [8, 9, 10, 11, 12, 13, 14, 15, 16] [0, 1, 2, 3, 4, 5, 6, 7] [4, 5, 6, 7, 8, 9, 10, 11] (tc_wX xx cxx (a 0) (o 0) (g 0) (r 0) ++ (tc_wR r cr (g 0) (a 0) wl wm wt nx ap fa pl ++ (tc_wB g cg gb gz ++ tc_wB o co ob oz))) rfl rfl (by decide) (by decide) (by decide) rfl 0 rfl rfl ⟨Nat.le_of_ble_eq_true rfl, Nat.le_of_ble_eq_true rfl⟩ ⟨Nat.le_of_ble_eq_true rfl, Nat.le_of_ble_eq_true rfl⟩ [] rfl rfl (Nat.le_of_ble_eq_true rfl) dX_byteAt_5 (fun rv ru hw => ?_)
  rcases hw with ⟨rfl, rfl, g1⟩ | ⟨j, rfl, rfl, g1, g2, g3⟩
  ·
    show xk_Go K D 4 0 0 (tc_wX xx cxx (a 0) (o 0) (g 0) (r 0) ++ (tc_wR r cr (g 0) (a 0) wl wm wt nx ap fa pl ++ (tc_wB g cg gb gz ++ (tc_wB o co ob oz ++ tc_wS a ca kn nu wo si de la le ro tm nd)))) [(0, .ref (xx 0)), (1, .int k), (2, .int jj)] 8 [.int (xk_oI none)]
    have hno : tc_nth Ts k = none := tc_nth_no y1 g1
    refine x_istore_n C [(3, .int (xk_oI none)), (0, .ref (xx 0)), (1, .int k), (2, .int jj)] dX_byteAt_8 rfl (by decide) rfl ?_
    refine x_iload_n C dX_byteAt_9 rfl 0 rfl ?_
    refine x_if_lt (tgt := 29) C dX_byteAt_10 (by decide) (fun _ => ?_) (fun h => absurd (by decide) h)
    refine x_iconst (v := xk_oI none) C dX_byteAt_29 (by decide) ?_
    exact x_iret C T .int rfl rfl dX_byteAt_30 (⟨by rw [tc_bta_none hno], rfl⟩)
  ·
    show xk_Go K D 4 0 0 (tc_wX xx cxx (a 0) (o 0) (g 0) (r 0) ++ (tc_wR r cr (g 0) (a 0) wl wm wt nx ap fa pl ++ (tc_wB g cg gb gz ++ (tc_wB o co ob oz ++ tc_wS a ca kn nu wo si de la le ro tm nd)))) [(0, .ref (xx 0)), (1, .int k), (2, .int jj)] 8 [.int (nI (ro (tm - 1) + j))]
    obtain ⟨t, R, rfl⟩ := tc_RS_cons y1 g3
    obtain ⟨z1, z2, z3, z4, z5, z6, z7, z8, z9, z10, z11, z12⟩ := tc_top y1
    subst g1
    rw [z2, z9] at g2
    have zt := y1.1 t List.mem_cons_self
    have hth : tc_nth (t :: R) (nI j) = some j := tc_nth_some g2 (by omega)
    obtain ⟨x, hxj⟩ : ∃ x, t[j]? = some x := ⟨_, List.getElem?_eq_getElem g2⟩
    have hxd := tc_drop1 hxj
    have hn := tc_at_k z8 hxj
    rw [← z2] at hn
    have hxo := zt.2.2 x (List.mem_of_getElem? hxj)
    have hx11 := hxo.1
    have h64 := hxo.2.2.2.2.1
    refine x_istore_n C [(3, .int (nI (ro (tm - 1) + j))), (0, .ref (xx 0)), (1, .int (nI j)), (2, .int jj)] dX_byteAt_8 rfl (by decide) rfl ?_
    refine x_iload_n C dX_byteAt_9 rfl 0 rfl ?_
    refine x_if_ltN (tgt := 29) C (by omega) dX_byteAt_10 (by decide) ?_
    refine x_iload_n C dX_byteAt_13 rfl 3 rfl ?_
    refine x_if_lt (tgt := 29) C dX_byteAt_14 (by decide) (fun h14 => ?_) (fun h14 => ?_)
    ·
      refine x_iconst (v := xk_oI none) C dX_byteAt_29 (by decide) ?_
      exact x_iret C T .int rfl rfl dX_byteAt_30 (⟨by rw [tc_bta_some hth hxj, if_neg (by rw [Int32.lt_iff_toInt_lt, Int32.toInt_zero] at h14; omega)], rfl⟩)
    ·
      obtain ⟨q, hq, rfl⟩ := nI_of h14
      refine x_iload_n C dX_byteAt_17 rfl 3 rfl ?_
      refine x_aload_n C dX_byteAt_18 rfl 1 rfl ?_
      refine x_get C fgX_10 0 rfl rfl dX_byteAt_19 ?_
      refine x_iload_n C dX_byteAt_22 rfl 0 rfl ?_
      refine x_callV C (c_S_byteCount D a ca kn nu wo si de la le ro tm nd (ro (tm - 1) + j) x.2.2.length (by omega) (by rw [hn.1]; omega) (fun q => by rw [hn.2.1]; exact hxo.2.2.1 (hn.1 ▸ q))) kbX_140 kcX_140 [8, 9, 10, 11, 12, 13, 14, 15, 16] [0, 1, 2, 3, 4, 5, 6, 7] [4, 5, 6, 7, 8, 9, 10, 11] (tc_wX xx cxx (a 0) (o 0) (g 0) (r 0) ++ (tc_wR r cr (g 0) (a 0) wl wm wt nx ap fa pl ++ (tc_wB g cg gb gz ++ tc_wB o co ob oz))) rfl rfl (by decide) (by decide) (by decide) rfl 0 rfl rfl ⟨Nat.le_of_ble_eq_true rfl, Nat.le_of_ble_eq_true rfl⟩ ⟨Nat.le_of_ble_eq_true rfl, Nat.le_of_ble_eq_true rfl⟩ [.int (nI q)] rfl rfl (Nat.le_of_ble_eq_true rfl) dX_byteAt_23 (fun rv ru hw => ?_)
      rcases hw with ⟨rfl, rfl, g1c⟩ | ⟨rfl, rfl, g1c⟩
      ·
        show xk_Go K D 4 0 0 (tc_wX xx cxx (a 0) (o 0) (g 0) (r 0) ++ (tc_wR r cr (g 0) (a 0) wl wm wt nx ap fa pl ++ (tc_wB g cg gb gz ++ (tc_wB o co ob oz ++ tc_wS a ca kn nu wo si de la le ro tm nd)))) [(3, .int (nI (ro (tm - 1) + j))), (0, .ref (xx 0)), (1, .int (nI j)), (2, .int (nI q))] 26 [.int (nI x.2.2.length), .int (nI q)]
        refine x_icmp_ltN (tgt := 31) C (by omega) (by omega) dX_byteAt_26 (by decide) (fun h26 => ?_) (fun h26 => ?_)
        ·
          refine x_aload_n C dX_byteAt_31 rfl 1 rfl ?_
          refine x_get C fgX_10 0 rfl rfl dX_byteAt_32 ?_
          refine x_iload_n C dX_byteAt_35 rfl 0 rfl ?_
          refine x_iload_n C dX_byteAt_36 rfl 3 rfl ?_
          refine x_callV C (c_S_byteIn D a ca kn nu wo si de la le ro tm nd (ro (tm - 1) + j) q (by omega) (by omega)) kbX_152 kcX_152 [8, 9, 10, 11, 12, 13, 14, 15, 16] [0, 1, 2, 3, 4, 5, 6, 7] [4, 5, 6, 7, 8, 9, 10, 11] (tc_wX xx cxx (a 0) (o 0) (g 0) (r 0) ++ (tc_wR r cr (g 0) (a 0) wl wm wt nx ap fa pl ++ (tc_wB g cg gb gz ++ tc_wB o co ob oz))) rfl rfl (by decide) (by decide) (by decide) rfl 0 rfl rfl ⟨Nat.le_of_ble_eq_true rfl, Nat.le_of_ble_eq_true rfl⟩ ⟨Nat.le_of_ble_eq_true rfl, Nat.le_of_ble_eq_true rfl⟩ [] rfl rfl (Nat.le_of_ble_eq_true rfl) dX_byteAt_37 (fun rv ru hw => ?_)
          obtain ⟨rfl, rfl⟩ := hw
          show xk_Go K D 4 0 0 (tc_wX xx cxx (a 0) (o 0) (g 0) (r 0) ++ (tc_wR r cr (g 0) (a 0) wl wm wt nx ap fa pl ++ (tc_wB g cg gb gz ++ (tc_wB o co ob oz ++ tc_wS a ca kn nu wo si de la le ro tm nd)))) [(3, .int (nI (ro (tm - 1) + j))), (0, .ref (xx 0)), (1, .int (nI j)), (2, .int (nI q))] 40 [.int (nI (tc_wb wo (ro (tm - 1) + j) q))]
          obtain ⟨b, hb⟩ : ∃ b, x.2.2[q]? = some b := ⟨_, List.getElem?_eq_getElem (by omega)⟩
          exact x_iret C T .int rfl rfl dX_byteAt_40 (⟨by rw [tc_bta_some hth hxj, nI_toInt hq, if_pos (by omega), Int.toNat_natCast, hb, hn.2.2.1 q b hb]; rfl, rfl⟩)
        ·
          refine x_iconst (v := xk_oI none) C dX_byteAt_29 (by decide) ?_
          exact x_iret C T .int rfl rfl dX_byteAt_30 (⟨by rw [tc_bta_some hth hxj, nI_toInt hq, if_pos (by omega), Int.toNat_natCast, List.getElem?_eq_none (by omega)], rfl⟩)
      ·
        show xk_Go K D 4 0 0 (tc_wX xx cxx (a 0) (o 0) (g 0) (r 0) ++ (tc_wR r cr (g 0) (a 0) wl wm wt nx ap fa pl ++ (tc_wB g cg gb gz ++ (tc_wB o co ob oz ++ tc_wS a ca kn nu wo si de la le ro tm nd)))) [(3, .int (nI (ro (tm - 1) + j))), (0, .ref (xx 0)), (1, .int (nI j)), (2, .int (nI q))] 26 [.int (xk_oI none), .int (nI q)]
        refine x_icmp_lt (tgt := 31) C dX_byteAt_26 (by decide) (fun h => absurd h (xk_none_nlt (by omega))) (fun _ => ?_)
        refine x_iconst (v := xk_oI none) C dX_byteAt_29 (by decide) ?_
        exact x_iret C T .int rfl rfl dX_byteAt_30 (⟨by rw [tc_bta_some hth hxj, nI_toInt hq, if_pos (by omega), Int.toNat_natCast, hxo.2.2.2.1 (hn.1 ▸ g1c)]; rfl, rfl⟩)
