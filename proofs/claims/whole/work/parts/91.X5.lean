def xk_up : List String := ["java/lang/RuntimeException", "java/lang/Exception"]
def xk_ownb (q : Cond × Nat) : Bool := if q.2 < 1000 then decide (lw_tbl[q.2]? = some q.1) && goodWord q.1 else decide (xk_SW[q.2 - 1000]? = some q.1)
theorem xk_own {l : List Cond} (is : List Nat) (hl : l.length = is.length) (h : (l.zip is).all xk_ownb = true) : ∀ a ∈ l, a ∈ xk_gt ∨ a ∈ xk_SW := by
  intro a ha
  obtain ⟨i, hi, rfl⟩ := List.getElem_of_mem ha
  have hz : (l[i], is[i]'(by omega)) ∈ l.zip is := by
    refine List.mem_iff_getElem.mpr ⟨i, by rw [List.length_zip]; omega, ?_⟩
    rw [List.getElem_zip]
  have hb := List.all_eq_true.mp h _ hz
  unfold xk_ownb at hb
  by_cases q : is[i]'(by omega) < 1000
  · rw [if_pos q, Bool.and_eq_true] at hb
    exact Or.inl (xk_mem _ (of_decide_eq_true hb.1) hb.2)
  · rw [if_neg q] at hb
    exact Or.inr (List.mem_of_getElem? (of_decide_eq_true hb))
theorem koX_56 : ∀ a ∈ Bundle.ownAtoms RX 56 "java/lang/IllegalArgumentException" xk_up, a ∈ xk_gt ∨ a ∈ xk_SW := xk_own [44, 450, 459, 462, 465, 467, 451, 452, 57, 58, 453, 458, 463, 483, 440, 484, 442, 485, 444, 454, 1002, 456, 1003, 446, 479, 480, 482, 446, 470, 471, 472, 473, 1004, 473, 474, 475, 476, 1005, 476, 477, 478, 479, 1006, 469, 429, 1007, 437, 438, 439, 441, 443, 445, 1000, 1001, 449, 448, 447] (by decide +kernel) (by decide +kernel)
theorem koX_66 : ∀ a ∈ Bundle.ownAtoms RX 66 "java/lang/IllegalStateException" xk_up, a ∈ xk_gt ∨ a ∈ xk_SW := xk_own [44, 450, 459, 462, 465, 467, 451, 452, 57, 58, 453, 458, 463, 483, 440, 484, 442, 485, 444, 454, 1002, 456, 1003, 446, 479, 480, 482, 446, 510, 511, 512, 473, 1004, 473, 474, 475, 476, 1005, 476, 477, 478, 479, 1006, 509, 500, 1008, 502, 461, 503, 504, 505, 506, 1000, 1001, 449, 448, 507] (by decide +kernel) (by decide +kernel)
theorem xk_fit_IllegalArgumentException : Bundle.fit "java/lang/IllegalArgumentException" = true := by decide +kernel
theorem xk_fit_IllegalStateException : Bundle.fit "java/lang/IllegalStateException" = true := by decide +kernel
theorem xk_fit_up : ∀ z ∈ xk_up, Bundle.fit z = true := by decide +kernel
set_option maxHeartbeats 4000000 in
set_option maxRecDepth 100000 in
/-- node -/
theorem c_X_node (D : va_G) (xx : Nat → Nat) (cxx : Nat → ClassId) (r : Nat → Nat) (cr : Nat → ClassId) (g : Nat → Nat) (cg : Nat → ClassId) (o : Nat → Nat) (co : Nat → ClassId) (a : Nat → Nat) (ca : Nat → ClassId) (wl : Nat → Nat) (wm : Nat → Nat) (wt : Nat) (nx : Nat) (ap : Nat) (fa : Nat) (pl : Option Nat) (gb : Nat → Nat) (gz : Nat) (ob : Nat → Nat) (oz : Nat) (kn : Nat → Nat) (nu : Nat → Int64) (wo : Nat → Int64) (si : Nat → Nat) (de : Nat → Nat) (la : Nat → Nat) (le : Nat → Nat) (ro : Nat → Nat) (tm : Nat) (nd : Nat) (kd : Int32) (x : Int64) (Ts : List (List tc_Nd)) (y1 : tc_RS Ts (kn, nu, wo, si, de, la, le) ro tm nd) : xk_CtT yX_node cX_node 4 (some .int) { frames := 6, cells := 1, slots := 6, locals := 149 } D (tc_tX cxx ++ (tc_tR cr ++ (tc_tB cg ++ (tc_tB co ++ tc_tS ca)))) [.ref (xx 0), .int kd, .long x] (tc_wX xx cxx (a 0) (o 0) (g 0) (r 0) ++ (tc_wR r cr (g 0) (a 0) wl wm wt nx ap fa pl ++ (tc_wB g cg gb gz ++ (tc_wB o co ob oz ++ tc_wS a ca kn nu wo si de la le ro tm nd)))) (fun rv ru => (rv = .inr "java/lang/IllegalArgumentException" ∧ ru = tc_wX xx cxx (a 0) (o 0) (g 0) (r 0) ++ (tc_wR r cr (g 0) (a 0) wl wm wt nx ap fa pl ++ (tc_wB g cg gb gz ++ (tc_wB o co ob oz ++ tc_wS a ca kn nu wo si de la le ro tm nd))) ∧ (tc_nk kd x = none)) ∨ (∃ (k : Nat), rv = .inr "java/lang/IllegalStateException" ∧ ru = tc_wX xx cxx (a 0) (o 0) (g 0) (r 0) ++ (tc_wR r cr (g 0) (a 0) wl wm wt nx ap fa pl ++ (tc_wB g cg gb gz ++ (tc_wB o co ob oz ++ tc_wS a ca kn nu wo si de la le ro tm nd))) ∧ (tc_nk kd x = some k) ∧ (tc_put (k, x, []) Ts = none)) ∨ (∃ (k : Nat), ∃ (Tn : List (List tc_Nd)), ∃ (kg : Nat → Nat), ∃ (ug : Nat → Int64), ∃ (wg : Nat → Int64), ∃ (sg : Nat → Nat), ∃ (dg : Nat → Nat), ∃ (lg : Nat → Nat), ∃ (eg : Nat → Nat), ∃ (rg : Nat → Nat), ∃ (tg : Nat), ∃ (ng : Nat), rv = .inl (some (.int (nI Tn.length))) ∧ ru = tc_wX xx cxx (a 0) (o 0) (g 0) (r 0) ++ (tc_wR r cr (g 0) (a 0) wl wm wt nx ap fa pl ++ (tc_wB g cg gb gz ++ (tc_wB o co ob oz ++ tc_wS a ca kg ug wg sg dg lg eg rg tg ng))) ∧ (tc_nk kd x = some k) ∧ (tc_put (k, x, []) Ts = some Tn) ∧ (tc_RS Tn (kg, ug, wg, sg, dg, lg, eg) rg tg ng))) := by
  refine xk_enterT (by decide) (Nat.le_of_ble_eq_true rfl) (fun K C T => ?_)
  show xk_Go K D 4 0 0 (tc_wX xx cxx (a 0) (o 0) (g 0) (r 0) ++ (tc_wR r cr (g 0) (a 0) wl wm wt nx ap fa pl ++ (tc_wB g cg gb gz ++ (tc_wB o co ob oz ++ tc_wS a ca kn nu wo si de la le ro tm nd)))) [(0, .ref (xx 0)), (1, .int kd), (2, .long x)] 0 []
  refine x_iload_n C dX_node_0 rfl 1 rfl ?_
  refine x_callS C (c_F_isKind D kd) kbX_42 kcX_42 [] [0, 1, 2, 3, 4, 5, 6, 7, 8, 9, 10, 11, 12, 13, 14, 15, 16] [] (tc_wX xx cxx (a 0) (o 0) (g 0) (r 0) ++ (tc_wR r cr (g 0) (a 0) wl wm wt nx ap fa pl ++ (tc_wB g cg gb gz ++ (tc_wB o co ob oz ++ tc_wS a ca kn nu wo si de la le ro tm nd)))) rfl rfl (by decide) (by decide) (by decide) rfl ⟨Nat.le_of_ble_eq_true rfl, Nat.le_of_ble_eq_true rfl⟩ ⟨Nat.le_of_ble_eq_true rfl, Nat.le_of_ble_eq_true rfl⟩ [] rfl rfl (Nat.le_of_ble_eq_true rfl) dX_node_1 (fun rv ru hw => ?_)
  rcases hw with ⟨rfl, rfl, gk1⟩ | ⟨j, rfl, rfl, gk1, gk2⟩
  ·
    show xk_Go K D 4 0 0 (tc_wX xx cxx (a 0) (o 0) (g 0) (r 0) ++ (tc_wR r cr (g 0) (a 0) wl wm wt nx ap fa pl ++ (tc_wB g cg gb gz ++ (tc_wB o co ob oz ++ tc_wS a ca kn nu wo si de la le ro tm nd)))) [(0, .ref (xx 0)), (1, .int kd), (2, .long x)] 4 [.int (nI 0)]
    refine x_if_eq (tgt := 21) C dX_node_4 (by decide) (fun _ => ?_) (fun h => absurd (by decide) h)
    exact x_throw C T (names := xk_up) (txt := "no such kind or number") ktX_52 kiX_IllegalArgumentException ⟨rfl, by decide⟩ koX_56 xk_fit_IllegalArgumentException xk_fit_up dX_node_21 dX_node_24 dX_node_25 dX_node_27 dX_node_30 (by decide) (by decide) (by decide) (by decide) (by decide) (by decide) (Or.inl (⟨rfl, rfl, (tc_nk_out gk1)⟩))
  ·
    show xk_Go K D 4 0 0 (tc_wX xx cxx (a 0) (o 0) (g 0) (r 0) ++ (tc_wR r cr (g 0) (a 0) wl wm wt nx ap fa pl ++ (tc_wB g cg gb gz ++ (tc_wB o co ob oz ++ tc_wS a ca kn nu wo si de la le ro tm nd)))) [(0, .ref (xx 0)), (1, .int kd), (2, .long x)] 4 [.int (nI 1)]
    subst gk1
    refine x_if_eq (tgt := 21) C dX_node_4 (by decide) (fun h => absurd h (by decide)) (fun _ => ?_)
    refine x_iload_n C dX_node_7 rfl 1 rfl ?_
    refine x_bipush (v := nI 8) C dX_node_8 (by decide) ?_
    refine x_icmp_eqN (tgt := 21) C (by omega) (by decide) dX_node_10 (by decide) (fun h10 => ?_) (fun h10 => ?_)
    ·
      exact x_throw C T (names := xk_up) (txt := "no such kind or number") ktX_52 kiX_IllegalArgumentException ⟨rfl, by decide⟩ koX_56 xk_fit_IllegalArgumentException xk_fit_up dX_node_21 dX_node_24 dX_node_25 dX_node_27 dX_node_30 (by decide) (by decide) (by decide) (by decide) (by decide) (by decide) (Or.inl (⟨rfl, rfl, (tc_nk_no (by omega) (Or.inr (Or.inl h10)))⟩))
    ·
      refine x_iload_n C dX_node_13 rfl 1 rfl ?_
      refine x_lload_n C dX_node_14 rfl 2 rfl ?_
      refine x_callS C (c_F_fits D j x (by omega)) kbX_48 kcX_48 [] [0, 1, 2, 3, 4, 5, 6, 7, 8, 9, 10, 11, 12, 13, 14, 15, 16] [] (tc_wX xx cxx (a 0) (o 0) (g 0) (r 0) ++ (tc_wR r cr (g 0) (a 0) wl wm wt nx ap fa pl ++ (tc_wB g cg gb gz ++ (tc_wB o co ob oz ++ tc_wS a ca kn nu wo si de la le ro tm nd)))) rfl rfl (by decide) (by decide) (by decide) rfl ⟨Nat.le_of_ble_eq_true rfl, Nat.le_of_ble_eq_true rfl⟩ ⟨Nat.le_of_ble_eq_true rfl, Nat.le_of_ble_eq_true rfl⟩ [] rfl rfl (Nat.le_of_ble_eq_true rfl) dX_node_15 (fun rv ru hw => ?_)
      obtain ⟨rfl, rfl⟩ := hw
      show xk_Go K D 4 0 0 (tc_wX xx cxx (a 0) (o 0) (g 0) (r 0) ++ (tc_wR r cr (g 0) (a 0) wl wm wt nx ap fa pl ++ (tc_wB g cg gb gz ++ (tc_wB o co ob oz ++ tc_wS a ca kn nu wo si de la le ro tm nd)))) [(0, .ref (xx 0)), (1, .int (nI j)), (2, .long x)] 18 [.int (xk_bZ (tc_fit j x))]
      refine x_if_neB (tgt := 31) C dX_node_18 (by decide) (fun h18 => ?_) (fun h18 => ?_)
      ·
        refine x_aload_n C dX_node_31 rfl 0 rfl ?_
        refine x_get C fgX_10 0 rfl rfl dX_node_32 ?_
        refine x_iload_n C dX_node_35 rfl 1 rfl ?_
        refine x_lload_n C dX_node_36 rfl 2 rfl ?_
        refine x_callV C (c_S_put D a ca kn nu wo si de la le ro tm nd j x Ts y1 (by omega) (tc_fit_iff.mp h18) (fun z => absurd z h10)) kbX_59 kcX_59 [8, 9, 10, 11, 12, 13, 14, 15, 16] [0, 1, 2, 3, 4, 5, 6, 7] [4, 5, 6, 7, 8, 9, 10, 11] (tc_wX xx cxx (a 0) (o 0) (g 0) (r 0) ++ (tc_wR r cr (g 0) (a 0) wl wm wt nx ap fa pl ++ (tc_wB g cg gb gz ++ tc_wB o co ob oz))) rfl rfl (by decide) (by decide) (by decide) rfl 0 rfl rfl ⟨Nat.le_of_ble_eq_true rfl, Nat.le_of_ble_eq_true rfl⟩ ⟨Nat.le_of_ble_eq_true rfl, Nat.le_of_ble_eq_true rfl⟩ [] rfl rfl (Nat.le_of_ble_eq_true rfl) dX_node_37 (fun rv ru hw => ?_)
        rcases hw with ⟨rfl, rfl, g1p⟩ | ⟨kgp, ugp, wgp, sgp, dgp, lgp, egp, rgp, tgp, ngp, Tnp, rfl, rfl, g1p, g2p⟩
        ·
          show xk_Go K D 4 0 0 (tc_wX xx cxx (a 0) (o 0) (g 0) (r 0) ++ (tc_wR r cr (g 0) (a 0) wl wm wt nx ap fa pl ++ (tc_wB g cg gb gz ++ (tc_wB o co ob oz ++ tc_wS a ca kn nu wo si de la le ro tm nd)))) [(0, .ref (xx 0)), (1, .int (nI j)), (2, .long x)] 40 [.int (nI 0)]
          refine x_if_ne (tgt := 53) C dX_node_40 (by decide) (fun h => absurd (by decide) h) (fun _ => ?_)
          exact x_throw C T (names := xk_up) (txt := "too few terms, no room, or too deep") ktX_62 kiX_IllegalStateException ⟨rfl, by decide⟩ koX_66 xk_fit_IllegalStateException xk_fit_up dX_node_43 dX_node_46 dX_node_47 dX_node_49 dX_node_52 (by decide) (by decide) (by decide) (by decide) (by decide) (by decide) (Or.inr (Or.inl (⟨j, rfl, rfl, (tc_nk_in gk2 h10 h18), g1p⟩)))
        ·
          show xk_Go K D 4 0 0 (tc_wX xx cxx (a 0) (o 0) (g 0) (r 0) ++ (tc_wR r cr (g 0) (a 0) wl wm wt nx ap fa pl ++ (tc_wB g cg gb gz ++ (tc_wB o co ob oz ++ tc_wS a ca kgp ugp wgp sgp dgp lgp egp rgp tgp ngp)))) [(0, .ref (xx 0)), (1, .int (nI j)), (2, .long x)] 40 [.int (nI 1)]
          refine x_if_ne (tgt := 53) C dX_node_40 (by decide) (fun _ => ?_) (fun h => absurd h (by decide))
          refine x_aload_n C dX_node_53 rfl 0 rfl ?_
          refine x_get C fgX_10 0 rfl rfl dX_node_54 ?_
          refine x_get C fgX_35 8 rfl rfl dX_node_57 ?_
          exact x_iretT C T .int rfl rfl (Nat.zero_le _) (Nat.zero_le _) dX_node_60 (Or.inr (Or.inr (⟨j, Tnp, _, _, _, _, _, _, _, _, _, _, by rw [g2p.2.1], rfl, (tc_nk_in gk2 h10 h18), g1p, g2p⟩)))
      ·
        exact x_throw C T (names := xk_up) (txt := "no such kind or number") ktX_52 kiX_IllegalArgumentException ⟨rfl, by decide⟩ koX_56 xk_fit_IllegalArgumentException xk_fit_up dX_node_21 dX_node_24 dX_node_25 dX_node_27 dX_node_30 (by decide) (by decide) (by decide) (by decide) (by decide) (by decide) (Or.inl (⟨rfl, rfl, (tc_nk_no (by omega) (Or.inr (Or.inr h18)))⟩))
set_option maxHeartbeats 4000000 in
set_option maxRecDepth 100000 in
/-- bytes -/
theorem c_X_bytes (D : va_G) (xx : Nat → Nat) (cxx : Nat → ClassId) (r : Nat → Nat) (cr : Nat → ClassId) (g : Nat → Nat) (cg : Nat → ClassId) (o : Nat → Nat) (co : Nat → ClassId) (a : Nat → Nat) (ca : Nat → ClassId) (wl : Nat → Nat) (wm : Nat → Nat) (wt : Nat) (nx : Nat) (ap : Nat) (fa : Nat) (pl : Option Nat) (gb : Nat → Nat) (gz : Nat) (ob : Nat → Nat) (oz : Nat) (kn : Nat → Nat) (nu : Nat → Int64) (wo : Nat → Int64) (si : Nat → Nat) (de : Nat → Nat) (la : Nat → Nat) (le : Nat → Nat) (ro : Nat → Nat) (tm : Nat) (nd : Nat) (x : Int64) (n : Int32) (Ts : List (List tc_Nd)) (y1 : tc_RS Ts (kn, nu, wo, si, de, la, le) ro tm nd) : xk_CtT yX_bytes cX_bytes 4 (some .int) { frames := 6, cells := 1, slots := 6, locals := 149 } D (tc_tX cxx ++ (tc_tR cr ++ (tc_tB cg ++ (tc_tB co ++ tc_tS ca)))) [.ref (xx 0), .long x, .int n] (tc_wX xx cxx (a 0) (o 0) (g 0) (r 0) ++ (tc_wR r cr (g 0) (a 0) wl wm wt nx ap fa pl ++ (tc_wB g cg gb gz ++ (tc_wB o co ob oz ++ tc_wS a ca kn nu wo si de la le ro tm nd)))) (fun rv ru => (rv = .inr "java/lang/IllegalArgumentException" ∧ ru = tc_wX xx cxx (a 0) (o 0) (g 0) (r 0) ++ (tc_wR r cr (g 0) (a 0) wl wm wt nx ap fa pl ++ (tc_wB g cg gb gz ++ (tc_wB o co ob oz ++ tc_wS a ca kn nu wo si de la le ro tm nd))) ∧ (tc_bn n = none)) ∨ (∃ (k : Nat), rv = .inr "java/lang/IllegalStateException" ∧ ru = tc_wX xx cxx (a 0) (o 0) (g 0) (r 0) ++ (tc_wR r cr (g 0) (a 0) wl wm wt nx ap fa pl ++ (tc_wB g cg gb gz ++ (tc_wB o co ob oz ++ tc_wS a ca kn nu wo si de la le ro tm nd))) ∧ (tc_bn n = some k) ∧ (tc_put (8, 0, []) Ts = none)) ∨ (∃ (k : Nat), ∃ (kg : Nat → Nat), ∃ (ug : Nat → Int64), ∃ (wg : Nat → Int64), ∃ (sg : Nat → Nat), ∃ (dg : Nat → Nat), ∃ (lg : Nat → Nat), ∃ (eg : Nat → Nat), ∃ (rg : Nat → Nat), ∃ (tg : Nat), ∃ (ng : Nat), rv = .inl (some (.int (nI (Ts.length + 1)))) ∧ ru = tc_wX xx cxx (a 0) (o 0) (g 0) (r 0) ++ (tc_wR r cr (g 0) (a 0) wl wm wt nx ap fa pl ++ (tc_wB g cg gb gz ++ (tc_wB o co ob oz ++ tc_wS a ca kg ug wg sg dg lg eg rg tg ng))) ∧ (tc_bn n = some k) ∧ (tc_put (8, 0, []) Ts = some ([(8, 0, [])] :: Ts)) ∧ (tc_RS ([(8, lN k, tc_bts x k)] :: Ts) (kg, ug, wg, sg, dg, lg, eg) rg tg ng))) := by
  refine xk_enterT (by decide) (Nat.le_of_ble_eq_true rfl) (fun K C T => ?_)
  show xk_Go K D 4 0 0 (tc_wX xx cxx (a 0) (o 0) (g 0) (r 0) ++ (tc_wR r cr (g 0) (a 0) wl wm wt nx ap fa pl ++ (tc_wB g cg gb gz ++ (tc_wB o co ob oz ++ tc_wS a ca kn nu wo si de la le ro tm nd)))) [(0, .ref (xx 0)), (1, .long x), (3, .int n)] 0 []
  refine x_iload_n C dX_bytes_0 rfl 2 rfl ?_
  refine x_if_lt (tgt := 10) C dX_bytes_1 (by decide) (fun h1 => ?_) (fun h1 => ?_)
  ·
    exact x_throw C T (names := xk_up) (txt := "not 0 to 8 bytes") ktX_52 kiX_IllegalArgumentException ⟨rfl, by decide⟩ koX_56 xk_fit_IllegalArgumentException xk_fit_up dX_bytes_10 dX_bytes_13 dX_bytes_14 dX_bytes_16 dX_bytes_19 (by decide) (by decide) (by decide) (by decide) (by decide) (by decide) (Or.inl (⟨rfl, rfl, (tc_bn_lo h1)⟩))
  ·
    obtain ⟨k, hk, rfl⟩ := nI_of h1
    refine x_iload_n C dX_bytes_4 rfl 2 rfl ?_
    refine x_bipush (v := nI 8) C dX_bytes_5 (by decide) ?_
    refine x_icmp_leN (tgt := 20) C (by omega) (by decide) dX_bytes_7 (by decide) (fun h7 => ?_) (fun h7 => ?_)
    ·
      refine x_aload_n C dX_bytes_20 rfl 0 rfl ?_
      refine x_get C fgX_10 0 rfl rfl dX_bytes_21 ?_
      refine x_bipush (v := nI 8) C dX_bytes_24 (by decide) ?_
      refine x_lconst (v := 0) C dX_bytes_26 (by decide) ?_
      refine x_callV C (c_S_put D a ca kn nu wo si de la le ro tm nd 8 0 Ts y1 (by omega) (show (0 : Int64) ≤ 0 ∧ (0 : Int64) ≤ 64 from ⟨by decide, by decide⟩) (fun _ => rfl)) kbX_59 kcX_59 [8, 9, 10, 11, 12, 13, 14, 15, 16] [0, 1, 2, 3, 4, 5, 6, 7] [4, 5, 6, 7, 8, 9, 10, 11] (tc_wX xx cxx (a 0) (o 0) (g 0) (r 0) ++ (tc_wR r cr (g 0) (a 0) wl wm wt nx ap fa pl ++ (tc_wB g cg gb gz ++ tc_wB o co ob oz))) rfl rfl (by decide) (by decide) (by decide) rfl 0 rfl rfl ⟨Nat.le_of_ble_eq_true rfl, Nat.le_of_ble_eq_true rfl⟩ ⟨Nat.le_of_ble_eq_true rfl, Nat.le_of_ble_eq_true rfl⟩ [] rfl rfl (Nat.le_of_ble_eq_true rfl) dX_bytes_27 (fun rv ru hw => ?_)
      rcases hw with ⟨rfl, rfl, g1p⟩ | ⟨kgp, ugp, wgp, sgp, dgp, lgp, egp, rgp, tgp, ngp, Tnp, rfl, rfl, g1p, g2p⟩
      ·
        show xk_Go K D 4 0 0 (tc_wX xx cxx (a 0) (o 0) (g 0) (r 0) ++ (tc_wR r cr (g 0) (a 0) wl wm wt nx ap fa pl ++ (tc_wB g cg gb gz ++ (tc_wB o co ob oz ++ tc_wS a ca kn nu wo si de la le ro tm nd)))) [(0, .ref (xx 0)), (1, .long x), (3, .int (nI k))] 30 [.int (nI 0)]
        refine x_if_ne (tgt := 43) C dX_bytes_30 (by decide) (fun h => absurd (by decide) h) (fun _ => ?_)
        exact x_throw C T (names := xk_up) (txt := "no room") ktX_62 kiX_IllegalStateException ⟨rfl, by decide⟩ koX_66 xk_fit_IllegalStateException xk_fit_up dX_bytes_33 dX_bytes_36 dX_bytes_37 dX_bytes_39 dX_bytes_42 (by decide) (by decide) (by decide) (by decide) (by decide) (by decide) (Or.inr (Or.inl (⟨k, rfl, rfl, (tc_bn_in h7), g1p⟩)))
      ·
        show xk_Go K D 4 0 0 (tc_wX xx cxx (a 0) (o 0) (g 0) (r 0) ++ (tc_wR r cr (g 0) (a 0) wl wm wt nx ap fa pl ++ (tc_wB g cg gb gz ++ (tc_wB o co ob oz ++ tc_wS a ca kgp ugp wgp sgp dgp lgp egp rgp tgp ngp)))) [(0, .ref (xx 0)), (1, .long x), (3, .int (nI k))] 30 [.int (nI 1)]
        have hTn := tc_put_8 g1p
        subst hTn
        refine x_if_ne (tgt := 43) C dX_bytes_30 (by decide) (fun _ => ?_) (fun h => absurd h (by decide))
        refine x_aload_n C dX_bytes_43 rfl 0 rfl ?_
        refine x_get C fgX_10 0 rfl rfl dX_bytes_44 ?_
        refine x_lload_n C dX_bytes_47 rfl 1 rfl ?_
        refine x_iload_n C dX_bytes_48 rfl 2 rfl ?_
        refine x_callV C (c_S_extend D a ca kgp ugp wgp sgp dgp lgp egp rgp tgp ngp x k ([(8, 0, [])] :: Ts) g2p h7) kbX_71 kcX_71 [8, 9, 10, 11, 12, 13, 14, 15, 16] [0, 1, 2, 3, 4, 5, 6, 7] [4, 5, 6, 7, 8, 9, 10, 11] (tc_wX xx cxx (a 0) (o 0) (g 0) (r 0) ++ (tc_wR r cr (g 0) (a 0) wl wm wt nx ap fa pl ++ (tc_wB g cg gb gz ++ tc_wB o co ob oz))) rfl rfl (by decide) (by decide) (by decide) rfl 0 rfl rfl ⟨Nat.le_of_ble_eq_true rfl, Nat.le_of_ble_eq_true rfl⟩ ⟨Nat.le_of_ble_eq_true rfl, Nat.le_of_ble_eq_true rfl⟩ [] rfl rfl (Nat.le_of_ble_eq_true rfl) dX_bytes_49 (fun rv ru hw => ?_)
        rcases hw with ⟨rfl, rfl, g1e⟩ | ⟨kge, uge, wge, sge, dge, lge, ege, rge, tge, nge, Tne, rfl, rfl, g1e, g2e⟩
        ·
          show xk_Go K D 4 0 0 (tc_wX xx cxx (a 0) (o 0) (g 0) (r 0) ++ (tc_wR r cr (g 0) (a 0) wl wm wt nx ap fa pl ++ (tc_wB g cg gb gz ++ (tc_wB o co ob oz ++ tc_wS a ca kgp ugp wgp sgp dgp lgp egp rgp tgp ngp)))) [(0, .ref (xx 0)), (1, .long x), (3, .int (nI k))] 52 [.int (nI 0)]
          rw [tc_ext_8 h7] at g1e
          cases g1e
        ·
          show xk_Go K D 4 0 0 (tc_wX xx cxx (a 0) (o 0) (g 0) (r 0) ++ (tc_wR r cr (g 0) (a 0) wl wm wt nx ap fa pl ++ (tc_wB g cg gb gz ++ (tc_wB o co ob oz ++ tc_wS a ca kge uge wge sge dge lge ege rge tge nge)))) [(0, .ref (xx 0)), (1, .long x), (3, .int (nI k))] 52 [.int (nI 1)]
          rw [tc_ext_8 h7] at g1e
          have hTe := (Option.some.inj g1e).symm
          subst hTe
          refine x_pop C dX_bytes_52 rfl ?_
          refine x_aload_n C dX_bytes_53 rfl 0 rfl ?_
          refine x_get C fgX_10 0 rfl rfl dX_bytes_54 ?_
          refine x_get C fgX_35 8 rfl rfl dX_bytes_57 ?_
          exact x_iretT C T .int rfl rfl (Nat.zero_le _) (Nat.zero_le _) dX_bytes_60 (Or.inr (Or.inr (⟨k, _, _, _, _, _, _, _, _, _, _, by rw [g2e.2.1]; rfl, rfl, (tc_bn_in h7), g1p, g2e⟩)))
    ·
      exact x_throw C T (names := xk_up) (txt := "not 0 to 8 bytes") ktX_52 kiX_IllegalArgumentException ⟨rfl, by decide⟩ koX_56 xk_fit_IllegalArgumentException xk_fit_up dX_bytes_10 dX_bytes_13 dX_bytes_14 dX_bytes_16 dX_bytes_19 (by decide) (by decide) (by decide) (by decide) (by decide) (by decide) (Or.inl (⟨rfl, rfl, (tc_bn_hi (by omega) hk)⟩))
set_option maxHeartbeats 4000000 in
set_option maxRecDepth 100000 in
/-- number -/
theorem c_X_number (D : va_G) (xx : Nat → Nat) (cxx : Nat → ClassId) (r : Nat → Nat) (cr : Nat → ClassId) (g : Nat → Nat) (cg : Nat → ClassId) (o : Nat → Nat) (co : Nat → ClassId) (a : Nat → Nat) (ca : Nat → ClassId) (wl : Nat → Nat) (wm : Nat → Nat) (wt : Nat) (nx : Nat) (ap : Nat) (fa : Nat) (pl : Option Nat) (gb : Nat → Nat) (gz : Nat) (ob : Nat → Nat) (oz : Nat) (kn : Nat → Nat) (nu : Nat → Int64) (wo : Nat → Int64) (si : Nat → Nat) (de : Nat → Nat) (la : Nat → Nat) (le : Nat → Nat) (ro : Nat → Nat) (tm : Nat) (nd : Nat) (k : Int32) (Ts : List (List tc_Nd)) (y1 : tc_RS Ts (kn, nu, wo, si, de, la, le) ro tm nd) : xk_CtT yX_number cX_number 3 (some .long) { frames := 6, cells := 1, slots := 6, locals := 90 } D (tc_tX cxx ++ (tc_tR cr ++ (tc_tB cg ++ (tc_tB co ++ tc_tS ca)))) [.ref (xx 0), .int k] (tc_wX xx cxx (a 0) (o 0) (g 0) (r 0) ++ (tc_wR r cr (g 0) (a 0) wl wm wt nx ap fa pl ++ (tc_wB g cg gb gz ++ (tc_wB o co ob oz ++ tc_wS a ca kn nu wo si de la le ro tm nd)))) (fun rv ru => (rv = .inr "java/lang/IllegalArgumentException" ∧ ru = tc_wX xx cxx (a 0) (o 0) (g 0) (r 0) ++ (tc_wR r cr (g 0) (a 0) wl wm wt nx ap fa pl ++ (tc_wB g cg gb gz ++ (tc_wB o co ob oz ++ tc_wS a ca kn nu wo si de la le ro tm nd))) ∧ (tc_nba Ts k = none)) ∨ (∃ (v : Int64), rv = .inl (some (.long v)) ∧ ru = tc_wX xx cxx (a 0) (o 0) (g 0) (r 0) ++ (tc_wR r cr (g 0) (a 0) wl wm wt nx ap fa pl ++ (tc_wB g cg gb gz ++ (tc_wB o co ob oz ++ tc_wS a ca kn nu wo si de la le ro tm nd))) ∧ (tc_nba Ts k = some v))) := by
  refine xk_enterT (by decide) (Nat.le_of_ble_eq_true rfl) (fun K C T => ?_)
  show xk_Go K D 3 0 0 (tc_wX xx cxx (a 0) (o 0) (g 0) (r 0) ++ (tc_wR r cr (g 0) (a 0) wl wm wt nx ap fa pl ++ (tc_wB g cg gb gz ++ (tc_wB o co ob oz ++ tc_wS a ca kn nu wo si de la le ro tm nd)))) [(0, .ref (xx 0)), (1, .int k)] 0 []
  refine x_aload_n C dX_number_0 rfl 0 rfl ?_
  refine x_get C fgX_10 0 rfl rfl dX_number_1 ?_
  refine x_iload_n C dX_number_4 rfl 1 rfl ?_
  refine x_callV C (c_S_find D a ca kn nu wo si de la le ro tm nd k ((tc_RS_tm y1).1) (fun h => by obtain ⟨t, R, rfl⟩ := tc_RS_cons y1 h; obtain ⟨z1, z2, z3, z4, z5, z6, z7, z8, z9, z10, z11, z12⟩ := tc_top y1; omega) (fun h => by obtain ⟨t, R, rfl⟩ := tc_RS_cons y1 h; obtain ⟨z1, z2, z3, z4, z5, z6, z7, z8, z9, z10, z11, z12⟩ := tc_top y1; rw [z2, z9]; omega)) kbX_124 kcX_124 [8, 9, 10, 11, 12, 13, 14, 15, 16] [0, 1, 2, 3, 4, 5, 6, 7] [4, 5, 6, 7, 8, 9, 10, 11] (tc_wX xx cxx (a 0) (o 0) (g 0) (r 0) ++ (tc_wR r cr (g 0) (a 0) wl wm wt nx ap fa pl ++ (tc_wB g cg gb gz ++ tc_wB o co ob oz))) rfl rfl (by decide) (by decide) (by decide) rfl 0 rfl rfl ⟨Nat.le_of_ble_eq_true rfl, Nat.le_of_ble_eq_true rfl⟩ ⟨Nat.le_of_ble_eq_true rfl, Nat.le_of_ble_eq_true rfl⟩ [] rfl rfl (Nat.le_of_ble_eq_true rfl) dX_number_5 (fun rv ru hw => ?_)
  rcases hw with ⟨rfl, rfl, g1⟩ | ⟨j, rfl, rfl, g1, g2, g3⟩
  ·
    show xk_Go K D 3 0 0 (tc_wX xx cxx (a 0) (o 0) (g 0) (r 0) ++ (tc_wR r cr (g 0) (a 0) wl wm wt nx ap fa pl ++ (tc_wB g cg gb gz ++ (tc_wB o co ob oz ++ tc_wS a ca kn nu wo si de la le ro tm nd)))) [(0, .ref (xx 0)), (1, .int k)] 8 [.int (xk_oI none)]
    have hno : tc_nth Ts k = none := tc_nth_no y1 g1
    refine x_istore_n C [(2, .int (xk_oI none)), (0, .ref (xx 0)), (1, .int k)] dX_number_8 rfl (by decide) rfl ?_
    refine x_iload_n C dX_number_9 rfl 0 rfl ?_
    refine x_if_lt (tgt := 28) C dX_number_10 (by decide) (fun _ => ?_) (fun h => absurd (by decide) h)
    exact x_throw C T (names := xk_up) (txt := "no number there") ktX_52 kiX_IllegalArgumentException ⟨rfl, by decide⟩ koX_56 xk_fit_IllegalArgumentException xk_fit_up dX_number_28 dX_number_31 dX_number_32 dX_number_34 dX_number_37 (by decide) (by decide) (by decide) (by decide) (by decide) (by decide) (Or.inl (⟨rfl, rfl, (tc_nba_none hno)⟩))
  ·
    show xk_Go K D 3 0 0 (tc_wX xx cxx (a 0) (o 0) (g 0) (r 0) ++ (tc_wR r cr (g 0) (a 0) wl wm wt nx ap fa pl ++ (tc_wB g cg gb gz ++ (tc_wB o co ob oz ++ tc_wS a ca kn nu wo si de la le ro tm nd)))) [(0, .ref (xx 0)), (1, .int k)] 8 [.int (nI (ro (tm - 1) + j))]
    obtain ⟨t, R, rfl⟩ := tc_RS_cons y1 g3
    obtain ⟨z1, z2, z3, z4, z5, z6, z7, z8, z9, z10, z11, z12⟩ := tc_top y1
    subst g1
    rw [z2, z9] at g2
    have zt := y1.1 t List.mem_cons_self
    have hth : tc_nth (t :: R) (nI j) = some j := tc_nth_some g2 (by omega)
    obtain ⟨x, hxj⟩ : ∃ x, t[j]? = some x := ⟨_, List.getElem?_eq_getElem g2⟩
    have hxd := tc_drop1 hxj
    have hn := tc_at_k z8 hxj
    rw [← z2] at hn
    have hxo := zt.2.2 x (List.mem_of_getElem? hxj)
    have hx11 := hxo.1
    refine x_istore_n C [(2, .int (nI (ro (tm - 1) + j))), (0, .ref (xx 0)), (1, .int (nI j))] dX_number_8 rfl (by decide) rfl ?_
    refine x_iload_n C dX_number_9 rfl 0 rfl ?_
    refine x_if_ltN (tgt := 28) C (by omega) dX_number_10 (by decide) ?_
    refine x_aload_n C dX_number_13 rfl 1 rfl ?_
    refine x_get C fgX_10 0 rfl rfl dX_number_14 ?_
    refine x_get C fgX_128 8 rfl rfl dX_number_17 ?_
    refine x_iload_n C dX_number_20 rfl 0 rfl ?_
    refine x_ild C 9 4 rfl rfl (by omega) (by decide) dX_number_21 ?_
    show xk_Go K D 3 0 0 (tc_wX xx cxx (a 0) (o 0) (g 0) (r 0) ++ (tc_wR r cr (g 0) (a 0) wl wm wt nx ap fa pl ++ (tc_wB g cg gb gz ++ (tc_wB o co ob oz ++ tc_wS a ca kn nu wo si de la le ro tm nd)))) [(2, .int (nI (ro (tm - 1) + j))), (0, .ref (xx 0)), (1, .int (nI j))] 22 [.int (nI (kn (ro (tm - 1) + j)))]
    refine x_callS C (c_F_hasNumber D (kn (ro (tm - 1) + j)) (by rw [hn.1]; omega)) kbX_143 kcX_143 [] [0, 1, 2, 3, 4, 5, 6, 7, 8, 9, 10, 11, 12, 13, 14, 15, 16] [] (tc_wX xx cxx (a 0) (o 0) (g 0) (r 0) ++ (tc_wR r cr (g 0) (a 0) wl wm wt nx ap fa pl ++ (tc_wB g cg gb gz ++ (tc_wB o co ob oz ++ tc_wS a ca kn nu wo si de la le ro tm nd)))) rfl rfl (by decide) (by decide) (by decide) rfl ⟨Nat.le_of_ble_eq_true rfl, Nat.le_of_ble_eq_true rfl⟩ ⟨Nat.le_of_ble_eq_true rfl, Nat.le_of_ble_eq_true rfl⟩ [] rfl rfl (Nat.le_of_ble_eq_true rfl) dX_number_22 (fun rv ru hw => ?_)
    obtain ⟨rfl, rfl⟩ := hw
    show xk_Go K D 3 0 0 (tc_wX xx cxx (a 0) (o 0) (g 0) (r 0) ++ (tc_wR r cr (g 0) (a 0) wl wm wt nx ap fa pl ++ (tc_wB g cg gb gz ++ (tc_wB o co ob oz ++ tc_wS a ca kn nu wo si de la le ro tm nd)))) [(2, .int (nI (ro (tm - 1) + j))), (0, .ref (xx 0)), (1, .int (nI j))] 25 [.int (xk_bZ (tc_num (kn (ro (tm - 1) + j))))]
    refine x_if_neB (tgt := 38) C dX_number_25 (by decide) (fun h25 => ?_) (fun h25 => ?_)
    ·
      refine x_aload_n C dX_number_38 rfl 1 rfl ?_
      refine x_get C fgX_10 0 rfl rfl dX_number_39 ?_
      refine x_get C fgX_148 8 rfl rfl dX_number_42 ?_
      refine x_iload_n C dX_number_45 rfl 0 rfl ?_
      refine x_lld C 10 5 rfl rfl (by omega) (by decide) dX_number_46 ?_
      exact x_lretT C T rfl (Nat.zero_le _) (Nat.zero_le _) dX_number_47 (Or.inr (⟨_, rfl, rfl, (by rw [tc_nba_some hth hxj, ← hn.1, if_pos h25, hn.2.1])⟩))
    ·
      exact x_throw C T (names := xk_up) (txt := "no number there") ktX_52 kiX_IllegalArgumentException ⟨rfl, by decide⟩ koX_56 xk_fit_IllegalArgumentException xk_fit_up dX_number_28 dX_number_31 dX_number_32 dX_number_34 dX_number_37 (by decide) (by decide) (by decide) (by decide) (by decide) (by decide) (Or.inl (⟨rfl, rfl, (by rw [tc_nba_some hth hxj]; exact if_neg (by rw [← hn.1, h25]; decide))⟩))
set_option maxHeartbeats 4000000 in
set_option maxRecDepth 100000 in
/-- same -/
theorem c_X_same (D : va_G) (xx : Nat → Nat) (cxx : Nat → ClassId) (r : Nat → Nat) (cr : Nat → ClassId) (g : Nat → Nat) (cg : Nat → ClassId) (o : Nat → Nat) (co : Nat → ClassId) (a : Nat → Nat) (ca : Nat → ClassId) (wl : Nat → Nat) (wm : Nat → Nat) (wt : Nat) (nx : Nat) (ap : Nat) (fa : Nat) (pl : Option Nat) (gb : Nat → Nat) (gz : Nat) (ob : Nat → Nat) (oz : Nat) (kn : Nat → Nat) (nu : Nat → Int64) (wo : Nat → Int64) (si : Nat → Nat) (de : Nat → Nat) (la : Nat → Nat) (le : Nat → Nat) (ro : Nat → Nat) (tm : Nat) (nd : Nat) (Ts : List (List tc_Nd)) (y1 : tc_RS Ts (kn, nu, wo, si, de, la, le) ro tm nd) : xk_CtT yX_same cX_same 1 (some .boolean) { frames := 6, cells := 1, slots := 6, locals := 91 } D (tc_tX cxx ++ (tc_tR cr ++ (tc_tB cg ++ (tc_tB co ++ tc_tS ca)))) [.ref (xx 0)] (tc_wX xx cxx (a 0) (o 0) (g 0) (r 0) ++ (tc_wR r cr (g 0) (a 0) wl wm wt nx ap fa pl ++ (tc_wB g cg gb gz ++ (tc_wB o co ob oz ++ tc_wS a ca kn nu wo si de la le ro tm nd)))) (fun rv ru => (rv = .inr "java/lang/IllegalStateException" ∧ ru = tc_wX xx cxx (a 0) (o 0) (g 0) (r 0) ++ (tc_wR r cr (g 0) (a 0) wl wm wt nx ap fa pl ++ (tc_wB g cg gb gz ++ (tc_wB o co ob oz ++ tc_wS a ca kn nu wo si de la le ro tm nd))) ∧ (tc_sm Ts = none)) ∨ (∃ (b : Bool), rv = .inl (some (.int (xk_bZ b))) ∧ ru = tc_wX xx cxx (a 0) (o 0) (g 0) (r 0) ++ (tc_wR r cr (g 0) (a 0) wl wm wt nx ap fa pl ++ (tc_wB g cg gb gz ++ (tc_wB o co ob oz ++ tc_wS a ca kn nu wo si de la le ro tm nd))) ∧ (tc_sm Ts = some b))) := by
  refine xk_enterT (by decide) (Nat.le_of_ble_eq_true rfl) (fun K C T => ?_)
  have ytm := (tc_RS_tm y1).1
  show xk_Go K D 1 0 0 (tc_wX xx cxx (a 0) (o 0) (g 0) (r 0) ++ (tc_wR r cr (g 0) (a 0) wl wm wt nx ap fa pl ++ (tc_wB g cg gb gz ++ (tc_wB o co ob oz ++ tc_wS a ca kn nu wo si de la le ro tm nd)))) [(0, .ref (xx 0))] 0 []
  refine x_aload_n C dX_same_0 rfl 0 rfl ?_
  refine x_get C fgX_10 0 rfl rfl dX_same_1 ?_
  refine x_get C fgX_35 8 rfl rfl dX_same_4 ?_
  refine x_iconst (v := nI 2) C dX_same_7 (by decide) ?_
  refine x_icmp_geN (tgt := 21) C (by omega) (by decide) dX_same_8 (by decide) (fun h8 => ?_) (fun h8 => ?_)
  ·
    refine x_aload_n C dX_same_21 rfl 0 rfl ?_
    refine x_get C fgX_10 0 rfl rfl dX_same_22 ?_
    obtain ⟨t, t1, R, rfl⟩ := tc_len2 (l := Ts) (by have := y1.2.1; omega)
    refine x_callV C (c_S_lastTwoAlike D a ca kn nu wo si de la le ro tm nd t t1 R y1) kbX_158 kcX_158 [8, 9, 10, 11, 12, 13, 14, 15, 16] [0, 1, 2, 3, 4, 5, 6, 7] [4, 5, 6, 7, 8, 9, 10, 11] (tc_wX xx cxx (a 0) (o 0) (g 0) (r 0) ++ (tc_wR r cr (g 0) (a 0) wl wm wt nx ap fa pl ++ (tc_wB g cg gb gz ++ tc_wB o co ob oz))) rfl rfl (by decide) (by decide) (by decide) rfl 0 rfl rfl ⟨Nat.le_of_ble_eq_true rfl, Nat.le_of_ble_eq_true rfl⟩ ⟨Nat.le_of_ble_eq_true rfl, Nat.le_of_ble_eq_true rfl⟩ [] rfl rfl (Nat.le_of_ble_eq_true rfl) dX_same_25 (fun rv ru hw => ?_)
    obtain ⟨rfl, rfl⟩ := hw
    show xk_Go K D 1 0 0 (tc_wX xx cxx (a 0) (o 0) (g 0) (r 0) ++ (tc_wR r cr (g 0) (a 0) wl wm wt nx ap fa pl ++ (tc_wB g cg gb gz ++ (tc_wB o co ob oz ++ tc_wS a ca kn nu wo si de la le ro tm nd)))) [(0, .ref (xx 0))] 28 [.int (xk_bZ (decide (t1 = t)))]
    exact x_iretT C T .boolean rfl (by cases decide (t1 = t) <;> rfl) (Nat.zero_le _) (Nat.zero_le _) dX_same_28 (Or.inr (⟨_, rfl, rfl, rfl⟩))
  ·
    exact x_throw C T (names := xk_up) (txt := "fewer than two terms") ktX_62 kiX_IllegalStateException ⟨rfl, by decide⟩ koX_66 xk_fit_IllegalStateException xk_fit_up dX_same_11 dX_same_14 dX_same_15 dX_same_17 dX_same_20 (by decide) (by decide) (by decide) (by decide) (by decide) (by decide) (Or.inl (⟨rfl, rfl, (tc_sm_no (by have := y1.2.1; omega))⟩))
