set_option maxHeartbeats 4000000 in
set_option maxRecDepth 100000 in
/-- readNode -/
theorem c_R_readNode (D : va_G) (r : Nat → Nat) (cr : Nat → ClassId) (g : Nat → Nat) (cg : Nat → ClassId) (a : Nat → Nat) (ca : Nat → ClassId) (wl : Nat → Nat) (wm : Nat → Nat) (wt : Nat) (nx : Nat) (ap : Nat) (gb : Nat → Nat) (gz : Nat) (kn : Nat → Nat) (nu : Nat → Int64) (wo : Nat → Int64) (si : Nat → Nat) (de : Nat → Nat) (la : Nat → Nat) (le : Nat → Nat) (ro : Nat → Nat) (tm : Nat) (nd : Nat) (i : Nat) (l : Nat) (m : Nat) (y1 : nx ≤ gz) (y2 : gz ≤ 4096) (y3 : 0 < wt) (y4 : wt ≤ l) (y5 : i ≤ 200) (y6 : wl (wt - 1) = l) (y7 : wm (wt - 1) = m) (y8 : l ≤ 61) (y9 : m < 1000) : xk_Ct yR_readNode cR_readNode 6 none { frames := 5, cells := 0, slots := 0, locals := 117 } D (tc_tR cr ++ (tc_tB cg ++ tc_tS ca)) [.ref (r 0), .int (nI i)] (tc_wR r cr (g 0) (a 0) wl wm wt nx ap 0 none ++ (tc_wB g cg gb gz ++ tc_wS a ca kn nu wo si de la le ro tm nd)) (fun rv ru => (∃ (x : tc_Nd), ∃ (nw : Nat), ∃ (kg : Nat → Nat), ∃ (ug : Nat → Int64), ∃ (wg : Nat → Int64), ∃ (wlg : Nat → Nat), ∃ (wmg : Nat → Nat), rv = none ∧ ru = tc_wR r cr (g 0) (a 0) wlg wmg (wt - 1 + tc_tk x.1) nw ap 0 none ++ (tc_wB g cg gb gz ++ tc_wS a ca kg ug wg si de la le ro tm nd) ∧ (tc_rN (tc_B gb) gz nx l m i = .inr (x, nw)) ∧ (∀ j, j ≠ i → kg j = kn j ∧ ug j = nu j ∧ ∀ t, t < 64 → tc_wb wg j t = tc_wb wo j t) ∧ (kg i = x.1 ∧ ug i = x.2.1 ∧ ∀ t b, x.2.2[t]? = some b → tc_wb wg i t = b) ∧ (∀ j, j < wt - 1 → wlg j = wl j ∧ wmg j = wm j) ∧ (∀ j, wt - 1 ≤ j → j < wt - 1 + tc_tk x.1 → wlg j = l + 1 ∧ wmg j = m + if x.1 = 1 then 1 else 0) ∧ (nx ≤ nw) ∧ (nw ≤ gz) ∧ (i < 200)) ∨ (∃ (f : Nat), ∃ (q : Nat), ∃ (nw : Nat), ∃ (kg : Nat → Nat), ∃ (ug : Nat → Int64), ∃ (wg : Nat → Int64), ∃ (wlg : Nat → Nat), ∃ (wmg : Nat → Nat), ∃ (wtg : Nat), rv = none ∧ ru = tc_wR r cr (g 0) (a 0) wlg wmg wtg nw ap f (some q) ++ (tc_wB g cg gb gz ++ tc_wS a ca kg ug wg si de la le ro tm nd) ∧ (tc_rN (tc_B gb) gz nx l m i = .inl (f, q)) ∧ (∀ j, j ≠ i → kg j = kn j ∧ ug j = nu j ∧ ∀ t, t < 64 → tc_wb wg j t = tc_wb wo j t) ∧ (0 < f ∧ f < 10) ∧ (nx ≤ nw) ∧ (nw ≤ gz) ∧ (wtg ≤ 62))) := by
  refine xk_enter (by decide) (Nat.le_of_ble_eq_true rfl) (fun K C T hin => ?_)
  show xk_Go K D 6 0 0 (tc_wR r cr (g 0) (a 0) wl wm wt nx ap 0 none ++ (tc_wB g cg gb gz ++ tc_wS a ca kn nu wo si de la le ro tm nd)) [(0, .ref (r 0)), (1, .int (nI i))] 0 []
  refine x_aload_n C dR_readNode_0 rfl 0 rfl ?_
  refine x_get C fgR_22 0 rfl rfl dR_readNode_1 ?_
  refine x_istore_n C [(2, .int (nI nx)), (0, .ref (r 0)), (1, .int (nI i))] dR_readNode_4 rfl (by decide) rfl ?_
  refine x_aload_n C dR_readNode_5 rfl 1 rfl ?_
  refine x_callV C (c_R_takeByte D r cr g cg a ca wl wm wt nx ap 0 none gb gz kn nu wo si de la le ro tm nd y1 y2 (by decide)) kbR_63 kcR_63 [0, 1, 2, 3, 4, 5, 6, 7, 8, 9, 10, 11, 12, 13] [] [0, 1, 2, 3, 4, 5, 6, 7, 8, 9, 10] ([]) rfl rfl (by decide) (by decide) (by decide) rfl 0 rfl rfl ⟨Nat.le_of_ble_eq_true rfl, Nat.le_of_ble_eq_true rfl⟩ ⟨Nat.le_of_ble_eq_true rfl, Nat.le_of_ble_eq_true rfl⟩ [] rfl rfl (Nat.le_of_ble_eq_true rfl) dR_readNode_6 (fun rv ru hw => ?_)
  rcases hw with ⟨rfl, rfl, g1t⟩ | ⟨rfl, rfl, g1t⟩
  ·
    show xk_Go K D 6 0 0 (tc_wR r cr (g 0) (a 0) wl wm wt nx ap (tc_f1 0 1) (tc_f2 0 none gz) ++ (tc_wB g cg gb gz ++ tc_wS a ca kn nu wo si de la le ro tm nd)) [(2, .int (nI nx)), (0, .ref (r 0)), (1, .int (nI i))] 9 [.int (nI 0)]
    show xk_Go K D 6 0 0 (tc_wR r cr (g 0) (a 0) wl wm wt nx ap 1 (some gz) ++ (tc_wB g cg gb gz ++ tc_wS a ca kn nu wo si de la le ro tm nd)) [(2, .int (nI nx)), (0, .ref (r 0)), (1, .int (nI i))] 9 [.int (nI 0)]
    refine x_istore_n C [(3, .int (nI 0)), (2, .int (nI nx)), (0, .ref (r 0)), (1, .int (nI i))] dR_readNode_9 rfl (by decide) rfl ?_
    refine x_aload_n C dR_readNode_10 rfl 2 rfl ?_
    refine x_dup C dR_readNode_11 rfl ?_
    refine x_get C fgR_18 0 rfl rfl dR_readNode_12 ?_
    refine x_iconst (v := nI 1) C dR_readNode_15 (by decide) ?_
    refine x_isubN C (by omega) dR_readNode_16 ?_
    refine x_put C fpR_18 0 (tc_wR r cr (g 0) (a 0) wl wm (wt - 1) nx ap 1 (some gz) ++ (tc_wB g cg gb gz ++ tc_wS a ca kn nu wo si de la le ro tm nd)) rfl rfl rfl rfl (Nat.le_of_ble_eq_true rfl) dR_readNode_17 ?_
    refine x_aload_n C dR_readNode_20 rfl 2 rfl ?_
    refine x_get C fgR_11 0 rfl rfl dR_readNode_21 ?_
    refine x_aload_n C dR_readNode_24 rfl 2 rfl ?_
    refine x_get C fgR_18 0 rfl rfl dR_readNode_25 ?_
    refine x_ild C 1 0 rfl rfl (by omega) (by decide) dR_readNode_28 ?_
    show xk_Go K D 6 0 0 (tc_wR r cr (g 0) (a 0) wl wm (wt - 1) nx ap 1 (some gz) ++ (tc_wB g cg gb gz ++ tc_wS a ca kn nu wo si de la le ro tm nd)) [(3, .int (nI 0)), (2, .int (nI nx)), (0, .ref (r 0)), (1, .int (nI i))] 29 [.int (nI (wl (wt - 1)))]
    rw [y6]
    refine x_istore C [(4, .int (nI l)), (3, .int (nI 0)), (2, .int (nI nx)), (0, .ref (r 0)), (1, .int (nI i))] dR_readNode_29 (by decide) rfl ?_
    refine x_aload_n C dR_readNode_31 rfl 3 rfl ?_
    refine x_get C fgR_15 0 rfl rfl dR_readNode_32 ?_
    refine x_aload_n C dR_readNode_35 rfl 3 rfl ?_
    refine x_get C fgR_18 0 rfl rfl dR_readNode_36 ?_
    refine x_ild C 2 1 rfl rfl (by omega) (by decide) dR_readNode_39 ?_
    show xk_Go K D 6 0 0 (tc_wR r cr (g 0) (a 0) wl wm (wt - 1) nx ap 1 (some gz) ++ (tc_wB g cg gb gz ++ tc_wS a ca kn nu wo si de la le ro tm nd)) [(4, .int (nI l)), (3, .int (nI 0)), (2, .int (nI nx)), (0, .ref (r 0)), (1, .int (nI i))] 40 [.int (nI (wm (wt - 1)))]
    rw [y7]
    refine x_istore C [(5, .int (nI m)), (4, .int (nI l)), (3, .int (nI 0)), (2, .int (nI nx)), (0, .ref (r 0)), (1, .int (nI i))] dR_readNode_40 (by decide) rfl ?_
    refine x_iload_n C dR_readNode_42 rfl 2 rfl ?_
    refine x_callS C (c_F_isKind D (nI 0)) kbR_67 kcR_67 [] [0, 1, 2, 3, 4, 5, 6, 7, 8, 9, 10, 11, 12, 13] [] (tc_wR r cr (g 0) (a 0) wl wm (wt - 1) nx ap 1 (some gz) ++ (tc_wB g cg gb gz ++ tc_wS a ca kn nu wo si de la le ro tm nd)) rfl rfl (by decide) (by decide) (by decide) rfl ⟨Nat.le_of_ble_eq_true rfl, Nat.le_of_ble_eq_true rfl⟩ ⟨Nat.le_of_ble_eq_true rfl, Nat.le_of_ble_eq_true rfl⟩ [] rfl rfl (Nat.le_of_ble_eq_true rfl) dR_readNode_43 (fun rv ru hw => ?_)
    rcases hw with ⟨rfl, rfl, g1k⟩ | ⟨jk, rfl, rfl, g1k, g2k⟩
    ·
      show xk_Go K D 6 0 0 (tc_wR r cr (g 0) (a 0) wl wm (wt - 1) nx ap 1 (some gz) ++ (tc_wB g cg gb gz ++ tc_wS a ca kn nu wo si de la le ro tm nd)) [(5, .int (nI m)), (4, .int (nI l)), (3, .int (nI 0)), (2, .int (nI nx)), (0, .ref (r 0)), (1, .int (nI i))] 46 [.int (nI 0)]
      exact absurd rfl (g1k 0 (by decide))
    ·
      show xk_Go K D 6 0 0 (tc_wR r cr (g 0) (a 0) wl wm (wt - 1) nx ap 1 (some gz) ++ (tc_wB g cg gb gz ++ tc_wS a ca kn nu wo si de la le ro tm nd)) [(5, .int (nI m)), (4, .int (nI l)), (3, .int (nI 0)), (2, .int (nI nx)), (0, .ref (r 0)), (1, .int (nI i))] 46 [.int (nI 1)]
      refine x_if_ne (tgt := 55) C dR_readNode_46 (by decide) (fun _ => ?_) (fun h => absurd h (by decide))
      refine x_iload C dR_readNode_55 1 rfl ?_
      refine x_bipush (v := nI 60) C dR_readNode_57 (by decide) ?_
      refine x_icmp_leN (tgt := 68) C (by omega) (by decide) dR_readNode_59 (by decide) (fun h59 => ?_) (fun h59 => ?_)
      ·
        refine x_iload_n C dR_readNode_68 rfl 5 rfl ?_
        refine x_sipush (v := nI 200) C dR_readNode_69 (by decide) ?_
        refine x_icmp_ltN (tgt := 82) C (by omega) (by decide) dR_readNode_72 (by decide) (fun h72 => ?_) (fun h72 => ?_)
        ·
          refine x_aload_n C dR_readNode_82 rfl 4 rfl ?_
          refine x_get C fgR_28 0 rfl rfl dR_readNode_83 ?_
          refine x_if_ne (tgt := 123) C dR_readNode_86 (by decide) (fun _ => ?_) (fun h => absurd h (by decide))
          exact x_vret C T rfl dR_readNode_123 (Or.inr (⟨1, gz, _, _, _, _, _, _, _, rfl, rfl, (tc_rN_1 g1t), (fun j hj => ⟨rfl, rfl, fun _ _ => rfl⟩), (by decide), (by omega), (by omega), (by omega)⟩))
        ·
          refine x_aload_n C dR_readNode_75 rfl 4 rfl ?_
          refine x_bipush (v := nI 6) C dR_readNode_76 (by decide) ?_
          refine x_iload_n C dR_readNode_78 rfl 3 rfl ?_
          refine x_callV C (c_R_fail D r cr g cg a ca wl wm (wt - 1) nx ap 1 (some gz) gb gz kn nu wo si de la le ro tm nd 6 nx (by decide)) kbR_73 kcR_73 [0, 1, 2, 3, 4, 5, 6, 7, 8, 9, 10, 11, 12, 13] [] [0, 1, 2, 3, 4, 5, 6, 7, 8, 9, 10] ([]) rfl rfl (by decide) (by decide) (by decide) rfl 0 rfl rfl ⟨Nat.le_of_ble_eq_true rfl, Nat.le_of_ble_eq_true rfl⟩ ⟨Nat.le_of_ble_eq_true rfl, Nat.le_of_ble_eq_true rfl⟩ [] rfl rfl (Nat.le_of_ble_eq_true rfl) dR_readNode_79 (fun rv ru hw => ?_)
          obtain ⟨rfl, rfl⟩ := hw
          show xk_Go K D 6 0 0 (tc_wR r cr (g 0) (a 0) wl wm (wt - 1) nx ap (tc_f1 1 6) (tc_f2 1 (some gz) nx) ++ (tc_wB g cg gb gz ++ tc_wS a ca kn nu wo si de la le ro tm nd)) [(5, .int (nI m)), (4, .int (nI l)), (3, .int (nI 0)), (2, .int (nI nx)), (0, .ref (r 0)), (1, .int (nI i))] 82 []
          show xk_Go K D 6 0 0 (tc_wR r cr (g 0) (a 0) wl wm (wt - 1) nx ap 1 (some gz) ++ (tc_wB g cg gb gz ++ tc_wS a ca kn nu wo si de la le ro tm nd)) [(5, .int (nI m)), (4, .int (nI l)), (3, .int (nI 0)), (2, .int (nI nx)), (0, .ref (r 0)), (1, .int (nI i))] 82 []
          refine x_aload_n C dR_readNode_82 rfl 4 rfl ?_
          refine x_get C fgR_28 0 rfl rfl dR_readNode_83 ?_
          refine x_if_ne (tgt := 123) C dR_readNode_86 (by decide) (fun _ => ?_) (fun h => absurd h (by decide))
          exact x_vret C T rfl dR_readNode_123 (Or.inr (⟨1, gz, _, _, _, _, _, _, _, rfl, rfl, (tc_rN_1 g1t), (fun j hj => ⟨rfl, rfl, fun _ _ => rfl⟩), (by decide), (by omega), (by omega), (by omega)⟩))
      ·
        refine x_aload_n C dR_readNode_62 rfl 4 rfl ?_
        refine x_iconst (v := nI 5) C dR_readNode_63 (by decide) ?_
        refine x_iload_n C dR_readNode_64 rfl 3 rfl ?_
        refine x_callV C (c_R_fail D r cr g cg a ca wl wm (wt - 1) nx ap 1 (some gz) gb gz kn nu wo si de la le ro tm nd 5 nx (by decide)) kbR_73 kcR_73 [0, 1, 2, 3, 4, 5, 6, 7, 8, 9, 10, 11, 12, 13] [] [0, 1, 2, 3, 4, 5, 6, 7, 8, 9, 10] ([]) rfl rfl (by decide) (by decide) (by decide) rfl 0 rfl rfl ⟨Nat.le_of_ble_eq_true rfl, Nat.le_of_ble_eq_true rfl⟩ ⟨Nat.le_of_ble_eq_true rfl, Nat.le_of_ble_eq_true rfl⟩ [] rfl rfl (Nat.le_of_ble_eq_true rfl) dR_readNode_65 (fun rv ru hw => ?_)
        obtain ⟨rfl, rfl⟩ := hw
        show xk_Go K D 6 0 0 (tc_wR r cr (g 0) (a 0) wl wm (wt - 1) nx ap (tc_f1 1 5) (tc_f2 1 (some gz) nx) ++ (tc_wB g cg gb gz ++ tc_wS a ca kn nu wo si de la le ro tm nd)) [(5, .int (nI m)), (4, .int (nI l)), (3, .int (nI 0)), (2, .int (nI nx)), (0, .ref (r 0)), (1, .int (nI i))] 68 []
        show xk_Go K D 6 0 0 (tc_wR r cr (g 0) (a 0) wl wm (wt - 1) nx ap 1 (some gz) ++ (tc_wB g cg gb gz ++ tc_wS a ca kn nu wo si de la le ro tm nd)) [(5, .int (nI m)), (4, .int (nI l)), (3, .int (nI 0)), (2, .int (nI nx)), (0, .ref (r 0)), (1, .int (nI i))] 68 []
        refine x_iload_n C dR_readNode_68 rfl 5 rfl ?_
        refine x_sipush (v := nI 200) C dR_readNode_69 (by decide) ?_
        refine x_icmp_ltN (tgt := 82) C (by omega) (by decide) dR_readNode_72 (by decide) (fun h72 => ?_) (fun h72 => ?_)
        ·
          refine x_aload_n C dR_readNode_82 rfl 4 rfl ?_
          refine x_get C fgR_28 0 rfl rfl dR_readNode_83 ?_
          refine x_if_ne (tgt := 123) C dR_readNode_86 (by decide) (fun _ => ?_) (fun h => absurd h (by decide))
          exact x_vret C T rfl dR_readNode_123 (Or.inr (⟨1, gz, _, _, _, _, _, _, _, rfl, rfl, (tc_rN_1 g1t), (fun j hj => ⟨rfl, rfl, fun _ _ => rfl⟩), (by decide), (by omega), (by omega), (by omega)⟩))
        ·
          refine x_aload_n C dR_readNode_75 rfl 4 rfl ?_
          refine x_bipush (v := nI 6) C dR_readNode_76 (by decide) ?_
          refine x_iload_n C dR_readNode_78 rfl 3 rfl ?_
          refine x_callV C (c_R_fail D r cr g cg a ca wl wm (wt - 1) nx ap 1 (some gz) gb gz kn nu wo si de la le ro tm nd 6 nx (by decide)) kbR_73 kcR_73 [0, 1, 2, 3, 4, 5, 6, 7, 8, 9, 10, 11, 12, 13] [] [0, 1, 2, 3, 4, 5, 6, 7, 8, 9, 10] ([]) rfl rfl (by decide) (by decide) (by decide) rfl 0 rfl rfl ⟨Nat.le_of_ble_eq_true rfl, Nat.le_of_ble_eq_true rfl⟩ ⟨Nat.le_of_ble_eq_true rfl, Nat.le_of_ble_eq_true rfl⟩ [] rfl rfl (Nat.le_of_ble_eq_true rfl) dR_readNode_79 (fun rv ru hw => ?_)
          obtain ⟨rfl, rfl⟩ := hw
          show xk_Go K D 6 0 0 (tc_wR r cr (g 0) (a 0) wl wm (wt - 1) nx ap (tc_f1 1 6) (tc_f2 1 (some gz) nx) ++ (tc_wB g cg gb gz ++ tc_wS a ca kn nu wo si de la le ro tm nd)) [(5, .int (nI m)), (4, .int (nI l)), (3, .int (nI 0)), (2, .int (nI nx)), (0, .ref (r 0)), (1, .int (nI i))] 82 []
          show xk_Go K D 6 0 0 (tc_wR r cr (g 0) (a 0) wl wm (wt - 1) nx ap 1 (some gz) ++ (tc_wB g cg gb gz ++ tc_wS a ca kn nu wo si de la le ro tm nd)) [(5, .int (nI m)), (4, .int (nI l)), (3, .int (nI 0)), (2, .int (nI nx)), (0, .ref (r 0)), (1, .int (nI i))] 82 []
          refine x_aload_n C dR_readNode_82 rfl 4 rfl ?_
          refine x_get C fgR_28 0 rfl rfl dR_readNode_83 ?_
          refine x_if_ne (tgt := 123) C dR_readNode_86 (by decide) (fun _ => ?_) (fun h => absurd h (by decide))
          exact x_vret C T rfl dR_readNode_123 (Or.inr (⟨1, gz, _, _, _, _, _, _, _, rfl, rfl, (tc_rN_1 g1t), (fun j hj => ⟨rfl, rfl, fun _ _ => rfl⟩), (by decide), (by omega), (by omega), (by omega)⟩))
  ·
    show xk_Go K D 6 0 0 (tc_wR r cr (g 0) (a 0) wl wm wt (nx + 1) ap 0 none ++ (tc_wB g cg gb gz ++ tc_wS a ca kn nu wo si de la le ro tm nd)) [(2, .int (nI nx)), (0, .ref (r 0)), (1, .int (nI i))] 9 [.int (nI (gb nx % 256))]
    obtain ⟨bk, hbk⟩ : ∃ b, b = gb nx % 256 := ⟨_, rfl⟩
    rw [← hbk]
    refine x_istore_n C [(3, .int (nI bk)), (2, .int (nI nx)), (0, .ref (r 0)), (1, .int (nI i))] dR_readNode_9 rfl (by decide) rfl ?_
    refine x_aload_n C dR_readNode_10 rfl 2 rfl ?_
    refine x_dup C dR_readNode_11 rfl ?_
    refine x_get C fgR_18 0 rfl rfl dR_readNode_12 ?_
    refine x_iconst (v := nI 1) C dR_readNode_15 (by decide) ?_
    refine x_isubN C (by omega) dR_readNode_16 ?_
    refine x_put C fpR_18 0 (tc_wR r cr (g 0) (a 0) wl wm (wt - 1) (nx + 1) ap 0 none ++ (tc_wB g cg gb gz ++ tc_wS a ca kn nu wo si de la le ro tm nd)) rfl rfl rfl rfl (Nat.le_of_ble_eq_true rfl) dR_readNode_17 ?_
    refine x_aload_n C dR_readNode_20 rfl 2 rfl ?_
    refine x_get C fgR_11 0 rfl rfl dR_readNode_21 ?_
    refine x_aload_n C dR_readNode_24 rfl 2 rfl ?_
    refine x_get C fgR_18 0 rfl rfl dR_readNode_25 ?_
    refine x_ild C 1 0 rfl rfl (by omega) (by decide) dR_readNode_28 ?_
    show xk_Go K D 6 0 0 (tc_wR r cr (g 0) (a 0) wl wm (wt - 1) (nx + 1) ap 0 none ++ (tc_wB g cg gb gz ++ tc_wS a ca kn nu wo si de la le ro tm nd)) [(3, .int (nI bk)), (2, .int (nI nx)), (0, .ref (r 0)), (1, .int (nI i))] 29 [.int (nI (wl (wt - 1)))]
    rw [y6]
    refine x_istore C [(4, .int (nI l)), (3, .int (nI bk)), (2, .int (nI nx)), (0, .ref (r 0)), (1, .int (nI i))] dR_readNode_29 (by decide) rfl ?_
    refine x_aload_n C dR_readNode_31 rfl 3 rfl ?_
    refine x_get C fgR_15 0 rfl rfl dR_readNode_32 ?_
    refine x_aload_n C dR_readNode_35 rfl 3 rfl ?_
    refine x_get C fgR_18 0 rfl rfl dR_readNode_36 ?_
    refine x_ild C 2 1 rfl rfl (by omega) (by decide) dR_readNode_39 ?_
    show xk_Go K D 6 0 0 (tc_wR r cr (g 0) (a 0) wl wm (wt - 1) (nx + 1) ap 0 none ++ (tc_wB g cg gb gz ++ tc_wS a ca kn nu wo si de la le ro tm nd)) [(4, .int (nI l)), (3, .int (nI bk)), (2, .int (nI nx)), (0, .ref (r 0)), (1, .int (nI i))] 40 [.int (nI (wm (wt - 1)))]
    rw [y7]
    refine x_istore C [(5, .int (nI m)), (4, .int (nI l)), (3, .int (nI bk)), (2, .int (nI nx)), (0, .ref (r 0)), (1, .int (nI i))] dR_readNode_40 (by decide) rfl ?_
    refine x_iload_n C dR_readNode_42 rfl 2 rfl ?_
    refine x_callS C (c_F_isKind D (nI bk)) kbR_67 kcR_67 [] [0, 1, 2, 3, 4, 5, 6, 7, 8, 9, 10, 11, 12, 13] [] (tc_wR r cr (g 0) (a 0) wl wm (wt - 1) (nx + 1) ap 0 none ++ (tc_wB g cg gb gz ++ tc_wS a ca kn nu wo si de la le ro tm nd)) rfl rfl (by decide) (by decide) (by decide) rfl ⟨Nat.le_of_ble_eq_true rfl, Nat.le_of_ble_eq_true rfl⟩ ⟨Nat.le_of_ble_eq_true rfl, Nat.le_of_ble_eq_true rfl⟩ [] rfl rfl (Nat.le_of_ble_eq_true rfl) dR_readNode_43 (fun rv ru hw => ?_)
    rcases hw with ⟨rfl, rfl, g1k⟩ | ⟨jk, rfl, rfl, g1k, g2k⟩
    ·
      show xk_Go K D 6 0 0 (tc_wR r cr (g 0) (a 0) wl wm (wt - 1) (nx + 1) ap 0 none ++ (tc_wB g cg gb gz ++ tc_wS a ca kn nu wo si de la le ro tm nd)) [(5, .int (nI m)), (4, .int (nI l)), (3, .int (nI bk)), (2, .int (nI nx)), (0, .ref (r 0)), (1, .int (nI i))] 46 [.int (nI 0)]
      have hb11 : 11 < bk := Nat.not_le.mp (fun z => g1k bk z rfl)
      refine x_if_ne (tgt := 55) C dR_readNode_46 (by decide) (fun h => absurd (by decide) h) (fun _ => ?_)
      refine x_aload_n C dR_readNode_49 rfl 4 rfl ?_
      refine x_iconst (v := nI 3) C dR_readNode_50 (by decide) ?_
      refine x_iload_n C dR_readNode_51 rfl 3 rfl ?_
      refine x_callV C (c_R_fail D r cr g cg a ca wl wm (wt - 1) (nx + 1) ap 0 none gb gz kn nu wo si de la le ro tm nd 3 nx (by decide)) kbR_73 kcR_73 [0, 1, 2, 3, 4, 5, 6, 7, 8, 9, 10, 11, 12, 13] [] [0, 1, 2, 3, 4, 5, 6, 7, 8, 9, 10] ([]) rfl rfl (by decide) (by decide) (by decide) rfl 0 rfl rfl ⟨Nat.le_of_ble_eq_true rfl, Nat.le_of_ble_eq_true rfl⟩ ⟨Nat.le_of_ble_eq_true rfl, Nat.le_of_ble_eq_true rfl⟩ [] rfl rfl (Nat.le_of_ble_eq_true rfl) dR_readNode_52 (fun rv ru hw => ?_)
      obtain ⟨rfl, rfl⟩ := hw
      show xk_Go K D 6 0 0 (tc_wR r cr (g 0) (a 0) wl wm (wt - 1) (nx + 1) ap (tc_f1 0 3) (tc_f2 0 none nx) ++ (tc_wB g cg gb gz ++ tc_wS a ca kn nu wo si de la le ro tm nd)) [(5, .int (nI m)), (4, .int (nI l)), (3, .int (nI bk)), (2, .int (nI nx)), (0, .ref (r 0)), (1, .int (nI i))] 55 []
      show xk_Go K D 6 0 0 (tc_wR r cr (g 0) (a 0) wl wm (wt - 1) (nx + 1) ap 3 (some nx) ++ (tc_wB g cg gb gz ++ tc_wS a ca kn nu wo si de la le ro tm nd)) [(5, .int (nI m)), (4, .int (nI l)), (3, .int (nI bk)), (2, .int (nI nx)), (0, .ref (r 0)), (1, .int (nI i))] 55 []
      refine x_iload C dR_readNode_55 1 rfl ?_
      refine x_bipush (v := nI 60) C dR_readNode_57 (by decide) ?_
      refine x_icmp_leN (tgt := 68) C (by omega) (by decide) dR_readNode_59 (by decide) (fun h59 => ?_) (fun h59 => ?_)
      ·
        refine x_iload_n C dR_readNode_68 rfl 5 rfl ?_
        refine x_sipush (v := nI 200) C dR_readNode_69 (by decide) ?_
        refine x_icmp_ltN (tgt := 82) C (by omega) (by decide) dR_readNode_72 (by decide) (fun h72 => ?_) (fun h72 => ?_)
        ·
          refine x_aload_n C dR_readNode_82 rfl 4 rfl ?_
          refine x_get C fgR_28 0 rfl rfl dR_readNode_83 ?_
          refine x_if_ne (tgt := 123) C dR_readNode_86 (by decide) (fun _ => ?_) (fun h => absurd h (by decide))
          exact x_vret C T rfl dR_readNode_123 (Or.inr (⟨3, nx, _, _, _, _, _, _, _, rfl, rfl, (tc_rN_3 (Nat.not_le.mpr g1t) (by show 11 < gb nx % 256; omega)), (fun j hj => ⟨rfl, rfl, fun _ _ => rfl⟩), (by decide), (by omega), (by omega), (by omega)⟩))
        ·
          refine x_aload_n C dR_readNode_75 rfl 4 rfl ?_
          refine x_bipush (v := nI 6) C dR_readNode_76 (by decide) ?_
          refine x_iload_n C dR_readNode_78 rfl 3 rfl ?_
          refine x_callV C (c_R_fail D r cr g cg a ca wl wm (wt - 1) (nx + 1) ap 3 (some nx) gb gz kn nu wo si de la le ro tm nd 6 nx (by decide)) kbR_73 kcR_73 [0, 1, 2, 3, 4, 5, 6, 7, 8, 9, 10, 11, 12, 13] [] [0, 1, 2, 3, 4, 5, 6, 7, 8, 9, 10] ([]) rfl rfl (by decide) (by decide) (by decide) rfl 0 rfl rfl ⟨Nat.le_of_ble_eq_true rfl, Nat.le_of_ble_eq_true rfl⟩ ⟨Nat.le_of_ble_eq_true rfl, Nat.le_of_ble_eq_true rfl⟩ [] rfl rfl (Nat.le_of_ble_eq_true rfl) dR_readNode_79 (fun rv ru hw => ?_)
          obtain ⟨rfl, rfl⟩ := hw
          show xk_Go K D 6 0 0 (tc_wR r cr (g 0) (a 0) wl wm (wt - 1) (nx + 1) ap (tc_f1 3 6) (tc_f2 3 (some nx) nx) ++ (tc_wB g cg gb gz ++ tc_wS a ca kn nu wo si de la le ro tm nd)) [(5, .int (nI m)), (4, .int (nI l)), (3, .int (nI bk)), (2, .int (nI nx)), (0, .ref (r 0)), (1, .int (nI i))] 82 []
          show xk_Go K D 6 0 0 (tc_wR r cr (g 0) (a 0) wl wm (wt - 1) (nx + 1) ap 3 (some nx) ++ (tc_wB g cg gb gz ++ tc_wS a ca kn nu wo si de la le ro tm nd)) [(5, .int (nI m)), (4, .int (nI l)), (3, .int (nI bk)), (2, .int (nI nx)), (0, .ref (r 0)), (1, .int (nI i))] 82 []
          refine x_aload_n C dR_readNode_82 rfl 4 rfl ?_
          refine x_get C fgR_28 0 rfl rfl dR_readNode_83 ?_
          refine x_if_ne (tgt := 123) C dR_readNode_86 (by decide) (fun _ => ?_) (fun h => absurd h (by decide))
          exact x_vret C T rfl dR_readNode_123 (Or.inr (⟨3, nx, _, _, _, _, _, _, _, rfl, rfl, (tc_rN_3 (Nat.not_le.mpr g1t) (by show 11 < gb nx % 256; omega)), (fun j hj => ⟨rfl, rfl, fun _ _ => rfl⟩), (by decide), (by omega), (by omega), (by omega)⟩))
      ·
        refine x_aload_n C dR_readNode_62 rfl 4 rfl ?_
        refine x_iconst (v := nI 5) C dR_readNode_63 (by decide) ?_
        refine x_iload_n C dR_readNode_64 rfl 3 rfl ?_
        refine x_callV C (c_R_fail D r cr g cg a ca wl wm (wt - 1) (nx + 1) ap 3 (some nx) gb gz kn nu wo si de la le ro tm nd 5 nx (by decide)) kbR_73 kcR_73 [0, 1, 2, 3, 4, 5, 6, 7, 8, 9, 10, 11, 12, 13] [] [0, 1, 2, 3, 4, 5, 6, 7, 8, 9, 10] ([]) rfl rfl (by decide) (by decide) (by decide) rfl 0 rfl rfl ⟨Nat.le_of_ble_eq_true rfl, Nat.le_of_ble_eq_true rfl⟩ ⟨Nat.le_of_ble_eq_true rfl, Nat.le_of_ble_eq_true rfl⟩ [] rfl rfl (Nat.le_of_ble_eq_true rfl) dR_readNode_65 (fun rv ru hw => ?_)
        obtain ⟨rfl, rfl⟩ := hw
        show xk_Go K D 6 0 0 (tc_wR r cr (g 0) (a 0) wl wm (wt - 1) (nx + 1) ap (tc_f1 3 5) (tc_f2 3 (some nx) nx) ++ (tc_wB g cg gb gz ++ tc_wS a ca kn nu wo si de la le ro tm nd)) [(5, .int (nI m)), (4, .int (nI l)), (3, .int (nI bk)), (2, .int (nI nx)), (0, .ref (r 0)), (1, .int (nI i))] 68 []
        show xk_Go K D 6 0 0 (tc_wR r cr (g 0) (a 0) wl wm (wt - 1) (nx + 1) ap 3 (some nx) ++ (tc_wB g cg gb gz ++ tc_wS a ca kn nu wo si de la le ro tm nd)) [(5, .int (nI m)), (4, .int (nI l)), (3, .int (nI bk)), (2, .int (nI nx)), (0, .ref (r 0)), (1, .int (nI i))] 68 []
        refine x_iload_n C dR_readNode_68 rfl 5 rfl ?_
        refine x_sipush (v := nI 200) C dR_readNode_69 (by decide) ?_
        refine x_icmp_ltN (tgt := 82) C (by omega) (by decide) dR_readNode_72 (by decide) (fun h72 => ?_) (fun h72 => ?_)
        ·
          refine x_aload_n C dR_readNode_82 rfl 4 rfl ?_
          refine x_get C fgR_28 0 rfl rfl dR_readNode_83 ?_
          refine x_if_ne (tgt := 123) C dR_readNode_86 (by decide) (fun _ => ?_) (fun h => absurd h (by decide))
          exact x_vret C T rfl dR_readNode_123 (Or.inr (⟨3, nx, _, _, _, _, _, _, _, rfl, rfl, (tc_rN_3 (Nat.not_le.mpr g1t) (by show 11 < gb nx % 256; omega)), (fun j hj => ⟨rfl, rfl, fun _ _ => rfl⟩), (by decide), (by omega), (by omega), (by omega)⟩))
        ·
          refine x_aload_n C dR_readNode_75 rfl 4 rfl ?_
          refine x_bipush (v := nI 6) C dR_readNode_76 (by decide) ?_
          refine x_iload_n C dR_readNode_78 rfl 3 rfl ?_
          refine x_callV C (c_R_fail D r cr g cg a ca wl wm (wt - 1) (nx + 1) ap 3 (some nx) gb gz kn nu wo si de la le ro tm nd 6 nx (by decide)) kbR_73 kcR_73 [0, 1, 2, 3, 4, 5, 6, 7, 8, 9, 10, 11, 12, 13] [] [0, 1, 2, 3, 4, 5, 6, 7, 8, 9, 10] ([]) rfl rfl (by decide) (by decide) (by decide) rfl 0 rfl rfl ⟨Nat.le_of_ble_eq_true rfl, Nat.le_of_ble_eq_true rfl⟩ ⟨Nat.le_of_ble_eq_true rfl, Nat.le_of_ble_eq_true rfl⟩ [] rfl rfl (Nat.le_of_ble_eq_true rfl) dR_readNode_79 (fun rv ru hw => ?_)
          obtain ⟨rfl, rfl⟩ := hw
          show xk_Go K D 6 0 0 (tc_wR r cr (g 0) (a 0) wl wm (wt - 1) (nx + 1) ap (tc_f1 3 6) (tc_f2 3 (some nx) nx) ++ (tc_wB g cg gb gz ++ tc_wS a ca kn nu wo si de la le ro tm nd)) [(5, .int (nI m)), (4, .int (nI l)), (3, .int (nI bk)), (2, .int (nI nx)), (0, .ref (r 0)), (1, .int (nI i))] 82 []
          show xk_Go K D 6 0 0 (tc_wR r cr (g 0) (a 0) wl wm (wt - 1) (nx + 1) ap 3 (some nx) ++ (tc_wB g cg gb gz ++ tc_wS a ca kn nu wo si de la le ro tm nd)) [(5, .int (nI m)), (4, .int (nI l)), (3, .int (nI bk)), (2, .int (nI nx)), (0, .ref (r 0)), (1, .int (nI i))] 82 []
          refine x_aload_n C dR_readNode_82 rfl 4 rfl ?_
          refine x_get C fgR_28 0 rfl rfl dR_readNode_83 ?_
          refine x_if_ne (tgt := 123) C dR_readNode_86 (by decide) (fun _ => ?_) (fun h => absurd h (by decide))
          exact x_vret C T rfl dR_readNode_123 (Or.inr (⟨3, nx, _, _, _, _, _, _, _, rfl, rfl, (tc_rN_3 (Nat.not_le.mpr g1t) (by show 11 < gb nx % 256; omega)), (fun j hj => ⟨rfl, rfl, fun _ _ => rfl⟩), (by decide), (by omega), (by omega), (by omega)⟩))
    ·
      show xk_Go K D 6 0 0 (tc_wR r cr (g 0) (a 0) wl wm (wt - 1) (nx + 1) ap 0 none ++ (tc_wB g cg gb gz ++ tc_wS a ca kn nu wo si de la le ro tm nd)) [(5, .int (nI m)), (4, .int (nI l)), (3, .int (nI bk)), (2, .int (nI nx)), (0, .ref (r 0)), (1, .int (nI i))] 46 [.int (nI 1)]
      have hb11 : bk ≤ 11 := by have := (nI_eq (by omega) (by omega)).mp g1k; omega
      refine x_if_ne (tgt := 55) C dR_readNode_46 (by decide) (fun _ => ?_) (fun h => absurd h (by decide))
      refine x_iload C dR_readNode_55 1 rfl ?_
      refine x_bipush (v := nI 60) C dR_readNode_57 (by decide) ?_
      refine x_icmp_leN (tgt := 68) C (by omega) (by decide) dR_readNode_59 (by decide) (fun h59 => ?_) (fun h59 => ?_)
      ·
        refine x_iload_n C dR_readNode_68 rfl 5 rfl ?_
        refine x_sipush (v := nI 200) C dR_readNode_69 (by decide) ?_
        refine x_icmp_ltN (tgt := 82) C (by omega) (by decide) dR_readNode_72 (by decide) (fun h72 => ?_) (fun h72 => ?_)
        ·
          refine x_aload_n C dR_readNode_82 rfl 4 rfl ?_
          refine x_get C fgR_28 0 rfl rfl dR_readNode_83 ?_
          refine x_if_ne (tgt := 123) C dR_readNode_86 (by decide) (fun h => absurd (by decide) h) (fun _ => ?_)
          refine x_aload_n C dR_readNode_89 rfl 4 rfl ?_
          refine x_iload_n C dR_readNode_90 rfl 5 rfl ?_
          refine x_iload_n C dR_readNode_91 rfl 2 rfl ?_
          refine x_iload C dR_readNode_92 0 rfl ?_
          refine x_callV C (c_R_readNumber D r cr g cg a ca wl wm (wt - 1) (nx + 1) ap gb gz kn nu wo si de la le ro tm nd i bk m (by omega) y2 (by omega) (by omega) (by omega) (by omega)) kbR_77 kcR_77 [0, 1, 2, 3, 4, 5, 6, 7, 8, 9, 10, 11, 12, 13] [] [0, 1, 2, 3, 4, 5, 6, 7, 8, 9, 10] ([]) rfl rfl (by decide) (by decide) (by decide) rfl 0 rfl rfl ⟨Nat.le_of_ble_eq_true rfl, Nat.le_of_ble_eq_true rfl⟩ ⟨Nat.le_of_ble_eq_true rfl, Nat.le_of_ble_eq_true rfl⟩ [] rfl rfl (Nat.le_of_ble_eq_true rfl) dR_readNode_94 (fun rv ru hw => ?_)
          rcases hw with ⟨x, nw, kg, ug, wg, rfl, rfl, g1, g2, g3, g4, g5⟩ | ⟨f, q, nw, kg, ug, wg, rfl, rfl, g1, g2, g3, g4, g5⟩
          ·
            show xk_Go K D 6 0 0 (tc_wR r cr (g 0) (a 0) wl wm (wt - 1) nw ap 0 none ++ (tc_wB g cg gb gz ++ tc_wS a ca kg ug wg si de la le ro tm nd)) [(5, .int (nI m)), (4, .int (nI l)), (3, .int (nI bk)), (2, .int (nI nx)), (0, .ref (r 0)), (1, .int (nI i))] 97 []
            rw [Nat.add_sub_cancel] at g1
            have hxk := tc_rE_k g1
            refine x_aload_n C dR_readNode_97 rfl 4 rfl ?_
            refine x_iload_n C dR_readNode_98 rfl 2 rfl ?_
            refine x_callS C (c_F_partsOf D bk (by omega)) kbR_80 kcR_80 [] [0, 1, 2, 3, 4, 5, 6, 7, 8, 9, 10, 11, 12, 13] [] (tc_wR r cr (g 0) (a 0) wl wm (wt - 1) nw ap 0 none ++ (tc_wB g cg gb gz ++ tc_wS a ca kg ug wg si de la le ro tm nd)) rfl rfl (by decide) (by decide) (by decide) rfl ⟨Nat.le_of_ble_eq_true rfl, Nat.le_of_ble_eq_true rfl⟩ ⟨Nat.le_of_ble_eq_true rfl, Nat.le_of_ble_eq_true rfl⟩ [.ref (r 0)] rfl rfl (Nat.le_of_ble_eq_true rfl) dR_readNode_99 (fun rv ru hw => ?_)
            obtain ⟨rfl, rfl⟩ := hw
            show xk_Go K D 6 0 0 (tc_wR r cr (g 0) (a 0) wl wm (wt - 1) nw ap 0 none ++ (tc_wB g cg gb gz ++ tc_wS a ca kg ug wg si de la le ro tm nd)) [(5, .int (nI m)), (4, .int (nI l)), (3, .int (nI bk)), (2, .int (nI nx)), (0, .ref (r 0)), (1, .int (nI i))] 102 [.int (nI (tc_tk bk)), .ref (r 0)]
            refine x_iload C dR_readNode_102 1 rfl ?_
            refine x_iconst (v := nI 1) C dR_readNode_104 (by decide) ?_
            refine x_iaddN C dR_readNode_105 ?_
            refine x_iload_n C dR_readNode_106 rfl 2 rfl ?_
            refine x_iconst (v := nI 1) C dR_readNode_107 (by decide) ?_
            refine x_icmp_neN (tgt := 118) C (by omega) (by decide) dR_readNode_108 (by decide) (fun h108 => ?_) (fun h108 => ?_)
            ·
              refine x_iload C dR_readNode_118 0 rfl ?_
              refine x_callV C (c_R_await D r cr g cg a ca wl wm (wt - 1) nw ap 0 none gb gz kg ug wg si de la le ro tm nd (tc_tk bk) (l + 1) m (by have := tc_tk_le bk; omega)) kbR_47 kcR_47 [0, 1, 2, 3, 4, 5, 6, 7, 8, 9, 10, 11, 12, 13] [] [0, 1, 2, 3, 4, 5, 6, 7, 8, 9, 10] ([]) rfl rfl (by decide) (by decide) (by decide) rfl 0 rfl rfl ⟨Nat.le_of_ble_eq_true rfl, Nat.le_of_ble_eq_true rfl⟩ ⟨Nat.le_of_ble_eq_true rfl, Nat.le_of_ble_eq_true rfl⟩ [] rfl rfl (Nat.le_of_ble_eq_true rfl) dR_readNode_120 (fun rv ru hw => ?_)
              obtain ⟨wlgw, wmgw, rfl, rfl, g1w, g2w⟩ := hw
              show xk_Go K D 6 0 0 (tc_wR r cr (g 0) (a 0) wlgw wmgw ((wt - 1) + (tc_tk bk)) nw ap 0 none ++ (tc_wB g cg gb gz ++ tc_wS a ca kg ug wg si de la le ro tm nd)) [(5, .int (nI m)), (4, .int (nI l)), (3, .int (nI bk)), (2, .int (nI nx)), (0, .ref (r 0)), (1, .int (nI i))] 123 []
              have nd_wait : ∀ j, wt - 1 ≤ j → j < wt - 1 + tc_tk bk → wlgw j = l + 1 ∧ wmgw j = m + if bk = 1 then 1 else 0 := by intro j z1 z2; first | (rw [if_pos h108]; exact g2w j z1 z2) | (rw [if_neg h108]; exact g2w j z1 z2)
              exact x_vret C T rfl dR_readNode_123 (Or.inl (⟨x, _, _, _, _, _, _, rfl, by rw [hxk], ((tc_rN_E (Nat.not_le.mpr g1t) (by show ¬ 11 < gb nx % 256; omega) (by omega) (by omega)).trans (by show tc_rE (tc_B gb) gz (gb nx % 256) nx m (nx + 1) = _; rw [← hbk]; exact g1)), g2, g3, g1w, (by rw [hxk]; exact nd_wait), (by omega), g5, (by omega)⟩))
            ·
              refine x_iload C dR_readNode_111 0 rfl ?_
              refine x_iconst (v := nI 1) C dR_readNode_113 (by decide) ?_
              refine x_iaddN C dR_readNode_114 ?_
              refine x_goto C 120 dR_readNode_115 (by decide) ?_
              refine x_callV C (c_R_await D r cr g cg a ca wl wm (wt - 1) nw ap 0 none gb gz kg ug wg si de la le ro tm nd (tc_tk bk) (l + 1) (m + 1) (by have := tc_tk_le bk; omega)) kbR_47 kcR_47 [0, 1, 2, 3, 4, 5, 6, 7, 8, 9, 10, 11, 12, 13] [] [0, 1, 2, 3, 4, 5, 6, 7, 8, 9, 10] ([]) rfl rfl (by decide) (by decide) (by decide) rfl 0 rfl rfl ⟨Nat.le_of_ble_eq_true rfl, Nat.le_of_ble_eq_true rfl⟩ ⟨Nat.le_of_ble_eq_true rfl, Nat.le_of_ble_eq_true rfl⟩ [] rfl rfl (Nat.le_of_ble_eq_true rfl) dR_readNode_120 (fun rv ru hw => ?_)
              obtain ⟨wlgw, wmgw, rfl, rfl, g1w, g2w⟩ := hw
              show xk_Go K D 6 0 0 (tc_wR r cr (g 0) (a 0) wlgw wmgw ((wt - 1) + (tc_tk bk)) nw ap 0 none ++ (tc_wB g cg gb gz ++ tc_wS a ca kg ug wg si de la le ro tm nd)) [(5, .int (nI m)), (4, .int (nI l)), (3, .int (nI bk)), (2, .int (nI nx)), (0, .ref (r 0)), (1, .int (nI i))] 123 []
              have nd_wait : ∀ j, wt - 1 ≤ j → j < wt - 1 + tc_tk bk → wlgw j = l + 1 ∧ wmgw j = m + if bk = 1 then 1 else 0 := by intro j z1 z2; first | (rw [if_pos h108]; exact g2w j z1 z2) | (rw [if_neg h108]; exact g2w j z1 z2)
              exact x_vret C T rfl dR_readNode_123 (Or.inl (⟨x, _, _, _, _, _, _, rfl, by rw [hxk], ((tc_rN_E (Nat.not_le.mpr g1t) (by show ¬ 11 < gb nx % 256; omega) (by omega) (by omega)).trans (by show tc_rE (tc_B gb) gz (gb nx % 256) nx m (nx + 1) = _; rw [← hbk]; exact g1)), g2, g3, g1w, (by rw [hxk]; exact nd_wait), (by omega), g5, (by omega)⟩))
          ·
            show xk_Go K D 6 0 0 (tc_wR r cr (g 0) (a 0) wl wm (wt - 1) nw ap f (some q) ++ (tc_wB g cg gb gz ++ tc_wS a ca kg ug wg si de la le ro tm nd)) [(5, .int (nI m)), (4, .int (nI l)), (3, .int (nI bk)), (2, .int (nI nx)), (0, .ref (r 0)), (1, .int (nI i))] 97 []
            rw [Nat.add_sub_cancel] at g1
            refine x_aload_n C dR_readNode_97 rfl 4 rfl ?_
            refine x_iload_n C dR_readNode_98 rfl 2 rfl ?_
            refine x_callS C (c_F_partsOf D bk (by omega)) kbR_80 kcR_80 [] [0, 1, 2, 3, 4, 5, 6, 7, 8, 9, 10, 11, 12, 13] [] (tc_wR r cr (g 0) (a 0) wl wm (wt - 1) nw ap f (some q) ++ (tc_wB g cg gb gz ++ tc_wS a ca kg ug wg si de la le ro tm nd)) rfl rfl (by decide) (by decide) (by decide) rfl ⟨Nat.le_of_ble_eq_true rfl, Nat.le_of_ble_eq_true rfl⟩ ⟨Nat.le_of_ble_eq_true rfl, Nat.le_of_ble_eq_true rfl⟩ [.ref (r 0)] rfl rfl (Nat.le_of_ble_eq_true rfl) dR_readNode_99 (fun rv ru hw => ?_)
            obtain ⟨rfl, rfl⟩ := hw
            show xk_Go K D 6 0 0 (tc_wR r cr (g 0) (a 0) wl wm (wt - 1) nw ap f (some q) ++ (tc_wB g cg gb gz ++ tc_wS a ca kg ug wg si de la le ro tm nd)) [(5, .int (nI m)), (4, .int (nI l)), (3, .int (nI bk)), (2, .int (nI nx)), (0, .ref (r 0)), (1, .int (nI i))] 102 [.int (nI (tc_tk bk)), .ref (r 0)]
            refine x_iload C dR_readNode_102 1 rfl ?_
            refine x_iconst (v := nI 1) C dR_readNode_104 (by decide) ?_
            refine x_iaddN C dR_readNode_105 ?_
            refine x_iload_n C dR_readNode_106 rfl 2 rfl ?_
            refine x_iconst (v := nI 1) C dR_readNode_107 (by decide) ?_
            refine x_icmp_neN (tgt := 118) C (by omega) (by decide) dR_readNode_108 (by decide) (fun h108 => ?_) (fun h108 => ?_)
            ·
              refine x_iload C dR_readNode_118 0 rfl ?_
              refine x_callV C (c_R_await D r cr g cg a ca wl wm (wt - 1) nw ap f (some q) gb gz kg ug wg si de la le ro tm nd (tc_tk bk) (l + 1) m (by have := tc_tk_le bk; omega)) kbR_47 kcR_47 [0, 1, 2, 3, 4, 5, 6, 7, 8, 9, 10, 11, 12, 13] [] [0, 1, 2, 3, 4, 5, 6, 7, 8, 9, 10] ([]) rfl rfl (by decide) (by decide) (by decide) rfl 0 rfl rfl ⟨Nat.le_of_ble_eq_true rfl, Nat.le_of_ble_eq_true rfl⟩ ⟨Nat.le_of_ble_eq_true rfl, Nat.le_of_ble_eq_true rfl⟩ [] rfl rfl (Nat.le_of_ble_eq_true rfl) dR_readNode_120 (fun rv ru hw => ?_)
              obtain ⟨wlgw, wmgw, rfl, rfl, g1w, g2w⟩ := hw
              show xk_Go K D 6 0 0 (tc_wR r cr (g 0) (a 0) wlgw wmgw ((wt - 1) + (tc_tk bk)) nw ap f (some q) ++ (tc_wB g cg gb gz ++ tc_wS a ca kg ug wg si de la le ro tm nd)) [(5, .int (nI m)), (4, .int (nI l)), (3, .int (nI bk)), (2, .int (nI nx)), (0, .ref (r 0)), (1, .int (nI i))] 123 []
              have nd_wait : ∀ j, wt - 1 ≤ j → j < wt - 1 + tc_tk bk → wlgw j = l + 1 ∧ wmgw j = m + if bk = 1 then 1 else 0 := by intro j z1 z2; first | (rw [if_pos h108]; exact g2w j z1 z2) | (rw [if_neg h108]; exact g2w j z1 z2)
              exact x_vret C T rfl dR_readNode_123 (Or.inr (⟨f, q, _, _, _, _, _, _, _, rfl, rfl, ((tc_rN_E (Nat.not_le.mpr g1t) (by show ¬ 11 < gb nx % 256; omega) (by omega) (by omega)).trans (by show tc_rE (tc_B gb) gz (gb nx % 256) nx m (nx + 1) = _; rw [← hbk]; exact g1)), g2, g3, (by omega), g5, (by have := tc_tk_le bk; omega)⟩))
            ·
              refine x_iload C dR_readNode_111 0 rfl ?_
              refine x_iconst (v := nI 1) C dR_readNode_113 (by decide) ?_
              refine x_iaddN C dR_readNode_114 ?_
              refine x_goto C 120 dR_readNode_115 (by decide) ?_
              refine x_callV C (c_R_await D r cr g cg a ca wl wm (wt - 1) nw ap f (some q) gb gz kg ug wg si de la le ro tm nd (tc_tk bk) (l + 1) (m + 1) (by have := tc_tk_le bk; omega)) kbR_47 kcR_47 [0, 1, 2, 3, 4, 5, 6, 7, 8, 9, 10, 11, 12, 13] [] [0, 1, 2, 3, 4, 5, 6, 7, 8, 9, 10] ([]) rfl rfl (by decide) (by decide) (by decide) rfl 0 rfl rfl ⟨Nat.le_of_ble_eq_true rfl, Nat.le_of_ble_eq_true rfl⟩ ⟨Nat.le_of_ble_eq_true rfl, Nat.le_of_ble_eq_true rfl⟩ [] rfl rfl (Nat.le_of_ble_eq_true rfl) dR_readNode_120 (fun rv ru hw => ?_)
              obtain ⟨wlgw, wmgw, rfl, rfl, g1w, g2w⟩ := hw
              show xk_Go K D 6 0 0 (tc_wR r cr (g 0) (a 0) wlgw wmgw ((wt - 1) + (tc_tk bk)) nw ap f (some q) ++ (tc_wB g cg gb gz ++ tc_wS a ca kg ug wg si de la le ro tm nd)) [(5, .int (nI m)), (4, .int (nI l)), (3, .int (nI bk)), (2, .int (nI nx)), (0, .ref (r 0)), (1, .int (nI i))] 123 []
              have nd_wait : ∀ j, wt - 1 ≤ j → j < wt - 1 + tc_tk bk → wlgw j = l + 1 ∧ wmgw j = m + if bk = 1 then 1 else 0 := by intro j z1 z2; first | (rw [if_pos h108]; exact g2w j z1 z2) | (rw [if_neg h108]; exact g2w j z1 z2)
              exact x_vret C T rfl dR_readNode_123 (Or.inr (⟨f, q, _, _, _, _, _, _, _, rfl, rfl, ((tc_rN_E (Nat.not_le.mpr g1t) (by show ¬ 11 < gb nx % 256; omega) (by omega) (by omega)).trans (by show tc_rE (tc_B gb) gz (gb nx % 256) nx m (nx + 1) = _; rw [← hbk]; exact g1)), g2, g3, (by omega), g5, (by have := tc_tk_le bk; omega)⟩))
        ·
          refine x_aload_n C dR_readNode_75 rfl 4 rfl ?_
          refine x_bipush (v := nI 6) C dR_readNode_76 (by decide) ?_
          refine x_iload_n C dR_readNode_78 rfl 3 rfl ?_
          refine x_callV C (c_R_fail D r cr g cg a ca wl wm (wt - 1) (nx + 1) ap 0 none gb gz kn nu wo si de la le ro tm nd 6 nx (by decide)) kbR_73 kcR_73 [0, 1, 2, 3, 4, 5, 6, 7, 8, 9, 10, 11, 12, 13] [] [0, 1, 2, 3, 4, 5, 6, 7, 8, 9, 10] ([]) rfl rfl (by decide) (by decide) (by decide) rfl 0 rfl rfl ⟨Nat.le_of_ble_eq_true rfl, Nat.le_of_ble_eq_true rfl⟩ ⟨Nat.le_of_ble_eq_true rfl, Nat.le_of_ble_eq_true rfl⟩ [] rfl rfl (Nat.le_of_ble_eq_true rfl) dR_readNode_79 (fun rv ru hw => ?_)
          obtain ⟨rfl, rfl⟩ := hw
          show xk_Go K D 6 0 0 (tc_wR r cr (g 0) (a 0) wl wm (wt - 1) (nx + 1) ap (tc_f1 0 6) (tc_f2 0 none nx) ++ (tc_wB g cg gb gz ++ tc_wS a ca kn nu wo si de la le ro tm nd)) [(5, .int (nI m)), (4, .int (nI l)), (3, .int (nI bk)), (2, .int (nI nx)), (0, .ref (r 0)), (1, .int (nI i))] 82 []
          show xk_Go K D 6 0 0 (tc_wR r cr (g 0) (a 0) wl wm (wt - 1) (nx + 1) ap 6 (some nx) ++ (tc_wB g cg gb gz ++ tc_wS a ca kn nu wo si de la le ro tm nd)) [(5, .int (nI m)), (4, .int (nI l)), (3, .int (nI bk)), (2, .int (nI nx)), (0, .ref (r 0)), (1, .int (nI i))] 82 []
          refine x_aload_n C dR_readNode_82 rfl 4 rfl ?_
          refine x_get C fgR_28 0 rfl rfl dR_readNode_83 ?_
          refine x_if_ne (tgt := 123) C dR_readNode_86 (by decide) (fun _ => ?_) (fun h => absurd h (by decide))
          exact x_vret C T rfl dR_readNode_123 (Or.inr (⟨6, nx, _, _, _, _, _, _, _, rfl, rfl, (tc_rN_6 (Nat.not_le.mpr g1t) (by show ¬ 11 < gb nx % 256; omega) (by omega) (by omega)), (fun j hj => ⟨rfl, rfl, fun _ _ => rfl⟩), (by decide), (by omega), (by omega), (by omega)⟩))
      ·
        refine x_aload_n C dR_readNode_62 rfl 4 rfl ?_
        refine x_iconst (v := nI 5) C dR_readNode_63 (by decide) ?_
        refine x_iload_n C dR_readNode_64 rfl 3 rfl ?_
        refine x_callV C (c_R_fail D r cr g cg a ca wl wm (wt - 1) (nx + 1) ap 0 none gb gz kn nu wo si de la le ro tm nd 5 nx (by decide)) kbR_73 kcR_73 [0, 1, 2, 3, 4, 5, 6, 7, 8, 9, 10, 11, 12, 13] [] [0, 1, 2, 3, 4, 5, 6, 7, 8, 9, 10] ([]) rfl rfl (by decide) (by decide) (by decide) rfl 0 rfl rfl ⟨Nat.le_of_ble_eq_true rfl, Nat.le_of_ble_eq_true rfl⟩ ⟨Nat.le_of_ble_eq_true rfl, Nat.le_of_ble_eq_true rfl⟩ [] rfl rfl (Nat.le_of_ble_eq_true rfl) dR_readNode_65 (fun rv ru hw => ?_)
        obtain ⟨rfl, rfl⟩ := hw
        show xk_Go K D 6 0 0 (tc_wR r cr (g 0) (a 0) wl wm (wt - 1) (nx + 1) ap (tc_f1 0 5) (tc_f2 0 none nx) ++ (tc_wB g cg gb gz ++ tc_wS a ca kn nu wo si de la le ro tm nd)) [(5, .int (nI m)), (4, .int (nI l)), (3, .int (nI bk)), (2, .int (nI nx)), (0, .ref (r 0)), (1, .int (nI i))] 68 []
        show xk_Go K D 6 0 0 (tc_wR r cr (g 0) (a 0) wl wm (wt - 1) (nx + 1) ap 5 (some nx) ++ (tc_wB g cg gb gz ++ tc_wS a ca kn nu wo si de la le ro tm nd)) [(5, .int (nI m)), (4, .int (nI l)), (3, .int (nI bk)), (2, .int (nI nx)), (0, .ref (r 0)), (1, .int (nI i))] 68 []
        refine x_iload_n C dR_readNode_68 rfl 5 rfl ?_
        refine x_sipush (v := nI 200) C dR_readNode_69 (by decide) ?_
        refine x_icmp_ltN (tgt := 82) C (by omega) (by decide) dR_readNode_72 (by decide) (fun h72 => ?_) (fun h72 => ?_)
        ·
          refine x_aload_n C dR_readNode_82 rfl 4 rfl ?_
          refine x_get C fgR_28 0 rfl rfl dR_readNode_83 ?_
          refine x_if_ne (tgt := 123) C dR_readNode_86 (by decide) (fun _ => ?_) (fun h => absurd h (by decide))
          exact x_vret C T rfl dR_readNode_123 (Or.inr (⟨5, nx, _, _, _, _, _, _, _, rfl, rfl, (tc_rN_5 (Nat.not_le.mpr g1t) (by show ¬ 11 < gb nx % 256; omega) (by omega)), (fun j hj => ⟨rfl, rfl, fun _ _ => rfl⟩), (by decide), (by omega), (by omega), (by omega)⟩))
        ·
          refine x_aload_n C dR_readNode_75 rfl 4 rfl ?_
          refine x_bipush (v := nI 6) C dR_readNode_76 (by decide) ?_
          refine x_iload_n C dR_readNode_78 rfl 3 rfl ?_
          refine x_callV C (c_R_fail D r cr g cg a ca wl wm (wt - 1) (nx + 1) ap 5 (some nx) gb gz kn nu wo si de la le ro tm nd 6 nx (by decide)) kbR_73 kcR_73 [0, 1, 2, 3, 4, 5, 6, 7, 8, 9, 10, 11, 12, 13] [] [0, 1, 2, 3, 4, 5, 6, 7, 8, 9, 10] ([]) rfl rfl (by decide) (by decide) (by decide) rfl 0 rfl rfl ⟨Nat.le_of_ble_eq_true rfl, Nat.le_of_ble_eq_true rfl⟩ ⟨Nat.le_of_ble_eq_true rfl, Nat.le_of_ble_eq_true rfl⟩ [] rfl rfl (Nat.le_of_ble_eq_true rfl) dR_readNode_79 (fun rv ru hw => ?_)
          obtain ⟨rfl, rfl⟩ := hw
          show xk_Go K D 6 0 0 (tc_wR r cr (g 0) (a 0) wl wm (wt - 1) (nx + 1) ap (tc_f1 5 6) (tc_f2 5 (some nx) nx) ++ (tc_wB g cg gb gz ++ tc_wS a ca kn nu wo si de la le ro tm nd)) [(5, .int (nI m)), (4, .int (nI l)), (3, .int (nI bk)), (2, .int (nI nx)), (0, .ref (r 0)), (1, .int (nI i))] 82 []
          show xk_Go K D 6 0 0 (tc_wR r cr (g 0) (a 0) wl wm (wt - 1) (nx + 1) ap 5 (some nx) ++ (tc_wB g cg gb gz ++ tc_wS a ca kn nu wo si de la le ro tm nd)) [(5, .int (nI m)), (4, .int (nI l)), (3, .int (nI bk)), (2, .int (nI nx)), (0, .ref (r 0)), (1, .int (nI i))] 82 []
          refine x_aload_n C dR_readNode_82 rfl 4 rfl ?_
          refine x_get C fgR_28 0 rfl rfl dR_readNode_83 ?_
          refine x_if_ne (tgt := 123) C dR_readNode_86 (by decide) (fun _ => ?_) (fun h => absurd h (by decide))
          exact x_vret C T rfl dR_readNode_123 (Or.inr (⟨5, nx, _, _, _, _, _, _, _, rfl, rfl, (tc_rN_5 (Nat.not_le.mpr g1t) (by show ¬ 11 < gb nx % 256; omega) (by omega)), (fun j hj => ⟨rfl, rfl, fun _ _ => rfl⟩), (by decide), (by omega), (by omega), (by omega)⟩))
