set_option maxHeartbeats 4000000 in
set_option maxRecDepth 100000 in
/-- readTerm -/
theorem c_R_readTerm (D : va_G) (r : Nat → Nat) (cr : Nat → ClassId) (g : Nat → Nat) (cg : Nat → ClassId) (a : Nat → Nat) (ca : Nat → ClassId) (wl : Nat → Nat) (wm : Nat → Nat) (wt : Nat) (nx : Nat) (ap : Nat) (fa : Nat) (pl : Option Nat) (gb : Nat → Nat) (gz : Nat) (kn : Nat → Nat) (nu : Nat → Int64) (wo : Nat → Int64) (si : Nat → Nat) (de : Nat → Nat) (la : Nat → Nat) (le : Nat → Nat) (ro : Nat → Nat) (tm : Nat) (nd : Nat) (Ts : List (List tc_Nd)) (y1 : tc_RS Ts (kn, nu, wo, si, de, la, le) ro tm nd) (y2 : gz ≤ 4096) (y3 : ap ≤ gz) : xk_Ct yR_readTerm cR_readTerm 3 (some .int) { frames := 6, cells := 0, slots := 0, locals := 142 } D (tc_tR cr ++ (tc_tB cg ++ tc_tS ca)) [.ref (r 0)] (tc_wR r cr (g 0) (a 0) wl wm wt nx ap fa pl ++ (tc_wB g cg gb gz ++ tc_wS a ca kn nu wo si de la le ro tm nd)) (fun rv ru => (rv = some (.int (xk_oI none)) ∧ ru = tc_wR r cr (g 0) (a 0) wl wm wt nx ap fa pl ++ (tc_wB g cg gb gz ++ tc_wS a ca kn nu wo si de la le ro tm nd) ∧ (gz ≤ ap)) ∨ (∃ (f : Nat), ∃ (q : Nat), ∃ (nw : Nat), ∃ (wlg : Nat → Nat), ∃ (wmg : Nat → Nat), ∃ (wtg : Nat), ∃ (kg : Nat → Nat), ∃ (ug : Nat → Int64), ∃ (wg : Nat → Int64), rv = some (.int (nI f)) ∧ ru = tc_wR r cr (g 0) (a 0) wlg wmg wtg nw ap f (some q) ++ (tc_wB g cg gb gz ++ tc_wS a ca kg ug wg si de la le ro tm nd) ∧ (ap < gz) ∧ (tc_rT (tc_B gb) gz nd ap = .inl (f, q)) ∧ (tc_RS Ts (kg, ug, wg, si, de, la, le) ro tm nd) ∧ (0 < f ∧ f < 10) ∧ (nw ≤ gz)) ∨ (∃ (L : List tc_Nd), ∃ (nw : Nat), ∃ (wlg : Nat → Nat), ∃ (wmg : Nat → Nat), ∃ (wtg : Nat), ∃ (kg : Nat → Nat), ∃ (ug : Nat → Int64), ∃ (wg : Nat → Int64), ∃ (sg : Nat → Nat), ∃ (dg : Nat → Nat), ∃ (lg : Nat → Nat), ∃ (eg : Nat → Nat), ∃ (rg : Nat → Nat), ∃ (tg : Nat), ∃ (ng : Nat), rv = some (.int (nI 0)) ∧ ru = tc_wR r cr (g 0) (a 0) wlg wmg wtg nw nw 0 none ++ (tc_wB g cg gb gz ++ tc_wS a ca kg ug wg sg dg lg eg rg tg ng) ∧ (ap < gz) ∧ (tc_rT (tc_B gb) gz nd ap = .inr (L, nw)) ∧ (tc_RS (L :: Ts) (kg, ug, wg, sg, dg, lg, eg) rg tg ng) ∧ (nw ≤ gz))) := by
  refine xk_enter (by decide) (Nat.le_of_ble_eq_true rfl) (fun K C T hin => ?_)
  have ynd := y1.2.2.2.1
  show xk_Go K D 3 0 0 (tc_wR r cr (g 0) (a 0) wl wm wt nx ap fa pl ++ (tc_wB g cg gb gz ++ tc_wS a ca kn nu wo si de la le ro tm nd)) [(0, .ref (r 0))] 0 []
  refine x_aload_n C dR_readTerm_0 rfl 0 rfl ?_
  refine x_get C fgR_25 0 rfl rfl dR_readTerm_1 ?_
  refine x_aload_n C dR_readTerm_4 rfl 0 rfl ?_
  refine x_get C fgR_34 0 rfl rfl dR_readTerm_5 ?_
  refine x_get C fgR_42 3 rfl rfl dR_readTerm_8 ?_
  refine x_icmp_ltN (tgt := 16) C (by omega) (by omega) dR_readTerm_11 (by decide) (fun h11 => ?_) (fun h11 => ?_)
  ·
    refine x_aload_n C dR_readTerm_16 rfl 0 rfl ?_
    refine x_iconst (v := nI 0) C dR_readTerm_17 (by decide) ?_
    refine x_put C fpR_28 0 (tc_wR r cr (g 0) (a 0) wl wm wt nx ap 0 pl ++ (tc_wB g cg gb gz ++ tc_wS a ca kn nu wo si de la le ro tm nd)) rfl rfl rfl rfl (Nat.le_of_ble_eq_true rfl) dR_readTerm_18 ?_
    refine x_aload_n C dR_readTerm_21 rfl 0 rfl ?_
    refine x_iconst (v := xk_oI none) C dR_readTerm_22 (by decide) ?_
    refine x_put C fpR_31 0 (tc_wR r cr (g 0) (a 0) wl wm wt nx ap 0 none ++ (tc_wB g cg gb gz ++ tc_wS a ca kn nu wo si de la le ro tm nd)) rfl rfl rfl rfl (Nat.le_of_ble_eq_true rfl) dR_readTerm_23 ?_
    refine x_aload_n C dR_readTerm_26 rfl 0 rfl ?_
    refine x_aload_n C dR_readTerm_27 rfl 0 rfl ?_
    refine x_get C fgR_25 0 rfl rfl dR_readTerm_28 ?_
    refine x_put C fpR_22 0 (tc_wR r cr (g 0) (a 0) wl wm wt ap ap 0 none ++ (tc_wB g cg gb gz ++ tc_wS a ca kn nu wo si de la le ro tm nd)) rfl rfl rfl rfl (Nat.le_of_ble_eq_true rfl) dR_readTerm_31 ?_
    refine x_aload_n C dR_readTerm_34 rfl 0 rfl ?_
    refine x_iconst (v := nI 0) C dR_readTerm_35 (by decide) ?_
    refine x_put C fpR_18 0 (tc_wR r cr (g 0) (a 0) wl wm 0 ap ap 0 none ++ (tc_wB g cg gb gz ++ tc_wS a ca kn nu wo si de la le ro tm nd)) rfl rfl rfl rfl (Nat.le_of_ble_eq_true rfl) dR_readTerm_36 ?_
    refine x_aload_n C dR_readTerm_39 rfl 0 rfl ?_
    refine x_iconst (v := nI 1) C dR_readTerm_40 (by decide) ?_
    refine x_iconst (v := nI 1) C dR_readTerm_41 (by decide) ?_
    refine x_iconst (v := nI 0) C dR_readTerm_42 (by decide) ?_
    refine x_callV C (c_R_await D r cr g cg a ca wl wm 0 ap ap 0 none gb gz kn nu wo si de la le ro tm nd 1 1 0 (by decide)) kbR_47 kcR_47 [0, 1, 2, 3, 4, 5, 6, 7, 8, 9, 10, 11, 12, 13] [] [0, 1, 2, 3, 4, 5, 6, 7, 8, 9, 10] ([]) rfl rfl (by decide) (by decide) (by decide) rfl 0 rfl rfl ⟨Nat.le_of_ble_eq_true rfl, Nat.le_of_ble_eq_true rfl⟩ ⟨Nat.le_of_ble_eq_true rfl, Nat.le_of_ble_eq_true rfl⟩ [] rfl rfl (Nat.le_of_ble_eq_true rfl) dR_readTerm_43 (fun rv ru hw => ?_)
    obtain ⟨wlgw, wmgw, rfl, rfl, g1w, g2w⟩ := hw
    show xk_Go K D 3 0 0 (tc_wR r cr (g 0) (a 0) wlgw wmgw (0 + 1) ap ap 0 none ++ (tc_wB g cg gb gz ++ tc_wS a ca kn nu wo si de la le ro tm nd)) [(0, .ref (r 0))] 46 []
    refine x_aload_n C dR_readTerm_46 rfl 0 rfl ?_
    refine x_get C fgR_38 0 rfl rfl dR_readTerm_47 ?_
    refine x_get C fgR_51 5 rfl rfl dR_readTerm_50 ?_
    refine x_istore_n C [(1, .int (nI nd)), (0, .ref (r 0))] dR_readTerm_53 rfl (by decide) rfl ?_
    refine x_aload_n C dR_readTerm_54 rfl 1 rfl ?_
    refine x_get C fgR_38 0 rfl rfl dR_readTerm_55 ?_
    refine x_get C fgR_51 5 rfl rfl dR_readTerm_58 ?_
    refine x_istore_n C [(2, .int (nI nd)), (1, .int (nI nd)), (0, .ref (r 0))] dR_readTerm_61 rfl (by decide) rfl ?_
    refine x_iload_n C dR_readTerm_62 rfl 0 rfl ?_
    refine x_sipush (v := nI 200) C dR_readTerm_63 (by decide) ?_
    refine x_icmp_gtN (tgt := 98) C (by omega) (by decide) dR_readTerm_66 (by decide) (fun h66 => ?_) (fun h66 => ?_)
    ·
      exact absurd h66 (by omega)
    ·
      refine x_aload_n C dR_readTerm_69 rfl 2 rfl ?_
      refine x_get C fgR_18 0 rfl rfl dR_readTerm_70 ?_
      refine x_if_leN (tgt := 98) C (by omega) dR_readTerm_73 (by decide) (fun h73 => ?_) (fun h73 => ?_)
      ·
        exact absurd h73 (by omega)
      ·
        refine x_aload_n C dR_readTerm_76 rfl 2 rfl ?_
        refine x_get C fgR_28 0 rfl rfl dR_readTerm_77 ?_
        refine x_if_ne (tgt := 98) C dR_readTerm_80 (by decide) (fun h => absurd (by decide) h) (fun _ => ?_)
        have lp83 : ∀ (zc : Nat) (L : List tc_Nd) (p : Nat) (q : tc_Q) (st : List tc_Q) (wlg : Nat → Nat) (wmg : Nat → Nat) (kg : Nat → Nat) (ug : Nat → Int64) (wg : Nat → Int64), (201 - (nd + L.length)) < zc → (tc_rT (tc_B gb) gz nd ap = tc_rL (tc_B gb) gz nd (202 - L.length) p (q :: st) L) → (tc_pn wlg wmg (q :: st)) → (tc_bq (q :: st) ∧ q.2.1 ≤ 61 ∧ q.2.2 ≤ q.2.1) → (tc_raw kg ug wg nd L) → (tc_pd 0 [tc_q0] L = q :: st) → (p ≤ gz) → (tc_wfc L (st.length + 1)) → (tc_RS Ts (kg, ug, wg, si, de, la, le) ro tm nd) → (∀ e ∈ tc_fw 0 [tc_q0] L, e.2.1 ≤ 60) → (∀ y ∈ L, tc_okn y) → (nd + L.length ≤ 200) → (∀ z ∈ st, z.2.2 ≤ z.2.1 ∧ z.2.1 ≤ 61) → xk_Go K D 3 0 0 (tc_wR r cr (g 0) (a 0) wlg wmg (st.length + 1) p ap 0 none ++ (tc_wB g cg gb gz ++ tc_wS a ca kg ug wg si de la le ro tm nd)) [(0, .ref (r 0)), (2, .int (nI (nd + L.length)))] 83 [] := by
          intro zc
          induction zc with
          | zero => intro L p q st wlg wmg kg ug wg hm; exact absurd hm (Nat.not_lt_zero _)
          | succ zc ih83 =>
            intro L p q st wlg wmg kg ug wg hm e1 e2 e3 e4 e5 e6 e7 e8 e9 e10 e11 e12
            have e3a := e3.1.1
            obtain ⟨e3, e3b, e3c⟩ := e3
            refine x_aload_n C dR_readTerm_83 rfl 0 rfl ?_
            refine x_iload_n C dR_readTerm_84 rfl 1 rfl ?_
            refine x_callV C (c_R_readNode D r cr g cg a ca wlg wmg (st.length + 1) p ap gb gz kg ug wg si de la le ro tm nd (nd + L.length) q.2.1 q.2.2 e6 y2 (by omega) (by have := e3.1; omega) (by omega) (by rw [show st.length + 1 - 1 = st.length by omega]; exact e2.1) (by rw [show st.length + 1 - 1 = st.length by omega]; exact e2.2.1) (by omega) (by omega)) kbR_56 kcR_56 [0, 1, 2, 3, 4, 5, 6, 7, 8, 9, 10, 11, 12, 13] [] [0, 1, 2, 3, 4, 5, 6, 7, 8, 9, 10] ([]) rfl rfl (by decide) (by decide) (by decide) rfl 0 rfl rfl ⟨Nat.le_of_ble_eq_true rfl, Nat.le_of_ble_eq_true rfl⟩ ⟨Nat.le_of_ble_eq_true rfl, Nat.le_of_ble_eq_true rfl⟩ [] rfl rfl (Nat.le_of_ble_eq_true rfl) dR_readTerm_85 (fun rv ru hw => ?_)
            rcases hw with ⟨x, nw, kh, uh, wh, wlh, wmh, rfl, rfl, g1, g2, g3, g4, g5, g6, g7, g8⟩ | ⟨f, qq, nw, kh, uh, wh, wlh, wmh, wth, rfl, rfl, g1, g2, g3, g4, g5, g6⟩
            ·
              show xk_Go K D 3 0 0 (tc_wR r cr (g 0) (a 0) wlh wmh ((st.length + 1) - 1 + tc_tk x.1) nw ap 0 none ++ (tc_wB g cg gb gz ++ tc_wS a ca kh uh wh si de la le ro tm nd)) [(0, .ref (r 0)), (2, .int (nI (nd + L.length)))] 88 []
              have hinv := tc_rN_inv g1
              have hxo := tc_rE_ok hinv.2.2.2.2 hinv.2.1 (tc_B_lt gb)
              have hkl : (tc_kid L.length x q ++ st).length = tc_tk x.1 + st.length := by rw [List.length_append, tc_kid_len]
              have htk := tc_tk_le x.1
              refine x_iload_n C dR_readTerm_88 rfl 1 rfl ?_
              refine x_iconst (v := nI 1) C dR_readTerm_89 (by decide) ?_
              refine x_iaddN C dR_readTerm_90 ?_
              refine x_istore_n C [(1, .int (nI (nd + L.length + 1))), (0, .ref (r 0)), (2, .int (nI (nd + L.length)))] dR_readTerm_91 rfl (by decide) rfl ?_
              refine x_iinc (q := 2) C (nI (nd + L.length + 1)) [(2, .int (nI (nd + L.length + 1))), (1, .int (nI (nd + L.length + 1))), (0, .ref (r 0))] dR_readTerm_92 rfl (nI_add (nd + L.length) 1) (by decide) rfl ?_
              refine x_goto C 62 dR_readTerm_95 (by decide) ?_
              refine x_iload_n C dR_readTerm_62 rfl 0 rfl ?_
              refine x_sipush (v := nI 200) C dR_readTerm_63 (by decide) ?_
              refine x_icmp_gtN (tgt := 98) C (by omega) (by decide) dR_readTerm_66 (by decide) (fun h66 => ?_) (fun h66 => ?_)
              ·
                exact absurd h66 (by omega)
              ·
                refine x_aload_n C dR_readTerm_69 rfl 2 rfl ?_
                refine x_get C fgR_18 0 rfl rfl dR_readTerm_70 ?_
                refine x_if_leN (tgt := 98) C (by omega) dR_readTerm_73 (by decide) (fun h73 => ?_) (fun h73 => ?_)
                ·
                  refine x_aload_n C dR_readTerm_98 rfl 2 rfl ?_
                  refine x_get C fgR_28 0 rfl rfl dR_readTerm_99 ?_
                  refine x_if_ne (tgt := 121) C dR_readTerm_102 (by decide) (fun h => absurd (by decide) h) (fun _ => ?_)
                  refine x_aload_n C dR_readTerm_105 rfl 2 rfl ?_
                  refine x_get C fgR_38 0 rfl rfl dR_readTerm_106 ?_
                  refine x_iload_n C dR_readTerm_109 rfl 1 rfl ?_
                  have hll : (L ++ [x]).length = L.length + 1 := by simp
                  have hst : tc_kid L.length x q ++ st = [] := List.eq_nil_of_length_eq_zero (by omega)
                  have hst0 : tc_tk x.1 + st.length = 0 := by omega
                  refine x_callV C (c_S_adopt D a ca kh uh wh si de la le ro tm nd (nd + L.length + 1) Ts (L ++ [x]) (tc_RS_keep e8 (by omega) g2) (by omega) (by omega) (tc_read_okt (by have z := tc_wfc_step (x := x) e7; rw [hst0] at z; exact z) (tc_lv60 e9 e5 hinv.2.2.1) (tc_mem1 e10 hxo)) (tc_raw_app e4 rfl e10 g2 g3)) kbR_60 kcR_60 [5, 6, 7, 8, 9, 10, 11, 12, 13] [0, 1, 2, 3, 4] [3, 4, 5, 6, 7, 8, 9, 10] (tc_wR r cr (g 0) (a 0) wlh wmh ((st.length + 1) - 1 + tc_tk x.1) nw ap 0 none ++ tc_wB g cg gb gz) rfl rfl (by decide) (by decide) (by decide) rfl 0 rfl rfl ⟨Nat.le_of_ble_eq_true rfl, Nat.le_of_ble_eq_true rfl⟩ ⟨Nat.le_of_ble_eq_true rfl, Nat.le_of_ble_eq_true rfl⟩ [] rfl rfl (Nat.le_of_ble_eq_true rfl) dR_readTerm_110 (fun rv ru hw => ?_)
                  obtain ⟨kA, uA, wA, sA, dA, lA, eA, rA, tA, nA, rfl, rfl, gA⟩ := hw
                  show xk_Go K D 3 0 0 (tc_wR r cr (g 0) (a 0) wlh wmh ((st.length + 1) - 1 + tc_tk x.1) nw ap 0 none ++ (tc_wB g cg gb gz ++ tc_wS a ca kA uA wA sA dA lA eA rA tA nA)) [(2, .int (nI (nd + L.length + 1))), (1, .int (nI (nd + L.length + 1))), (0, .ref (r 0))] 113 []
                  refine x_aload_n C dR_readTerm_113 rfl 2 rfl ?_
                  refine x_aload_n C dR_readTerm_114 rfl 2 rfl ?_
                  refine x_get C fgR_22 0 rfl rfl dR_readTerm_115 ?_
                  refine x_put C fpR_25 0 (tc_wR r cr (g 0) (a 0) wlh wmh ((st.length + 1) - 1 + tc_tk x.1) nw nw 0 none ++ (tc_wB g cg gb gz ++ tc_wS a ca kA uA wA sA dA lA eA rA tA nA)) rfl rfl rfl rfl (Nat.le_of_ble_eq_true rfl) dR_readTerm_118 ?_
                  refine x_aload_n C dR_readTerm_121 rfl 2 rfl ?_
                  refine x_get C fgR_28 0 rfl rfl dR_readTerm_122 ?_
                  exact x_iret C T .int rfl rfl dR_readTerm_125 (Or.inr (Or.inr (⟨(L ++ [x]), _, _, _, _, _, _, _, _, _, _, _, _, _, _, rfl, rfl, h11, (e1.trans ((tc_rL_s (by omega) g1).trans (by rw [hst]; exact tc_rL_e))), gA, (by omega)⟩)))
                ·
                  refine x_aload_n C dR_readTerm_76 rfl 2 rfl ?_
                  refine x_get C fgR_28 0 rfl rfl dR_readTerm_77 ?_
                  refine x_if_ne (tgt := 98) C dR_readTerm_80 (by decide) (fun h => absurd (by decide) h) (fun _ => ?_)
                  obtain ⟨q', st', hqs⟩ : ∃ q' st', tc_kid L.length x q ++ st = q' :: st' := by match hz : tc_kid L.length x q ++ st, hkl with | [], hkl => exact absurd hkl (by simp; omega) | a :: b, _ => exact ⟨a, b, rfl⟩
                  have hql : st'.length + 1 = st.length + 1 - 1 + tc_tk x.1 := by have := congrArg List.length hqs; rw [hkl, List.length_cons] at this; omega
                  have hll : (L ++ [x]).length = L.length + 1 := by simp
                  rw [← hql]
                  rw [show nd + L.length + 1 = nd + (L ++ [x]).length by rw [hll]; omega]
                  have hcb : ∀ z ∈ q' :: st', z.2.2 ≤ z.2.1 ∧ z.2.1 ≤ 61 := tc_kid_b hqs e3c hinv.2.2.1 e12
                  exact x_sub [2, 0] rfl (ih83 (L ++ [x]) nw q' st' wlh wmh kh uh wh (by omega) (e1.trans ((tc_rL_s (by omega) g1).trans (by rw [hqs, hll, show 202 - L.length - 1 = 202 - (L.length + 1) by omega]))) (tc_pn_kid hqs e2 g4 g5) (⟨hqs ▸ tc_bq_kid e3, (hcb _ List.mem_cons_self).2, (hcb _ List.mem_cons_self).1⟩) (tc_raw_app e4 rfl e10 g2 g3) (by rw [tc_pd_app, e5, tc_pd_cons, tc_pd_nil, Nat.zero_add]; exact hqs) g7 (by have z := tc_wfc_step (x := x) e7; rw [show tc_tk x.1 + st.length = st'.length + 1 by omega] at z; exact z) (tc_RS_keep e8 (by omega) g2) (tc_lv60 e9 e5 hinv.2.2.1) (tc_mem1 e10 hxo) (by omega) (fun z hz => hcb z (List.mem_cons_of_mem _ hz)))
            ·
              show xk_Go K D 3 0 0 (tc_wR r cr (g 0) (a 0) wlh wmh wth nw ap f (some qq) ++ (tc_wB g cg gb gz ++ tc_wS a ca kh uh wh si de la le ro tm nd)) [(0, .ref (r 0)), (2, .int (nI (nd + L.length)))] 88 []
              refine x_iload_n C dR_readTerm_88 rfl 1 rfl ?_
              refine x_iconst (v := nI 1) C dR_readTerm_89 (by decide) ?_
              refine x_iaddN C dR_readTerm_90 ?_
              refine x_istore_n C [(1, .int (nI (nd + L.length + 1))), (0, .ref (r 0)), (2, .int (nI (nd + L.length)))] dR_readTerm_91 rfl (by decide) rfl ?_
              refine x_iinc (q := 2) C (nI (nd + L.length + 1)) [(2, .int (nI (nd + L.length + 1))), (1, .int (nI (nd + L.length + 1))), (0, .ref (r 0))] dR_readTerm_92 rfl (nI_add (nd + L.length) 1) (by decide) rfl ?_
              refine x_goto C 62 dR_readTerm_95 (by decide) ?_
              refine x_iload_n C dR_readTerm_62 rfl 0 rfl ?_
              refine x_sipush (v := nI 200) C dR_readTerm_63 (by decide) ?_
              refine x_icmp_gtN (tgt := 98) C (by omega) (by decide) dR_readTerm_66 (by decide) (fun h66 => ?_) (fun h66 => ?_)
              ·
                refine x_aload_n C dR_readTerm_98 rfl 2 rfl ?_
                refine x_get C fgR_28 0 rfl rfl dR_readTerm_99 ?_
                refine x_if_neN (tgt := 121) C (by omega) dR_readTerm_102 (by decide) (fun h102 => ?_) (fun h102 => ?_)
                ·
                  refine x_aload_n C dR_readTerm_121 rfl 2 rfl ?_
                  refine x_get C fgR_28 0 rfl rfl dR_readTerm_122 ?_
                  exact x_iret C T .int rfl rfl dR_readTerm_125 (Or.inr (Or.inl (⟨f, qq, _, _, _, _, _, _, _, rfl, rfl, h11, (e1.trans (tc_rL_f (by omega) g1)), (tc_RS_keep e8 (by omega) g2), g3, (by omega)⟩)))
                ·
                  exact absurd h102 (by omega)
              ·
                refine x_aload_n C dR_readTerm_69 rfl 2 rfl ?_
                refine x_get C fgR_18 0 rfl rfl dR_readTerm_70 ?_
                refine x_if_leN (tgt := 98) C (by omega) dR_readTerm_73 (by decide) (fun h73 => ?_) (fun h73 => ?_)
                ·
                  refine x_aload_n C dR_readTerm_98 rfl 2 rfl ?_
                  refine x_get C fgR_28 0 rfl rfl dR_readTerm_99 ?_
                  refine x_if_neN (tgt := 121) C (by omega) dR_readTerm_102 (by decide) (fun h102 => ?_) (fun h102 => ?_)
                  ·
                    refine x_aload_n C dR_readTerm_121 rfl 2 rfl ?_
                    refine x_get C fgR_28 0 rfl rfl dR_readTerm_122 ?_
                    exact x_iret C T .int rfl rfl dR_readTerm_125 (Or.inr (Or.inl (⟨f, qq, _, _, _, _, _, _, _, rfl, rfl, h11, (e1.trans (tc_rL_f (by omega) g1)), (tc_RS_keep e8 (by omega) g2), g3, (by omega)⟩)))
                  ·
                    exact absurd h102 (by omega)
                ·
                  refine x_aload_n C dR_readTerm_76 rfl 2 rfl ?_
                  refine x_get C fgR_28 0 rfl rfl dR_readTerm_77 ?_
                  refine x_if_neN (tgt := 98) C (by omega) dR_readTerm_80 (by decide) (fun h80 => ?_) (fun h80 => ?_)
                  ·
                    refine x_aload_n C dR_readTerm_98 rfl 2 rfl ?_
                    refine x_get C fgR_28 0 rfl rfl dR_readTerm_99 ?_
                    refine x_if_neN (tgt := 121) C (by omega) dR_readTerm_102 (by decide) (fun h102 => ?_) (fun h102 => ?_)
                    ·
                      refine x_aload_n C dR_readTerm_121 rfl 2 rfl ?_
                      refine x_get C fgR_28 0 rfl rfl dR_readTerm_122 ?_
                      exact x_iret C T .int rfl rfl dR_readTerm_125 (Or.inr (Or.inl (⟨f, qq, _, _, _, _, _, _, _, rfl, rfl, h11, (e1.trans (tc_rL_f (by omega) g1)), (tc_RS_keep e8 (by omega) g2), g3, (by omega)⟩)))
                    ·
                      exact absurd h102 (by omega)
                  ·
                    exact absurd h80 (by omega)
        exact x_sub [2, 0] rfl (lp83 _ ([]) ap tc_q0 ([]) wlgw wmgw kn nu wo (Nat.lt_succ_self _) rfl (⟨(g2w 0 (by omega) (by omega)).1, (g2w 0 (by omega) (by omega)).2, trivial⟩) (⟨⟨by decide, trivial⟩, by decide, by decide⟩) (fun j x hx => by simp at hx) rfl (by omega) (fun R h => h) y1 (fun e he => by cases he) (fun y hy => by cases hy) (by simpa using ynd) (fun z hz => by cases hz))
  ·
    refine x_iconst (v := xk_oI none) C dR_readTerm_14 (by decide) ?_
    exact x_iret C T .int rfl rfl dR_readTerm_15 (Or.inl (⟨rfl, rfl, h11⟩))
