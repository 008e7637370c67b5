set_option maxHeartbeats 4000000 in
set_option maxRecDepth 100000 in
/-- readNumber -/
theorem c_R_readNumber (D : va_G) (r : Nat → Nat) (cr : Nat → ClassId) (g : Nat → Nat) (cg : Nat → ClassId) (a : Nat → Nat) (ca : Nat → ClassId) (wl : Nat → Nat) (wm : Nat → Nat) (wt : Nat) (nx : Nat) (ap : Nat) (gb : Nat → Nat) (gz : Nat) (kn : Nat → Nat) (nu : Nat → Int64) (wo : Nat → Int64) (si : Nat → Nat) (de : Nat → Nat) (la : Nat → Nat) (le : Nat → Nat) (ro : Nat → Nat) (tm : Nat) (nd : Nat) (i : Nat) (kd : Nat) (lb : Nat) (y1 : nx ≤ gz) (y2 : gz ≤ 4096) (y4 : 0 < nx) (y5 : kd = 0 ∨ kd = 1 ∨ kd = 2 ∨ kd = 3 ∨ kd = 4 ∨ kd = 5 ∨ kd = 6 ∨ kd = 7 ∨ kd = 8 ∨ kd = 9 ∨ kd = 10 ∨ kd = 11) (y6 : i < 200) (y7 : lb < 2 ^ 31) : xk_Ct yR_readNumber cR_readNumber 8 none { frames := 4, cells := 0, slots := 0, locals := 90 } D (tc_tR cr ++ (tc_tB cg ++ tc_tS ca)) [.ref (r 0), .int (nI i), .int (nI kd), .int (nI lb)] (tc_wR r cr (g 0) (a 0) wl wm wt nx ap 0 none ++ (tc_wB g cg gb gz ++ tc_wS a ca kn nu wo si de la le ro tm nd)) (fun rv ru => (∃ (x : tc_Nd), ∃ (nw : Nat), ∃ (kg : Nat → Nat), ∃ (ug : Nat → Int64), ∃ (wg : Nat → Int64), rv = none ∧ ru = tc_wR r cr (g 0) (a 0) wl wm wt nw ap 0 none ++ (tc_wB g cg gb gz ++ tc_wS a ca kg ug wg si de la le ro tm nd) ∧ (tc_rE (tc_B gb) gz kd (nx - 1) lb nx = .inr (x, nw)) ∧ (∀ j, j ≠ i → kg j = kn j ∧ ug j = nu j ∧ ∀ t, t < 64 → tc_wb wg j t = tc_wb wo j t) ∧ (kg i = x.1 ∧ ug i = x.2.1 ∧ ∀ t b, x.2.2[t]? = some b → tc_wb wg i t = b) ∧ (nx ≤ nw) ∧ (nw ≤ gz)) ∨ (∃ (f : Nat), ∃ (q : Nat), ∃ (nw : Nat), ∃ (kg : Nat → Nat), ∃ (ug : Nat → Int64), ∃ (wg : Nat → Int64), rv = none ∧ ru = tc_wR r cr (g 0) (a 0) wl wm wt nw ap f (some q) ++ (tc_wB g cg gb gz ++ tc_wS a ca kg ug wg si de la le ro tm nd) ∧ (tc_rE (tc_B gb) gz kd (nx - 1) lb nx = .inl (f, q)) ∧ (∀ j, j ≠ i → kg j = kn j ∧ ug j = nu j ∧ ∀ t, t < 64 → tc_wb wg j t = tc_wb wo j t) ∧ (0 < f ∧ f < 10) ∧ (nx ≤ nw) ∧ (nw ≤ gz))) := by
  refine xk_enter (by decide) (Nat.le_of_ble_eq_true rfl) (fun K C T hin => ?_)
  have yk : kd ≤ 11 := by omega
  show xk_Go K D 8 0 0 (tc_wR r cr (g 0) (a 0) wl wm wt nx ap 0 none ++ (tc_wB g cg gb gz ++ tc_wS a ca kn nu wo si de la le ro tm nd)) [(0, .ref (r 0)), (1, .int (nI i)), (2, .int (nI kd)), (3, .int (nI lb))] 0 []
  refine x_aload_n C dR_readNumber_0 rfl 0 rfl ?_
  refine x_get C fgR_22 0 rfl rfl dR_readNumber_1 ?_
  refine x_iconst (v := nI 1) C dR_readNumber_4 (by decide) ?_
  refine x_isubN C (by omega) dR_readNumber_5 ?_
  refine x_istore C [(4, .int (nI (nx - 1))), (0, .ref (r 0)), (1, .int (nI i)), (2, .int (nI kd)), (3, .int (nI lb))] dR_readNumber_6 (by decide) rfl ?_
  have jn54 : ∀ (xv : Int64) (nw : Nat) (fv : Nat) (pv : Option Nat), ((fv = 0 ∧ pv = none ∧ tc_rV (tc_B gb) gz kd nx = .inr (xv, nw) ∧ tc_fit kd xv = true ∧ ¬ (kd = 0 ∧ lb < xv.toInt.toNat)) ∨ (0 < fv ∧ fv < 10 ∧ ∃ q, pv = some q ∧ tc_rE (tc_B gb) gz kd (nx - 1) lb nx = .inl (fv, q))) → (nx ≤ nw) → (nw ≤ gz) → xk_Go K D 8 0 0 (tc_wR r cr (g 0) (a 0) wl wm wt nw ap fv pv ++ (tc_wB g cg gb gz ++ tc_wS a ca kn nu wo si de la le ro tm nd)) [(0, .ref (r 0)), (1, .int (nI i)), (2, .int (nI kd)), (3, .int (nI lb)), (5, .long xv)] 54 [] := by
    intro xv nw fv pv jj j4 j5
    refine x_aload_n C dR_readNumber_54 rfl 0 rfl ?_
    refine x_get C fgR_38 0 rfl rfl dR_readNumber_55 ?_
    refine x_iload_n C dR_readNumber_58 rfl 1 rfl ?_
    refine x_iload_n C dR_readNumber_59 rfl 2 rfl ?_
    refine x_lload C dR_readNumber_60 4 rfl ?_
    refine x_callV C (c_S_setNode D a ca kn nu wo si de la le ro tm nd i kd xv y6) kbR_92 kcR_92 [5, 6, 7, 8, 9, 10, 11, 12, 13] [0, 1, 2, 3, 4] [3, 4, 5, 6, 7, 8, 9, 10] (tc_wR r cr (g 0) (a 0) wl wm wt nw ap fv pv ++ tc_wB g cg gb gz) rfl rfl (by decide) (by decide) (by decide) rfl 0 rfl rfl ⟨Nat.le_of_ble_eq_true rfl, Nat.le_of_ble_eq_true rfl⟩ ⟨Nat.le_of_ble_eq_true rfl, Nat.le_of_ble_eq_true rfl⟩ [] rfl rfl (Nat.le_of_ble_eq_true rfl) dR_readNumber_62 (fun rv ru hw => ?_)
    obtain ⟨rfl, rfl⟩ := hw
    show xk_Go K D 8 0 0 (tc_wR r cr (g 0) (a 0) wl wm wt nw ap fv pv ++ (tc_wB g cg gb gz ++ tc_wS a ca (va_up kn i kd) (vp_updL nu i xv) wo si de la le ro tm nd)) [(0, .ref (r 0)), (1, .int (nI i)), (2, .int (nI kd)), (3, .int (nI lb)), (5, .long xv)] 65 []
    rcases jj with ⟨rfl, rfl, j1, j2, j3⟩ | ⟨j1, j2, q, rfl, j3⟩
    ·
      refine x_iload_n C dR_readNumber_65 rfl 2 rfl ?_
      refine x_bipush (v := nI 8) C dR_readNumber_66 (by decide) ?_
      refine x_icmp_neN (tgt := 117) C (by omega) (by decide) dR_readNumber_68 (by decide) (fun h68 => ?_) (fun h68 => ?_)
      ·
        exact x_vret C T rfl dR_readNumber_117 (Or.inl (⟨(kd, xv, []), _, _, _, _, rfl, rfl, (tc_rE_o j1 j2 j3 h68), (fun j hj => ⟨va_up_ne _ _ hj, pk_uLn hj, fun _ _ => rfl⟩), (⟨va_up_self _ _ _, pk_uLs, fun t b hb => by simp at hb⟩), j4, j5⟩))
      ·
        have hk8 : kd = 8 := h68
        obtain ⟨c, hc, hc64, hcn⟩ := tc_fit8c hk8 j2
        refine x_iconst (v := nI 0) C dR_readNumber_71 (by decide) ?_
        refine x_istore C [(7, .int (nI 0)), (0, .ref (r 0)), (1, .int (nI i)), (2, .int (nI kd)), (3, .int (nI lb)), (5, .long xv)] dR_readNumber_72 (by decide) rfl ?_
        refine x_iload C dR_readNumber_74 0 rfl ?_
        refine x_i2l (v := 0) C dR_readNumber_76 (by decide) ?_
        refine x_lload C dR_readNumber_77 5 rfl ?_
        refine x_lcmp C dR_readNumber_79 ?_
        refine x_if_geC (tgt := 117) C dR_readNumber_80 (by decide) (fun h80 => ?_) (fun h80 => ?_)
        ·
          obtain rfl : c = 0 := tc_le0 hc hc64 h80
          exact x_vret C T rfl dR_readNumber_117 (Or.inl (⟨(8, xv, tc_seg (tc_B gb) nw 0), nw, _, _, _, rfl, rfl, (tc_rE_8o j1 j2 hk8 hcn (by omega)), (fun j hj => ⟨va_up_ne _ _ hj, pk_uLn hj, fun _ _ => rfl⟩), (⟨(va_up_self _ _ _).trans hk8, pk_uLs, fun t b hb => by simp [tc_seg] at hb⟩), j4, j5⟩))
        ·
          refine x_iload C dR_readNumber_83 0 rfl ?_
          refine x_bipush (v := nI 64) C dR_readNumber_85 (by decide) ?_
          refine x_icmp_ge (tgt := 117) C dR_readNumber_87 (by decide) (fun h => absurd h (by decide)) (fun _ => ?_)
          refine x_aload_n C dR_readNumber_90 rfl 1 rfl ?_
          refine x_get C fgR_28 0 rfl rfl dR_readNumber_91 ?_
          refine x_if_ne (tgt := 117) C dR_readNumber_94 (by decide) (fun h => absurd (by decide) h) (fun _ => ?_)
          have lp97 : ∀ (zc : Nat) (j : Nat) (wg : Nat → Int64), (c - j) < zc → (j < c) → (∀ q t, t < 64 → tc_wb wg q t = if q = i ∧ t < j then (tc_B gb) (nw + t) else tc_wb wo q t) → (nw + j ≤ gz) → xk_Go K D 8 0 0 (tc_wR r cr (g 0) (a 0) wl wm wt (nw + j) ap 0 none ++ (tc_wB g cg gb gz ++ tc_wS a ca (va_up kn i kd) (vp_updL nu i xv) wg si de la le ro tm nd)) [(0, .ref (r 0)), (1, .int (nI i)), (2, .int (nI kd)), (3, .int (nI lb)), (5, .long xv), (7, .int (nI j))] 97 [] := by
            intro zc
            induction zc with
            | zero => intro j wg hm; exact absurd hm (Nat.not_lt_zero _)
            | succ zc ih97 =>
              intro j wg hm e1 e2 e3
              refine x_aload_n C dR_readNumber_97 rfl 0 rfl ?_
              refine x_get C fgR_38 0 rfl rfl dR_readNumber_98 ?_
              refine x_iload_n C dR_readNumber_101 rfl 1 rfl ?_
              refine x_iload C dR_readNumber_102 5 rfl ?_
              refine x_aload_n C dR_readNumber_104 rfl 0 rfl ?_
              refine x_callV C (c_R_takeByte D r cr g cg a ca wl wm wt (nw + j) ap 0 none gb gz (va_up kn i kd) (vp_updL nu i xv) wg si de la le ro tm nd (by omega) y2 (by decide)) kbR_63 kcR_63 [0, 1, 2, 3, 4, 5, 6, 7, 8, 9, 10, 11, 12, 13] [] [0, 1, 2, 3, 4, 5, 6, 7, 8, 9, 10] ([]) rfl rfl (by decide) (by decide) (by decide) rfl 0 rfl rfl ⟨Nat.le_of_ble_eq_true rfl, Nat.le_of_ble_eq_true rfl⟩ ⟨Nat.le_of_ble_eq_true rfl, Nat.le_of_ble_eq_true rfl⟩ [.int (nI j), .int (nI i), .ref (a 0)] rfl rfl (Nat.le_of_ble_eq_true rfl) dR_readNumber_105 (fun rv ru hw => ?_)
              rcases hw with ⟨rfl, rfl, g1t⟩ | ⟨rfl, rfl, g1t⟩
              ·
                show xk_Go K D 8 0 0 (tc_wR r cr (g 0) (a 0) wl wm wt (nw + j) ap (tc_f1 0 1) (tc_f2 0 none gz) ++ (tc_wB g cg gb gz ++ tc_wS a ca (va_up kn i kd) (vp_updL nu i xv) wg si de la le ro tm nd)) [(0, .ref (r 0)), (1, .int (nI i)), (2, .int (nI kd)), (3, .int (nI lb)), (5, .long xv), (7, .int (nI j))] 108 [.int (nI 0), .int (nI j), .int (nI i), .ref (a 0)]
                show xk_Go K D 8 0 0 (tc_wR r cr (g 0) (a 0) wl wm wt (nw + j) ap 1 (some gz) ++ (tc_wB g cg gb gz ++ tc_wS a ca (va_up kn i kd) (vp_updL nu i xv) wg si de la le ro tm nd)) [(0, .ref (r 0)), (1, .int (nI i)), (2, .int (nI kd)), (3, .int (nI lb)), (5, .long xv), (7, .int (nI j))] 108 [.int (nI 0), .int (nI j), .int (nI i), .ref (a 0)]
                refine x_callV C (c_S_setByte D a ca (va_up kn i kd) (vp_updL nu i xv) wg si de la le ro tm nd i j 0 y6 (by omega) (by omega)) kbR_96 kcR_96 [5, 6, 7, 8, 9, 10, 11, 12, 13] [0, 1, 2, 3, 4] [3, 4, 5, 6, 7, 8, 9, 10] (tc_wR r cr (g 0) (a 0) wl wm wt (nw + j) ap 1 (some gz) ++ tc_wB g cg gb gz) rfl rfl (by decide) (by decide) (by decide) rfl 0 rfl rfl ⟨Nat.le_of_ble_eq_true rfl, Nat.le_of_ble_eq_true rfl⟩ ⟨Nat.le_of_ble_eq_true rfl, Nat.le_of_ble_eq_true rfl⟩ [] rfl rfl (Nat.le_of_ble_eq_true rfl) dR_readNumber_108 (fun rv ru hw => ?_)
                obtain ⟨wh, rfl, rfl, gs⟩ := hw
                show xk_Go K D 8 0 0 (tc_wR r cr (g 0) (a 0) wl wm wt (nw + j) ap 1 (some gz) ++ (tc_wB g cg gb gz ++ tc_wS a ca (va_up kn i kd) (vp_updL nu i xv) wh si de la le ro tm nd)) [(0, .ref (r 0)), (1, .int (nI i)), (2, .int (nI kd)), (3, .int (nI lb)), (5, .long xv), (7, .int (nI j))] 111 []
                refine x_iinc (q := 5) C (nI (j + 1)) [(7, .int (nI (j + 1))), (0, .ref (r 0)), (1, .int (nI i)), (2, .int (nI kd)), (3, .int (nI lb)), (5, .long xv)] dR_readNumber_111 rfl (nI_add j 1) (by decide) rfl ?_
                refine x_goto C 74 dR_readNumber_114 (by decide) ?_
                refine x_iload C dR_readNumber_74 0 rfl ?_
                refine x_i2l (v := lN (j + 1)) C dR_readNumber_76 (nI_l (by omega)) ?_
                refine x_lload C dR_readNumber_77 5 rfl ?_
                refine x_lcmp C dR_readNumber_79 ?_
                refine x_if_geC (tgt := 117) C dR_readNumber_80 (by decide) (fun h80 => ?_) (fun h80 => ?_)
                ·
                  exact x_vret C T rfl dR_readNumber_117 (Or.inr (⟨1, gz, _, _, _, _, rfl, rfl, (tc_rE_8f j1 j2 hk8 hcn (by omega)), (tc_keep8 e2 gs), (by decide), (by omega), (by omega)⟩))
                ·
                  refine x_iload C dR_readNumber_83 0 rfl ?_
                  refine x_bipush (v := nI 64) C dR_readNumber_85 (by decide) ?_
                  refine x_icmp_geN (tgt := 117) C (by omega) (by decide) dR_readNumber_87 (by decide) (fun h87 => ?_) (fun h87 => ?_)
                  ·
                    exact x_vret C T rfl dR_readNumber_117 (Or.inr (⟨1, gz, _, _, _, _, rfl, rfl, (tc_rE_8f j1 j2 hk8 hcn (by omega)), (tc_keep8 e2 gs), (by decide), (by omega), (by omega)⟩))
                  ·
                    refine x_aload_n C dR_readNumber_90 rfl 1 rfl ?_
                    refine x_get C fgR_28 0 rfl rfl dR_readNumber_91 ?_
                    refine x_if_ne (tgt := 117) C dR_readNumber_94 (by decide) (fun _ => ?_) (fun h => absurd h (by decide))
                    exact x_vret C T rfl dR_readNumber_117 (Or.inr (⟨1, gz, _, _, _, _, rfl, rfl, (tc_rE_8f j1 j2 hk8 hcn (by omega)), (tc_keep8 e2 gs), (by decide), (by omega), (by omega)⟩))
              ·
                show xk_Go K D 8 0 0 (tc_wR r cr (g 0) (a 0) wl wm wt ((nw + j) + 1) ap 0 none ++ (tc_wB g cg gb gz ++ tc_wS a ca (va_up kn i kd) (vp_updL nu i xv) wg si de la le ro tm nd)) [(0, .ref (r 0)), (1, .int (nI i)), (2, .int (nI kd)), (3, .int (nI lb)), (5, .long xv), (7, .int (nI j))] 108 [.int (nI (gb (nw + j) % 256)), .int (nI j), .int (nI i), .ref (a 0)]
                refine x_callV C (c_S_setByte D a ca (va_up kn i kd) (vp_updL nu i xv) wg si de la le ro tm nd i j (gb (nw + j) % 256) y6 (by omega) (by omega)) kbR_96 kcR_96 [5, 6, 7, 8, 9, 10, 11, 12, 13] [0, 1, 2, 3, 4] [3, 4, 5, 6, 7, 8, 9, 10] (tc_wR r cr (g 0) (a 0) wl wm wt ((nw + j) + 1) ap 0 none ++ tc_wB g cg gb gz) rfl rfl (by decide) (by decide) (by decide) rfl 0 rfl rfl ⟨Nat.le_of_ble_eq_true rfl, Nat.le_of_ble_eq_true rfl⟩ ⟨Nat.le_of_ble_eq_true rfl, Nat.le_of_ble_eq_true rfl⟩ [] rfl rfl (Nat.le_of_ble_eq_true rfl) dR_readNumber_108 (fun rv ru hw => ?_)
                obtain ⟨wh, rfl, rfl, gs⟩ := hw
                show xk_Go K D 8 0 0 (tc_wR r cr (g 0) (a 0) wl wm wt ((nw + j) + 1) ap 0 none ++ (tc_wB g cg gb gz ++ tc_wS a ca (va_up kn i kd) (vp_updL nu i xv) wh si de la le ro tm nd)) [(0, .ref (r 0)), (1, .int (nI i)), (2, .int (nI kd)), (3, .int (nI lb)), (5, .long xv), (7, .int (nI j))] 111 []
                refine x_iinc (q := 5) C (nI (j + 1)) [(7, .int (nI (j + 1))), (0, .ref (r 0)), (1, .int (nI i)), (2, .int (nI kd)), (3, .int (nI lb)), (5, .long xv)] dR_readNumber_111 rfl (nI_add j 1) (by decide) rfl ?_
                refine x_goto C 74 dR_readNumber_114 (by decide) ?_
                refine x_iload C dR_readNumber_74 0 rfl ?_
                refine x_i2l (v := lN (j + 1)) C dR_readNumber_76 (nI_l (by omega)) ?_
                refine x_lload C dR_readNumber_77 5 rfl ?_
                refine x_lcmp C dR_readNumber_79 ?_
                refine x_if_geC (tgt := 117) C dR_readNumber_80 (by decide) (fun h80 => ?_) (fun h80 => ?_)
                ·
                  have hcj : c = j + 1 := by have := tc_le1 hc hc64 (by omega) h80; omega
                  exact x_vret C T rfl dR_readNumber_117 (Or.inl (⟨(8, xv, tc_seg (tc_B gb) nw c), (nw + c), _, _, _, rfl, by rw [hcj]; rfl, (tc_rE_8o j1 j2 hk8 hcn (by omega)), (tc_keep8 e2 gs), (⟨(va_up_self _ _ _).trans hk8, pk_uLs, tc_seg8 e2 gs hcj hc64⟩), (by omega), (by omega)⟩))
                ·
                  refine x_iload C dR_readNumber_83 0 rfl ?_
                  refine x_bipush (v := nI 64) C dR_readNumber_85 (by decide) ?_
                  refine x_icmp_geN (tgt := 117) C (by omega) (by decide) dR_readNumber_87 (by decide) (fun h87 => ?_) (fun h87 => ?_)
                  ·
                    exact absurd h87 (by have := tc_lt1 hc hc64 (by omega) h80; omega)
                  ·
                    refine x_aload_n C dR_readNumber_90 rfl 1 rfl ?_
                    refine x_get C fgR_28 0 rfl rfl dR_readNumber_91 ?_
                    refine x_if_ne (tgt := 117) C dR_readNumber_94 (by decide) (fun h => absurd (by decide) h) (fun _ => ?_)
                    exact x_sub [1, 2, 3, 4, 5, 0] rfl (ih97 (j + 1) wh (by omega) (tc_lt1 hc hc64 (by omega) h80) (tc_seg_step e2 gs) (by omega))
          exact x_sub [1, 2, 3, 4, 5, 0] rfl (lp97 _ 0 wo (Nat.lt_succ_self _) (tc_lt0 hc hc64 h80) (fun q t ht => by rw [if_neg (fun z => by omega)]) (by omega))
    ·
      refine x_iload_n C dR_readNumber_65 rfl 2 rfl ?_
      refine x_bipush (v := nI 8) C dR_readNumber_66 (by decide) ?_
      refine x_icmp_neN (tgt := 117) C (by omega) (by decide) dR_readNumber_68 (by decide) (fun h68 => ?_) (fun h68 => ?_)
      ·
        exact x_vret C T rfl dR_readNumber_117 (Or.inr (⟨fv, q, _, _, _, _, rfl, rfl, j3, (fun j hj => ⟨va_up_ne _ _ hj, pk_uLn hj, fun _ _ => rfl⟩), (⟨j1, j2⟩), j4, j5⟩))
      ·
        refine x_iconst (v := nI 0) C dR_readNumber_71 (by decide) ?_
        refine x_istore C [(7, .int (nI 0)), (0, .ref (r 0)), (1, .int (nI i)), (2, .int (nI kd)), (3, .int (nI lb)), (5, .long xv)] dR_readNumber_72 (by decide) rfl ?_
        refine x_iload C dR_readNumber_74 0 rfl ?_
        refine x_i2l (v := 0) C dR_readNumber_76 (by decide) ?_
        refine x_lload C dR_readNumber_77 5 rfl ?_
        refine x_lcmp C dR_readNumber_79 ?_
        refine x_if_geC (tgt := 117) C dR_readNumber_80 (by decide) (fun h80 => ?_) (fun h80 => ?_)
        ·
          exact x_vret C T rfl dR_readNumber_117 (Or.inr (⟨fv, q, _, _, _, _, rfl, rfl, j3, (fun j hj => ⟨va_up_ne _ _ hj, pk_uLn hj, fun _ _ => rfl⟩), (⟨j1, j2⟩), j4, j5⟩))
        ·
          refine x_iload C dR_readNumber_83 0 rfl ?_
          refine x_bipush (v := nI 64) C dR_readNumber_85 (by decide) ?_
          refine x_icmp_ge (tgt := 117) C dR_readNumber_87 (by decide) (fun h => absurd h (by decide)) (fun _ => ?_)
          refine x_aload_n C dR_readNumber_90 rfl 1 rfl ?_
          refine x_get C fgR_28 0 rfl rfl dR_readNumber_91 ?_
          refine x_if_neN (tgt := 117) C (by omega) dR_readNumber_94 (by decide) (fun h94 => ?_) (fun h94 => ?_)
          ·
            exact x_vret C T rfl dR_readNumber_117 (Or.inr (⟨fv, q, _, _, _, _, rfl, rfl, j3, (fun j hj => ⟨va_up_ne _ _ hj, pk_uLn hj, fun _ _ => rfl⟩), (⟨j1, j2⟩), j4, j5⟩))
          ·
            exact absurd h94 (by omega)
  refine x_aload_n C dR_readNumber_8 rfl 1 rfl ?_
  refine x_iload_n C dR_readNumber_9 rfl 3 rfl ?_
  refine x_callV C (c_R_takeNumber D r cr g cg a ca wl wm wt nx ap gb gz kn nu wo si de la le ro tm nd kd y1 y2 y4 y5) kbR_84 kcR_84 [0, 1, 2, 3, 4, 5, 6, 7, 8, 9, 10, 11, 12, 13] [] [0, 1, 2, 3, 4, 5, 6, 7, 8, 9, 10] ([]) rfl rfl (by decide) (by decide) (by decide) rfl 0 rfl rfl ⟨Nat.le_of_ble_eq_true rfl, Nat.le_of_ble_eq_true rfl⟩ ⟨Nat.le_of_ble_eq_true rfl, Nat.le_of_ble_eq_true rfl⟩ [] rfl rfl (Nat.le_of_ble_eq_true rfl) dR_readNumber_10 (fun rv ru hw => ?_)
  rcases hw with ⟨xv, nw, rfl, rfl, g1, g2, g3⟩ | ⟨xv, nw, f, q, rfl, rfl, g1, g2, g3, g4⟩
  ·
    show xk_Go K D 8 0 0 (tc_wR r cr (g 0) (a 0) wl wm wt nw ap 0 none ++ (tc_wB g cg gb gz ++ tc_wS a ca kn nu wo si de la le ro tm nd)) [(4, .int (nI (nx - 1))), (0, .ref (r 0)), (1, .int (nI i)), (2, .int (nI kd)), (3, .int (nI lb))] 13 [.long xv]
    refine x_lstore C [(5, .long xv), (4, .int (nI (nx - 1))), (0, .ref (r 0)), (1, .int (nI i)), (2, .int (nI kd)), (3, .int (nI lb))] dR_readNumber_13 (by decide) rfl ?_
    refine x_iload_n C dR_readNumber_15 rfl 4 rfl ?_
    refine x_lload C dR_readNumber_16 0 rfl ?_
    refine x_callS C (c_F_fits D kd xv y5) kbR_88 kcR_88 [] [0, 1, 2, 3, 4, 5, 6, 7, 8, 9, 10, 11, 12, 13] [] (tc_wR r cr (g 0) (a 0) wl wm wt nw ap 0 none ++ (tc_wB g cg gb gz ++ tc_wS a ca kn nu wo si de la le ro tm nd)) rfl rfl (by decide) (by decide) (by decide) rfl ⟨Nat.le_of_ble_eq_true rfl, Nat.le_of_ble_eq_true rfl⟩ ⟨Nat.le_of_ble_eq_true rfl, Nat.le_of_ble_eq_true rfl⟩ [] rfl rfl (Nat.le_of_ble_eq_true rfl) dR_readNumber_18 (fun rv ru hw => ?_)
    obtain ⟨rfl, rfl⟩ := hw
    show xk_Go K D 8 0 0 (tc_wR r cr (g 0) (a 0) wl wm wt nw ap 0 none ++ (tc_wB g cg gb gz ++ tc_wS a ca kn nu wo si de la le ro tm nd)) [(5, .long xv), (4, .int (nI (nx - 1))), (0, .ref (r 0)), (1, .int (nI i)), (2, .int (nI kd)), (3, .int (nI lb))] 21 [.int (xk_bZ (tc_fit kd xv))]
    refine x_if_neB (tgt := 35) C dR_readNumber_21 (by decide) (fun h21 => ?_) (fun h21 => ?_)
    ·
      refine x_iload_n C dR_readNumber_35 rfl 4 rfl ?_
      refine x_if_neN (tgt := 54) C (by omega) dR_readNumber_36 (by decide) (fun h36 => ?_) (fun h36 => ?_)
      ·
        exact x_sub [2, 3, 4, 5, 0] rfl (jn54 xv nw 0 none (Or.inl ⟨rfl, rfl, g1, h21, (by omega)⟩) g2 g3)
      ·
        refine x_lload C dR_readNumber_39 0 rfl ?_
        refine x_iload_n C dR_readNumber_41 rfl 5 rfl ?_
        refine x_i2l (v := lN lb) C dR_readNumber_42 (nI_l (by omega)) ?_
        refine x_lcmp C dR_readNumber_43 ?_
        refine x_if_leC (tgt := 54) C dR_readNumber_44 (by decide) (fun h44 => ?_) (fun h44 => ?_)
        ·
          exact x_sub [2, 3, 4, 5, 0] rfl (jn54 xv nw 0 none (Or.inl ⟨rfl, rfl, g1, h21, fun z => absurd z.2 (tc_le_la y7 h44)⟩) g2 g3)
        ·
          refine x_aload_n C dR_readNumber_47 rfl 2 rfl ?_
          refine x_iconst (v := nI 4) C dR_readNumber_48 (by decide) ?_
          refine x_iload C dR_readNumber_49 1 rfl ?_
          refine x_callV C (c_R_fail D r cr g cg a ca wl wm wt nw ap 0 none gb gz kn nu wo si de la le ro tm nd 4 (nx - 1) (by decide)) kbR_73 kcR_73 [0, 1, 2, 3, 4, 5, 6, 7, 8, 9, 10, 11, 12, 13] [] [0, 1, 2, 3, 4, 5, 6, 7, 8, 9, 10] ([]) rfl rfl (by decide) (by decide) (by decide) rfl 0 rfl rfl ⟨Nat.le_of_ble_eq_true rfl, Nat.le_of_ble_eq_true rfl⟩ ⟨Nat.le_of_ble_eq_true rfl, Nat.le_of_ble_eq_true rfl⟩ [] rfl rfl (Nat.le_of_ble_eq_true rfl) dR_readNumber_51 (fun rv ru hw => ?_)
          obtain ⟨rfl, rfl⟩ := hw
          show xk_Go K D 8 0 0 (tc_wR r cr (g 0) (a 0) wl wm wt nw ap (tc_f1 0 4) (tc_f2 0 none (nx - 1)) ++ (tc_wB g cg gb gz ++ tc_wS a ca kn nu wo si de la le ro tm nd)) [(5, .long xv), (4, .int (nI (nx - 1))), (0, .ref (r 0)), (1, .int (nI i)), (2, .int (nI kd)), (3, .int (nI lb))] 54 []
          show xk_Go K D 8 0 0 (tc_wR r cr (g 0) (a 0) wl wm wt nw ap 4 (some (nx - 1)) ++ (tc_wB g cg gb gz ++ tc_wS a ca kn nu wo si de la le ro tm nd)) [(5, .long xv), (4, .int (nI (nx - 1))), (0, .ref (r 0)), (1, .int (nI i)), (2, .int (nI kd)), (3, .int (nI lb))] 54 []
          exact x_sub [2, 3, 4, 5, 0] rfl (jn54 xv nw 4 (some (nx - 1)) (Or.inr ⟨by decide, by decide, _, rfl, tc_rE_4 g1 h21 h36 (tc_gt_la y7 h44)⟩) g2 g3)
    ·
      refine x_aload_n C dR_readNumber_24 rfl 2 rfl ?_
      refine x_iconst (v := nI 3) C dR_readNumber_25 (by decide) ?_
      refine x_aload_n C dR_readNumber_26 rfl 2 rfl ?_
      refine x_get C fgR_22 0 rfl rfl dR_readNumber_27 ?_
      refine x_iconst (v := nI 1) C dR_readNumber_30 (by decide) ?_
      refine x_isubN C (by omega) dR_readNumber_31 ?_
      refine x_callV C (c_R_fail D r cr g cg a ca wl wm wt nw ap 0 none gb gz kn nu wo si de la le ro tm nd 3 (nw - 1) (by decide)) kbR_73 kcR_73 [0, 1, 2, 3, 4, 5, 6, 7, 8, 9, 10, 11, 12, 13] [] [0, 1, 2, 3, 4, 5, 6, 7, 8, 9, 10] ([]) rfl rfl (by decide) (by decide) (by decide) rfl 0 rfl rfl ⟨Nat.le_of_ble_eq_true rfl, Nat.le_of_ble_eq_true rfl⟩ ⟨Nat.le_of_ble_eq_true rfl, Nat.le_of_ble_eq_true rfl⟩ [] rfl rfl (Nat.le_of_ble_eq_true rfl) dR_readNumber_32 (fun rv ru hw => ?_)
      obtain ⟨rfl, rfl⟩ := hw
      show xk_Go K D 8 0 0 (tc_wR r cr (g 0) (a 0) wl wm wt nw ap (tc_f1 0 3) (tc_f2 0 none (nw - 1)) ++ (tc_wB g cg gb gz ++ tc_wS a ca kn nu wo si de la le ro tm nd)) [(5, .long xv), (4, .int (nI (nx - 1))), (0, .ref (r 0)), (1, .int (nI i)), (2, .int (nI kd)), (3, .int (nI lb))] 35 []
      show xk_Go K D 8 0 0 (tc_wR r cr (g 0) (a 0) wl wm wt nw ap 3 (some (nw - 1)) ++ (tc_wB g cg gb gz ++ tc_wS a ca kn nu wo si de la le ro tm nd)) [(5, .long xv), (4, .int (nI (nx - 1))), (0, .ref (r 0)), (1, .int (nI i)), (2, .int (nI kd)), (3, .int (nI lb))] 35 []
      refine x_iload_n C dR_readNumber_35 rfl 4 rfl ?_
      refine x_if_neN (tgt := 54) C (by omega) dR_readNumber_36 (by decide) (fun h36 => ?_) (fun h36 => ?_)
      ·
        exact x_sub [2, 3, 4, 5, 0] rfl (jn54 xv nw 3 (some (nw - 1)) (Or.inr ⟨by decide, by decide, _, rfl, tc_rE_3 g1 h21⟩) g2 g3)
      ·
        refine x_lload C dR_readNumber_39 0 rfl ?_
        refine x_iload_n C dR_readNumber_41 rfl 5 rfl ?_
        refine x_i2l (v := lN lb) C dR_readNumber_42 (nI_l (by omega)) ?_
        refine x_lcmp C dR_readNumber_43 ?_
        refine x_if_leC (tgt := 54) C dR_readNumber_44 (by decide) (fun h44 => ?_) (fun h44 => ?_)
        ·
          exact x_sub [2, 3, 4, 5, 0] rfl (jn54 xv nw 3 (some (nw - 1)) (Or.inr ⟨by decide, by decide, _, rfl, tc_rE_3 g1 h21⟩) g2 g3)
        ·
          refine x_aload_n C dR_readNumber_47 rfl 2 rfl ?_
          refine x_iconst (v := nI 4) C dR_readNumber_48 (by decide) ?_
          refine x_iload C dR_readNumber_49 1 rfl ?_
          refine x_callV C (c_R_fail D r cr g cg a ca wl wm wt nw ap 3 (some (nw - 1)) gb gz kn nu wo si de la le ro tm nd 4 (nx - 1) (by decide)) kbR_73 kcR_73 [0, 1, 2, 3, 4, 5, 6, 7, 8, 9, 10, 11, 12, 13] [] [0, 1, 2, 3, 4, 5, 6, 7, 8, 9, 10] ([]) rfl rfl (by decide) (by decide) (by decide) rfl 0 rfl rfl ⟨Nat.le_of_ble_eq_true rfl, Nat.le_of_ble_eq_true rfl⟩ ⟨Nat.le_of_ble_eq_true rfl, Nat.le_of_ble_eq_true rfl⟩ [] rfl rfl (Nat.le_of_ble_eq_true rfl) dR_readNumber_51 (fun rv ru hw => ?_)
          obtain ⟨rfl, rfl⟩ := hw
          show xk_Go K D 8 0 0 (tc_wR r cr (g 0) (a 0) wl wm wt nw ap (tc_f1 3 4) (tc_f2 3 (some (nw - 1)) (nx - 1)) ++ (tc_wB g cg gb gz ++ tc_wS a ca kn nu wo si de la le ro tm nd)) [(5, .long xv), (4, .int (nI (nx - 1))), (0, .ref (r 0)), (1, .int (nI i)), (2, .int (nI kd)), (3, .int (nI lb))] 54 []
          show xk_Go K D 8 0 0 (tc_wR r cr (g 0) (a 0) wl wm wt nw ap 3 (some (nw - 1)) ++ (tc_wB g cg gb gz ++ tc_wS a ca kn nu wo si de la le ro tm nd)) [(5, .long xv), (4, .int (nI (nx - 1))), (0, .ref (r 0)), (1, .int (nI i)), (2, .int (nI kd)), (3, .int (nI lb))] 54 []
          exact x_sub [2, 3, 4, 5, 0] rfl (jn54 xv nw 3 (some (nw - 1)) (Or.inr ⟨by decide, by decide, _, rfl, tc_rE_3 g1 h21⟩) g2 g3)
  ·
    show xk_Go K D 8 0 0 (tc_wR r cr (g 0) (a 0) wl wm wt nw ap f (some q) ++ (tc_wB g cg gb gz ++ tc_wS a ca kn nu wo si de la le ro tm nd)) [(4, .int (nI (nx - 1))), (0, .ref (r 0)), (1, .int (nI i)), (2, .int (nI kd)), (3, .int (nI lb))] 13 [.long xv]
    refine x_lstore C [(5, .long xv), (4, .int (nI (nx - 1))), (0, .ref (r 0)), (1, .int (nI i)), (2, .int (nI kd)), (3, .int (nI lb))] dR_readNumber_13 (by decide) rfl ?_
    refine x_iload_n C dR_readNumber_15 rfl 4 rfl ?_
    refine x_lload C dR_readNumber_16 0 rfl ?_
    refine x_callS C (c_F_fits D kd xv y5) kbR_88 kcR_88 [] [0, 1, 2, 3, 4, 5, 6, 7, 8, 9, 10, 11, 12, 13] [] (tc_wR r cr (g 0) (a 0) wl wm wt nw ap f (some q) ++ (tc_wB g cg gb gz ++ tc_wS a ca kn nu wo si de la le ro tm nd)) rfl rfl (by decide) (by decide) (by decide) rfl ⟨Nat.le_of_ble_eq_true rfl, Nat.le_of_ble_eq_true rfl⟩ ⟨Nat.le_of_ble_eq_true rfl, Nat.le_of_ble_eq_true rfl⟩ [] rfl rfl (Nat.le_of_ble_eq_true rfl) dR_readNumber_18 (fun rv ru hw => ?_)
    obtain ⟨rfl, rfl⟩ := hw
    show xk_Go K D 8 0 0 (tc_wR r cr (g 0) (a 0) wl wm wt nw ap f (some q) ++ (tc_wB g cg gb gz ++ tc_wS a ca kn nu wo si de la le ro tm nd)) [(5, .long xv), (4, .int (nI (nx - 1))), (0, .ref (r 0)), (1, .int (nI i)), (2, .int (nI kd)), (3, .int (nI lb))] 21 [.int (xk_bZ (tc_fit kd xv))]
    refine x_if_neB (tgt := 35) C dR_readNumber_21 (by decide) (fun h21 => ?_) (fun h21 => ?_)
    ·
      refine x_iload_n C dR_readNumber_35 rfl 4 rfl ?_
      refine x_if_neN (tgt := 54) C (by omega) dR_readNumber_36 (by decide) (fun h36 => ?_) (fun h36 => ?_)
      ·
        exact x_sub [2, 3, 4, 5, 0] rfl (jn54 xv nw f (some q) (Or.inr ⟨g2.1, g2.2, _, rfl, tc_rE_l g1⟩) g3 g4)
      ·
        refine x_lload C dR_readNumber_39 0 rfl ?_
        refine x_iload_n C dR_readNumber_41 rfl 5 rfl ?_
        refine x_i2l (v := lN lb) C dR_readNumber_42 (nI_l (by omega)) ?_
        refine x_lcmp C dR_readNumber_43 ?_
        refine x_if_leC (tgt := 54) C dR_readNumber_44 (by decide) (fun h44 => ?_) (fun h44 => ?_)
        ·
          exact x_sub [2, 3, 4, 5, 0] rfl (jn54 xv nw f (some q) (Or.inr ⟨g2.1, g2.2, _, rfl, tc_rE_l g1⟩) g3 g4)
        ·
          refine x_aload_n C dR_readNumber_47 rfl 2 rfl ?_
          refine x_iconst (v := nI 4) C dR_readNumber_48 (by decide) ?_
          refine x_iload C dR_readNumber_49 1 rfl ?_
          refine x_callV C (c_R_fail D r cr g cg a ca wl wm wt nw ap f (some q) gb gz kn nu wo si de la le ro tm nd 4 (nx - 1) g2.2) kbR_73 kcR_73 [0, 1, 2, 3, 4, 5, 6, 7, 8, 9, 10, 11, 12, 13] [] [0, 1, 2, 3, 4, 5, 6, 7, 8, 9, 10] ([]) rfl rfl (by decide) (by decide) (by decide) rfl 0 rfl rfl ⟨Nat.le_of_ble_eq_true rfl, Nat.le_of_ble_eq_true rfl⟩ ⟨Nat.le_of_ble_eq_true rfl, Nat.le_of_ble_eq_true rfl⟩ [] rfl rfl (Nat.le_of_ble_eq_true rfl) dR_readNumber_51 (fun rv ru hw => ?_)
          obtain ⟨rfl, rfl⟩ := hw
          show xk_Go K D 8 0 0 (tc_wR r cr (g 0) (a 0) wl wm wt nw ap (tc_f1 f 4) (tc_f2 f (some q) (nx - 1)) ++ (tc_wB g cg gb gz ++ tc_wS a ca kn nu wo si de la le ro tm nd)) [(5, .long xv), (4, .int (nI (nx - 1))), (0, .ref (r 0)), (1, .int (nI i)), (2, .int (nI kd)), (3, .int (nI lb))] 54 []
          rw [tc_f1_n (show ¬ f = 0 by omega), tc_f2_n (show ¬ f = 0 by omega)]
          exact x_sub [2, 3, 4, 5, 0] rfl (jn54 xv nw f (some q) (Or.inr ⟨g2.1, g2.2, _, rfl, tc_rE_l g1⟩) g3 g4)
    ·
      refine x_aload_n C dR_readNumber_24 rfl 2 rfl ?_
      refine x_iconst (v := nI 3) C dR_readNumber_25 (by decide) ?_
      refine x_aload_n C dR_readNumber_26 rfl 2 rfl ?_
      refine x_get C fgR_22 0 rfl rfl dR_readNumber_27 ?_
      refine x_iconst (v := nI 1) C dR_readNumber_30 (by decide) ?_
      refine x_isubN C (by omega) dR_readNumber_31 ?_
      refine x_callV C (c_R_fail D r cr g cg a ca wl wm wt nw ap f (some q) gb gz kn nu wo si de la le ro tm nd 3 (nw - 1) g2.2) kbR_73 kcR_73 [0, 1, 2, 3, 4, 5, 6, 7, 8, 9, 10, 11, 12, 13] [] [0, 1, 2, 3, 4, 5, 6, 7, 8, 9, 10] ([]) rfl rfl (by decide) (by decide) (by decide) rfl 0 rfl rfl ⟨Nat.le_of_ble_eq_true rfl, Nat.le_of_ble_eq_true rfl⟩ ⟨Nat.le_of_ble_eq_true rfl, Nat.le_of_ble_eq_true rfl⟩ [] rfl rfl (Nat.le_of_ble_eq_true rfl) dR_readNumber_32 (fun rv ru hw => ?_)
      obtain ⟨rfl, rfl⟩ := hw
      show xk_Go K D 8 0 0 (tc_wR r cr (g 0) (a 0) wl wm wt nw ap (tc_f1 f 3) (tc_f2 f (some q) (nw - 1)) ++ (tc_wB g cg gb gz ++ tc_wS a ca kn nu wo si de la le ro tm nd)) [(5, .long xv), (4, .int (nI (nx - 1))), (0, .ref (r 0)), (1, .int (nI i)), (2, .int (nI kd)), (3, .int (nI lb))] 35 []
      rw [tc_f1_n (show ¬ f = 0 by omega), tc_f2_n (show ¬ f = 0 by omega)]
      refine x_iload_n C dR_readNumber_35 rfl 4 rfl ?_
      refine x_if_neN (tgt := 54) C (by omega) dR_readNumber_36 (by decide) (fun h36 => ?_) (fun h36 => ?_)
      ·
        exact x_sub [2, 3, 4, 5, 0] rfl (jn54 xv nw f (some q) (Or.inr ⟨g2.1, g2.2, _, rfl, tc_rE_l g1⟩) g3 g4)
      ·
        refine x_lload C dR_readNumber_39 0 rfl ?_
        refine x_iload_n C dR_readNumber_41 rfl 5 rfl ?_
        refine x_i2l (v := lN lb) C dR_readNumber_42 (nI_l (by omega)) ?_
        refine x_lcmp C dR_readNumber_43 ?_
        refine x_if_leC (tgt := 54) C dR_readNumber_44 (by decide) (fun h44 => ?_) (fun h44 => ?_)
        ·
          exact x_sub [2, 3, 4, 5, 0] rfl (jn54 xv nw f (some q) (Or.inr ⟨g2.1, g2.2, _, rfl, tc_rE_l g1⟩) g3 g4)
        ·
          refine x_aload_n C dR_readNumber_47 rfl 2 rfl ?_
          refine x_iconst (v := nI 4) C dR_readNumber_48 (by decide) ?_
          refine x_iload C dR_readNumber_49 1 rfl ?_
          refine x_callV C (c_R_fail D r cr g cg a ca wl wm wt nw ap f (some q) gb gz kn nu wo si de la le ro tm nd 4 (nx - 1) g2.2) kbR_73 kcR_73 [0, 1, 2, 3, 4, 5, 6, 7, 8, 9, 10, 11, 12, 13] [] [0, 1, 2, 3, 4, 5, 6, 7, 8, 9, 10] ([]) rfl rfl (by decide) (by decide) (by decide) rfl 0 rfl rfl ⟨Nat.le_of_ble_eq_true rfl, Nat.le_of_ble_eq_true rfl⟩ ⟨Nat.le_of_ble_eq_true rfl, Nat.le_of_ble_eq_true rfl⟩ [] rfl rfl (Nat.le_of_ble_eq_true rfl) dR_readNumber_51 (fun rv ru hw => ?_)
          obtain ⟨rfl, rfl⟩ := hw
          show xk_Go K D 8 0 0 (tc_wR r cr (g 0) (a 0) wl wm wt nw ap (tc_f1 f 4) (tc_f2 f (some q) (nx - 1)) ++ (tc_wB g cg gb gz ++ tc_wS a ca kn nu wo si de la le ro tm nd)) [(5, .long xv), (4, .int (nI (nx - 1))), (0, .ref (r 0)), (1, .int (nI i)), (2, .int (nI kd)), (3, .int (nI lb))] 54 []
          rw [tc_f1_n (show ¬ f = 0 by omega), tc_f2_n (show ¬ f = 0 by omega)]
          exact x_sub [2, 3, 4, 5, 0] rfl (jn54 xv nw f (some q) (Or.inr ⟨g2.1, g2.2, _, rfl, tc_rE_l g1⟩) g3 g4)
