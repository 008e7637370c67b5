set_option maxHeartbeats 4000000 in
set_option maxRecDepth 100000 in
/-- fail -/
theorem c_R_fail (D : va_G) (r : Nat → Nat) (cr : Nat → ClassId) (g : Nat → Nat) (cg : Nat → ClassId) (a : Nat → Nat) (ca : Nat → ClassId) (wl : Nat → Nat) (wm : Nat → Nat) (wt : Nat) (nx : Nat) (ap : Nat) (fa : Nat) (pl : Option Nat) (gb : Nat → Nat) (gz : Nat) (kn : Nat → Nat) (nu : Nat → Int64) (wo : Nat → Int64) (si : Nat → Nat) (de : Nat → Nat) (la : Nat → Nat) (le : Nat → Nat) (ro : Nat → Nat) (tm : Nat) (nd : Nat) (f : Nat) (w : Nat) (y1 : fa < 10) : xk_Ct yR_fail cR_fail 3 none { frames := 0, cells := 0, slots := 0, locals := 0 } D (tc_tR cr ++ (tc_tB cg ++ tc_tS ca)) [.ref (r 0), .int (nI f), .int (nI w)] (tc_wR r cr (g 0) (a 0) wl wm wt nx ap fa pl ++ (tc_wB g cg gb gz ++ tc_wS a ca kn nu wo si de la le ro tm nd)) (fun rv ru => (rv = none ∧ ru = tc_wR r cr (g 0) (a 0) wl wm wt nx ap (tc_f1 fa f) (tc_f2 fa pl w) ++ (tc_wB g cg gb gz ++ tc_wS a ca kn nu wo si de la le ro tm nd))) := by
  refine xk_enter (by decide) (Nat.le_of_ble_eq_true rfl) (fun K C T hin => ?_)
  show xk_Go K D 3 0 0 (tc_wR r cr (g 0) (a 0) wl wm wt nx ap fa pl ++ (tc_wB g cg gb gz ++ tc_wS a ca kn nu wo si de la le ro tm nd)) [(0, .ref (r 0)), (1, .int (nI f)), (2, .int (nI w))] 0 []
  refine x_aload_n C dR_fail_0 rfl 0 rfl ?_
  refine x_get C fgR_28 0 rfl rfl dR_fail_1 ?_
  refine x_if_neN (tgt := 17) C (by omega) dR_fail_4 (by decide) (fun h4 => ?_) (fun h4 => ?_)
  ·
    exact x_vret C T rfl dR_fail_17 (⟨rfl, by rw [tc_f1_n h4, tc_f2_n h4]⟩)
  ·
    refine x_aload_n C dR_fail_7 rfl 0 rfl ?_
    refine x_iload_n C dR_fail_8 rfl 1 rfl ?_
    refine x_put C fpR_28 0 (tc_wR r cr (g 0) (a 0) wl wm wt nx ap f pl ++ (tc_wB g cg gb gz ++ tc_wS a ca kn nu wo si de la le ro tm nd)) rfl rfl rfl rfl (Nat.le_of_ble_eq_true rfl) dR_fail_9 ?_
    refine x_aload_n C dR_fail_12 rfl 0 rfl ?_
    refine x_iload_n C dR_fail_13 rfl 2 rfl ?_
    refine x_put C fpR_31 0 (tc_wR r cr (g 0) (a 0) wl wm wt nx ap f (some w) ++ (tc_wB g cg gb gz ++ tc_wS a ca kn nu wo si de la le ro tm nd)) rfl rfl rfl rfl (Nat.le_of_ble_eq_true rfl) dR_fail_14 ?_
    exact x_vret C T rfl dR_fail_17 (⟨rfl, by rw [tc_f1_0 h4, tc_f2_0 h4]⟩)
set_option maxHeartbeats 4000000 in
set_option maxRecDepth 100000 in
/-- takeByte -/
theorem c_R_takeByte (D : va_G) (r : Nat → Nat) (cr : Nat → ClassId) (g : Nat → Nat) (cg : Nat → ClassId) (a : Nat → Nat) (ca : Nat → ClassId) (wl : Nat → Nat) (wm : Nat → Nat) (wt : Nat) (nx : Nat) (ap : Nat) (fa : Nat) (pl : Option Nat) (gb : Nat → Nat) (gz : Nat) (kn : Nat → Nat) (nu : Nat → Int64) (wo : Nat → Int64) (si : Nat → Nat) (de : Nat → Nat) (la : Nat → Nat) (le : Nat → Nat) (ro : Nat → Nat) (tm : Nat) (nd : Nat) (y1 : nx ≤ gz) (y2 : gz ≤ 4096) (y3 : fa < 10) : xk_Ct yR_takeByte cR_takeByte 2 (some .int) { frames := 1, cells := 0, slots := 0, locals := 22 } D (tc_tR cr ++ (tc_tB cg ++ tc_tS ca)) [.ref (r 0)] (tc_wR r cr (g 0) (a 0) wl wm wt nx ap fa pl ++ (tc_wB g cg gb gz ++ tc_wS a ca kn nu wo si de la le ro tm nd)) (fun rv ru => (rv = some (.int (nI 0)) ∧ ru = tc_wR r cr (g 0) (a 0) wl wm wt nx ap (tc_f1 fa 1) (tc_f2 fa pl gz) ++ (tc_wB g cg gb gz ++ tc_wS a ca kn nu wo si de la le ro tm nd) ∧ (gz ≤ nx)) ∨ (rv = some (.int (nI (gb nx % 256))) ∧ ru = tc_wR r cr (g 0) (a 0) wl wm wt (nx + 1) ap fa pl ++ (tc_wB g cg gb gz ++ tc_wS a ca kn nu wo si de la le ro tm nd) ∧ (nx < gz))) := by
  refine xk_enter (by decide) (Nat.le_of_ble_eq_true rfl) (fun K C T hin => ?_)
  show xk_Go K D 2 0 0 (tc_wR r cr (g 0) (a 0) wl wm wt nx ap fa pl ++ (tc_wB g cg gb gz ++ tc_wS a ca kn nu wo si de la le ro tm nd)) [(0, .ref (r 0))] 0 []
  refine x_aload_n C dR_takeByte_0 rfl 0 rfl ?_
  refine x_get C fgR_34 0 rfl rfl dR_takeByte_1 ?_
  refine x_aload_n C dR_takeByte_4 rfl 0 rfl ?_
  refine x_get C fgR_22 0 rfl rfl dR_takeByte_5 ?_
  refine x_callV C (c_B_get D g cg gb gz (nI nx) y2) kbR_117 kcR_117 [3, 4] [0, 1, 2, 5, 6, 7, 8, 9, 10, 11, 12, 13] [2] (tc_wR r cr (g 0) (a 0) wl wm wt nx ap fa pl ++ tc_wS a ca kn nu wo si de la le ro tm nd) rfl rfl (by decide) (by decide) (by decide) rfl 0 rfl rfl ⟨Nat.le_of_ble_eq_true rfl, Nat.le_of_ble_eq_true rfl⟩ ⟨Nat.le_of_ble_eq_true rfl, Nat.le_of_ble_eq_true rfl⟩ [] rfl rfl (Nat.le_of_ble_eq_true rfl) dR_takeByte_8 (fun rv ru hw => ?_)
  rcases hw with ⟨rfl, rfl, g1⟩ | ⟨j, rfl, rfl, g1, g2⟩
  ·
    show xk_Go K D 2 0 0 (tc_wR r cr (g 0) (a 0) wl wm wt nx ap fa pl ++ (tc_wS a ca kn nu wo si de la le ro tm nd ++ tc_wB g cg gb gz)) [(0, .ref (r 0))] 11 [.int (xk_oI none)]
    refine x_perm [0, 1, 2, 12, 13, 3, 4, 5, 6, 7, 8, 9, 10, 11] (w' := tc_wR r cr (g 0) (a 0) wl wm wt nx ap fa pl ++ (tc_wB g cg gb gz ++ tc_wS a ca kn nu wo si de la le ro tm nd)) (by decide) rfl rfl ?_
    have hge : gz ≤ nx := Nat.not_lt.mp (fun q => g1 nx q rfl)
    refine x_istore_n C [(1, .int (xk_oI none)), (0, .ref (r 0))] dR_takeByte_11 rfl (by decide) rfl ?_
    refine x_iload_n C dR_takeByte_12 rfl 0 rfl ?_
    refine x_if_ge (tgt := 30) C dR_takeByte_13 (by decide) (fun h => absurd h (by decide)) (fun _ => ?_)
    refine x_aload_n C dR_takeByte_16 rfl 1 rfl ?_
    refine x_iconst (v := nI 1) C dR_takeByte_17 (by decide) ?_
    refine x_aload_n C dR_takeByte_18 rfl 1 rfl ?_
    refine x_get C fgR_34 0 rfl rfl dR_takeByte_19 ?_
    refine x_get C fgR_42 3 rfl rfl dR_takeByte_22 ?_
    refine x_callV C (c_R_fail D r cr g cg a ca wl wm wt nx ap fa pl gb gz kn nu wo si de la le ro tm nd 1 gz y3) kbR_73 kcR_73 [0, 1, 2, 3, 4, 5, 6, 7, 8, 9, 10, 11, 12, 13] [] [0, 1, 2, 3, 4, 5, 6, 7, 8, 9, 10] ([]) rfl rfl (by decide) (by decide) (by decide) rfl 0 rfl rfl ⟨Nat.le_of_ble_eq_true rfl, Nat.le_of_ble_eq_true rfl⟩ ⟨Nat.le_of_ble_eq_true rfl, Nat.le_of_ble_eq_true rfl⟩ [] rfl rfl (Nat.le_of_ble_eq_true rfl) dR_takeByte_25 (fun rv ru hw => ?_)
    obtain ⟨rfl, rfl⟩ := hw
    show xk_Go K D 2 0 0 (tc_wR r cr (g 0) (a 0) wl wm wt nx ap (tc_f1 fa 1) (tc_f2 fa pl gz) ++ (tc_wB g cg gb gz ++ tc_wS a ca kn nu wo si de la le ro tm nd)) [(1, .int (xk_oI none)), (0, .ref (r 0))] 28 []
    refine x_iconst (v := nI 0) C dR_takeByte_28 (by decide) ?_
    exact x_iret C T .int rfl rfl dR_takeByte_29 (Or.inl (⟨rfl, rfl, hge⟩))
  ·
    show xk_Go K D 2 0 0 (tc_wR r cr (g 0) (a 0) wl wm wt nx ap fa pl ++ (tc_wS a ca kn nu wo si de la le ro tm nd ++ tc_wB g cg gb gz)) [(0, .ref (r 0))] 11 [.int (nI (gb j % 256))]
    refine x_perm [0, 1, 2, 12, 13, 3, 4, 5, 6, 7, 8, 9, 10, 11] (w' := tc_wR r cr (g 0) (a 0) wl wm wt nx ap fa pl ++ (tc_wB g cg gb gz ++ tc_wS a ca kn nu wo si de la le ro tm nd)) (by decide) rfl rfl ?_
    obtain rfl : nx = j := (nI_eq (by omega) (by omega)).mp g1
    refine x_istore_n C [(1, .int (nI (gb nx % 256))), (0, .ref (r 0))] dR_takeByte_11 rfl (by decide) rfl ?_
    refine x_iload_n C dR_takeByte_12 rfl 0 rfl ?_
    refine x_if_geN (tgt := 30) C (by omega) dR_takeByte_13 (by decide) ?_
    refine x_aload_n C dR_takeByte_30 rfl 1 rfl ?_
    refine x_dup C dR_takeByte_31 rfl ?_
    refine x_get C fgR_22 0 rfl rfl dR_takeByte_32 ?_
    refine x_iconst (v := nI 1) C dR_takeByte_35 (by decide) ?_
    refine x_iaddN C dR_takeByte_36 ?_
    refine x_put C fpR_22 0 (tc_wR r cr (g 0) (a 0) wl wm wt (nx + 1) ap fa pl ++ (tc_wB g cg gb gz ++ tc_wS a ca kn nu wo si de la le ro tm nd)) rfl rfl rfl rfl (Nat.le_of_ble_eq_true rfl) dR_takeByte_37 ?_
    refine x_iload_n C dR_takeByte_40 rfl 0 rfl ?_
    exact x_iret C T .int rfl rfl dR_takeByte_41 (Or.inr (⟨rfl, rfl, g2⟩))
set_option maxHeartbeats 4000000 in
set_option maxRecDepth 100000 in
/-- await -/
theorem c_R_await (D : va_G) (r : Nat → Nat) (cr : Nat → ClassId) (g : Nat → Nat) (cg : Nat → ClassId) (a : Nat → Nat) (ca : Nat → ClassId) (wl : Nat → Nat) (wm : Nat → Nat) (wt : Nat) (nx : Nat) (ap : Nat) (fa : Nat) (pl : Option Nat) (gb : Nat → Nat) (gz : Nat) (kn : Nat → Nat) (nu : Nat → Int64) (wo : Nat → Int64) (si : Nat → Nat) (de : Nat → Nat) (la : Nat → Nat) (le : Nat → Nat) (ro : Nat → Nat) (tm : Nat) (nd : Nat) (n : Nat) (l : Nat) (m : Nat) (y1 : wt + n ≤ 61) : xk_Ct yR_await cR_await 5 none { frames := 0, cells := 0, slots := 0, locals := 0 } D (tc_tR cr ++ (tc_tB cg ++ tc_tS ca)) [.ref (r 0), .int (nI n), .int (nI l), .int (nI m)] (tc_wR r cr (g 0) (a 0) wl wm wt nx ap fa pl ++ (tc_wB g cg gb gz ++ tc_wS a ca kn nu wo si de la le ro tm nd)) (fun rv ru => (∃ (wlg : Nat → Nat), ∃ (wmg : Nat → Nat), rv = none ∧ ru = tc_wR r cr (g 0) (a 0) wlg wmg (wt + n) nx ap fa pl ++ (tc_wB g cg gb gz ++ tc_wS a ca kn nu wo si de la le ro tm nd) ∧ (∀ j, j < wt → wlg j = wl j ∧ wmg j = wm j) ∧ (∀ j, wt ≤ j → j < wt + n → wlg j = l ∧ wmg j = m))) := by
  refine xk_enter (by decide) (Nat.le_of_ble_eq_true rfl) (fun K C T hin => ?_)
  show xk_Go K D 5 0 0 (tc_wR r cr (g 0) (a 0) wl wm wt nx ap fa pl ++ (tc_wB g cg gb gz ++ tc_wS a ca kn nu wo si de la le ro tm nd)) [(0, .ref (r 0)), (1, .int (nI n)), (2, .int (nI l)), (3, .int (nI m))] 0 []
  refine x_iconst (v := nI 0) C dR_await_0 (by decide) ?_
  refine x_istore C [(4, .int (nI 0)), (0, .ref (r 0)), (1, .int (nI n)), (2, .int (nI l)), (3, .int (nI m))] dR_await_1 (by decide) rfl ?_
  have lp3 : ∀ (zc : Nat) (q : Nat) (wlg : Nat → Nat) (wmg : Nat → Nat), (n - q) < zc → (q ≤ n) → (∀ j, j < wt → wlg j = wl j ∧ wmg j = wm j) → (∀ j, wt ≤ j → j < wt + q → wlg j = l ∧ wmg j = m) → xk_Go K D 5 0 0 (tc_wR r cr (g 0) (a 0) wlg wmg (wt + q) nx ap fa pl ++ (tc_wB g cg gb gz ++ tc_wS a ca kn nu wo si de la le ro tm nd)) [(0, .ref (r 0)), (1, .int (nI n)), (2, .int (nI l)), (3, .int (nI m)), (4, .int (nI q))] 3 [] := by
    intro zc
    induction zc with
    | zero => intro q wlg wmg hm; exact absurd hm (Nat.not_lt_zero _)
    | succ zc ih3 =>
      intro q wlg wmg hm e1 e2 e3
      refine x_iload C dR_await_3 4 rfl ?_
      refine x_iload_n C dR_await_5 rfl 1 rfl ?_
      refine x_icmp_geN (tgt := 54) C (by omega) (by omega) dR_await_6 (by decide) (fun h6 => ?_) (fun h6 => ?_)
      ·
        have eqn : q = n := by omega
        subst eqn
        exact x_vret C T rfl dR_await_54 (⟨wlg, wmg, rfl, rfl, e2, e3⟩)
      ·
        refine x_aload_n C dR_await_9 rfl 0 rfl ?_
        refine x_get C fgR_18 0 rfl rfl dR_await_10 ?_
        refine x_bipush (v := nI 61) C dR_await_13 (by decide) ?_
        refine x_icmp_geN (tgt := 54) C (by omega) (by decide) dR_await_15 (by decide) (fun h15 => ?_) (fun h15 => ?_)
        ·
          exact absurd h15 (by omega)
        ·
          refine x_aload_n C dR_await_18 rfl 0 rfl ?_
          refine x_get C fgR_11 0 rfl rfl dR_await_19 ?_
          refine x_aload_n C dR_await_22 rfl 0 rfl ?_
          refine x_get C fgR_18 0 rfl rfl dR_await_23 ?_
          refine x_iload_n C dR_await_26 rfl 2 rfl ?_
          refine x_ist C 1 0 (tc_wR r cr (g 0) (a 0) (va_up wlg (wt + q) l) wmg (wt + q) nx ap fa pl ++ (tc_wB g cg gb gz ++ tc_wS a ca kn nu wo si de la le ro tm nd)) rfl rfl (xk_nA_up wlg (wt + q) l) rfl (by omega) (by decide) dR_await_27 ?_
          refine x_aload_n C dR_await_28 rfl 0 rfl ?_
          refine x_get C fgR_15 0 rfl rfl dR_await_29 ?_
          refine x_aload_n C dR_await_32 rfl 0 rfl ?_
          refine x_get C fgR_18 0 rfl rfl dR_await_33 ?_
          refine x_iload_n C dR_await_36 rfl 3 rfl ?_
          refine x_ist C 2 1 (tc_wR r cr (g 0) (a 0) (va_up wlg (wt + q) l) (va_up wmg (wt + q) m) (wt + q) nx ap fa pl ++ (tc_wB g cg gb gz ++ tc_wS a ca kn nu wo si de la le ro tm nd)) rfl rfl (xk_nA_up wmg (wt + q) m) rfl (by omega) (by decide) dR_await_37 ?_
          refine x_aload_n C dR_await_38 rfl 0 rfl ?_
          refine x_dup C dR_await_39 rfl ?_
          refine x_get C fgR_18 0 rfl rfl dR_await_40 ?_
          refine x_iconst (v := nI 1) C dR_await_43 (by decide) ?_
          refine x_iaddN C dR_await_44 ?_
          refine x_put C fpR_18 0 (tc_wR r cr (g 0) (a 0) (va_up wlg (wt + q) l) (va_up wmg (wt + q) m) (wt + q + 1) nx ap fa pl ++ (tc_wB g cg gb gz ++ tc_wS a ca kn nu wo si de la le ro tm nd)) rfl rfl rfl rfl (Nat.le_of_ble_eq_true rfl) dR_await_45 ?_
          refine x_iinc (q := 4) C (nI (q + 1)) [(4, .int (nI (q + 1))), (0, .ref (r 0)), (1, .int (nI n)), (2, .int (nI l)), (3, .int (nI m))] dR_await_48 rfl (nI_add q 1) (by decide) rfl ?_
          refine x_goto C 3 dR_await_51 (by decide) ?_
          exact x_sub [1, 2, 3, 4, 0] rfl (ih3 (q + 1) (va_up wlg (wt + q) l) (va_up wmg (wt + q) m) (by omega) (by omega) (fun j hj => ⟨(va_up_ne _ _ (by omega)).trans (e2 j hj).1, (va_up_ne _ _ (by omega)).trans (e2 j hj).2⟩) (fun j h1 h2 => by rcases Nat.lt_or_ge j (wt + q) with z | z; exact ⟨(va_up_ne _ _ (by omega)).trans (e3 j h1 z).1, (va_up_ne _ _ (by omega)).trans (e3 j h1 z).2⟩; rw [show j = wt + q by omega]; exact ⟨va_up_self _ _ _, va_up_self _ _ _⟩))
  exact x_sub [1, 2, 3, 4, 0] rfl (lp3 _ 0 wl wm (Nat.lt_succ_self _) (Nat.zero_le _) (fun _ _ => ⟨rfl, rfl⟩) (fun j h1 h2 => absurd h2 (by omega)))
