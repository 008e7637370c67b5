set_option maxHeartbeats 4000000 in
set_option maxRecDepth 100000 in
/-- takeNumber -/
theorem c_R_takeNumber (D : va_G) (r : Nat → Nat) (cr : Nat → ClassId) (g : Nat → Nat) (cg : Nat → ClassId) (a : Nat → Nat) (ca : Nat → ClassId) (wl : Nat → Nat) (wm : Nat → Nat) (wt : Nat) (nx : Nat) (ap : Nat) (gb : Nat → Nat) (gz : Nat) (kn : Nat → Nat) (nu : Nat → Int64) (wo : Nat → Int64) (si : Nat → Nat) (de : Nat → Nat) (la : Nat → Nat) (le : Nat → Nat) (ro : Nat → Nat) (tm : Nat) (nd : Nat) (kd : Nat) (y1 : nx ≤ gz) (y2 : gz ≤ 4096) (y4 : 0 < nx) (y5 : kd = 0 ∨ kd = 1 ∨ kd = 2 ∨ kd = 3 ∨ kd = 4 ∨ kd = 5 ∨ kd = 6 ∨ kd = 7 ∨ kd = 8 ∨ kd = 9 ∨ kd = 10 ∨ kd = 11) : xk_Ct yR_takeNumber cR_takeNumber 2 (some .long) { frames := 3, cells := 0, slots := 0, locals := 69 } D (tc_tR cr ++ (tc_tB cg ++ tc_tS ca)) [.ref (r 0), .int (nI kd)] (tc_wR r cr (g 0) (a 0) wl wm wt nx ap 0 none ++ (tc_wB g cg gb gz ++ tc_wS a ca kn nu wo si de la le ro tm nd)) (fun rv ru => (∃ (xv : Int64), ∃ (nw : Nat), rv = some (.long xv) ∧ ru = tc_wR r cr (g 0) (a 0) wl wm wt nw ap 0 none ++ (tc_wB g cg gb gz ++ tc_wS a ca kn nu wo si de la le ro tm nd) ∧ (tc_rV (tc_B gb) gz kd nx = .inr (xv, nw)) ∧ (nx ≤ nw) ∧ (nw ≤ gz)) ∨ (∃ (xv : Int64), ∃ (nw : Nat), ∃ (f : Nat), ∃ (q : Nat), rv = some (.long xv) ∧ ru = tc_wR r cr (g 0) (a 0) wl wm wt nw ap f (some q) ++ (tc_wB g cg gb gz ++ tc_wS a ca kn nu wo si de la le ro tm nd) ∧ (tc_rV (tc_B gb) gz kd nx = .inl (f, q)) ∧ (0 < f ∧ f < 10) ∧ (nx ≤ nw) ∧ (nw ≤ gz))) := by
  refine xk_enter (by decide) (Nat.le_of_ble_eq_true rfl) (fun K C T hin => ?_)
  show xk_Go K D 2 0 0 (tc_wR r cr (g 0) (a 0) wl wm wt nx ap 0 none ++ (tc_wB g cg gb gz ++ tc_wS a ca kn nu wo si de la le ro tm nd)) [(0, .ref (r 0)), (1, .int (nI kd))] 0 []
  refine x_iload_n C dR_takeNumber_0 rfl 1 rfl ?_
  rcases y5 with rfl | rfl | rfl | rfl | rfl | rfl | rfl | rfl | rfl | rfl | rfl | rfl
  ·
    refine x_tblIn C 56 dR_takeNumber_1 (by decide) (by decide) rfl (by decide) ?_
    refine x_aload_n C dR_takeNumber_56 rfl 0 rfl ?_
    refine x_callV C (c_R_takeUnsigned D r cr g cg a ca wl wm wt nx ap gb gz kn nu wo si de la le ro tm nd y1 y2 y4) kbR_99 kcR_99 [0, 1, 2, 3, 4, 5, 6, 7, 8, 9, 10, 11, 12, 13] [] [0, 1, 2, 3, 4, 5, 6, 7, 8, 9, 10] ([]) rfl rfl (by decide) (by decide) (by decide) rfl 0 rfl rfl ⟨Nat.le_of_ble_eq_true rfl, Nat.le_of_ble_eq_true rfl⟩ ⟨Nat.le_of_ble_eq_true rfl, Nat.le_of_ble_eq_true rfl⟩ [] rfl rfl (Nat.le_of_ble_eq_true rfl) dR_takeNumber_57 (fun rv ru hw => ?_)
    rcases hw with ⟨xv, nw, rfl, rfl, g1, g2, g3⟩ | ⟨xv, nw, f, q, rfl, rfl, g1, g2, g3, g4⟩
    ·
      show xk_Go K D 2 0 0 (tc_wR r cr (g 0) (a 0) wl wm wt nw ap 0 none ++ (tc_wB g cg gb gz ++ tc_wS a ca kn nu wo si de la le ro tm nd)) [(0, .ref (r 0)), (1, .int (nI 0))] 60 [.long xv]
      exact x_lret C T rfl dR_takeNumber_60 (Or.inl (⟨_, _, rfl, rfl, g1, g2, g3⟩))
    ·
      show xk_Go K D 2 0 0 (tc_wR r cr (g 0) (a 0) wl wm wt nw ap f (some q) ++ (tc_wB g cg gb gz ++ tc_wS a ca kn nu wo si de la le ro tm nd)) [(0, .ref (r 0)), (1, .int (nI 0))] 60 [.long xv]
      exact x_lret C T rfl dR_takeNumber_60 (Or.inr (⟨_, _, f, q, rfl, rfl, g1, g2, g3, g4⟩))
  ·
    refine x_tblIn C 72 dR_takeNumber_1 (by decide) (by decide) rfl (by decide) ?_
    refine x_lconst (v := 0) C dR_takeNumber_72 (by decide) ?_
    exact x_lret C T rfl dR_takeNumber_73 (Or.inl (⟨_, _, rfl, rfl, rfl, (Nat.le_refl _), y1⟩))
  ·
    refine x_tblIn C 72 dR_takeNumber_1 (by decide) (by decide) rfl (by decide) ?_
    refine x_lconst (v := 0) C dR_takeNumber_72 (by decide) ?_
    exact x_lret C T rfl dR_takeNumber_73 (Or.inl (⟨_, _, rfl, rfl, rfl, (Nat.le_refl _), y1⟩))
  ·
    refine x_tblIn C 72 dR_takeNumber_1 (by decide) (by decide) rfl (by decide) ?_
    refine x_lconst (v := 0) C dR_takeNumber_72 (by decide) ?_
    exact x_lret C T rfl dR_takeNumber_73 (Or.inl (⟨_, _, rfl, rfl, rfl, (Nat.le_refl _), y1⟩))
  ·
    refine x_tblIn C 72 dR_takeNumber_1 (by decide) (by decide) rfl (by decide) ?_
    refine x_lconst (v := 0) C dR_takeNumber_72 (by decide) ?_
    exact x_lret C T rfl dR_takeNumber_73 (Or.inl (⟨_, _, rfl, rfl, rfl, (Nat.le_refl _), y1⟩))
  ·
    refine x_tblIn C 72 dR_takeNumber_1 (by decide) (by decide) rfl (by decide) ?_
    refine x_lconst (v := 0) C dR_takeNumber_72 (by decide) ?_
    exact x_lret C T rfl dR_takeNumber_73 (Or.inl (⟨_, _, rfl, rfl, rfl, (Nat.le_refl _), y1⟩))
  ·
    refine x_tblIn C 66 dR_takeNumber_1 (by decide) (by decide) rfl (by decide) ?_
    refine x_aload_n C dR_takeNumber_66 rfl 0 rfl ?_
    refine x_callV C (c_R_takeByte D r cr g cg a ca wl wm wt nx ap 0 none gb gz kn nu wo si de la le ro tm nd (by omega) y2 (by decide)) kbR_63 kcR_63 [0, 1, 2, 3, 4, 5, 6, 7, 8, 9, 10, 11, 12, 13] [] [0, 1, 2, 3, 4, 5, 6, 7, 8, 9, 10] ([]) rfl rfl (by decide) (by decide) (by decide) rfl 0 rfl rfl ⟨Nat.le_of_ble_eq_true rfl, Nat.le_of_ble_eq_true rfl⟩ ⟨Nat.le_of_ble_eq_true rfl, Nat.le_of_ble_eq_true rfl⟩ [] rfl rfl (Nat.le_of_ble_eq_true rfl) dR_takeNumber_67 (fun rv ru hw => ?_)
    rcases hw with ⟨rfl, rfl, g1t⟩ | ⟨rfl, rfl, g1t⟩
    ·
      show xk_Go K D 2 0 0 (tc_wR r cr (g 0) (a 0) wl wm wt nx ap (tc_f1 0 1) (tc_f2 0 none gz) ++ (tc_wB g cg gb gz ++ tc_wS a ca kn nu wo si de la le ro tm nd)) [(0, .ref (r 0)), (1, .int (nI 6))] 70 [.int (nI 0)]
      show xk_Go K D 2 0 0 (tc_wR r cr (g 0) (a 0) wl wm wt nx ap 1 (some gz) ++ (tc_wB g cg gb gz ++ tc_wS a ca kn nu wo si de la le ro tm nd)) [(0, .ref (r 0)), (1, .int (nI 6))] 70 [.int (nI 0)]
      refine x_i2l (v := 0) C dR_takeNumber_70 (by decide) ?_
      exact x_lret C T rfl dR_takeNumber_71 (Or.inr (⟨_, _, 1, gz, rfl, rfl, (if_pos g1t), (by decide), (Nat.le_refl _), y1⟩))
    ·
      show xk_Go K D 2 0 0 (tc_wR r cr (g 0) (a 0) wl wm wt (nx + 1) ap 0 none ++ (tc_wB g cg gb gz ++ tc_wS a ca kn nu wo si de la le ro tm nd)) [(0, .ref (r 0)), (1, .int (nI 6))] 70 [.int (nI (gb nx % 256))]
      refine x_i2l (v := lN (gb nx % 256)) C dR_takeNumber_70 (nI_l (by omega)) ?_
      exact x_lret C T rfl dR_takeNumber_71 (Or.inl (⟨_, _, rfl, rfl, (if_neg (Nat.not_le.mpr g1t)), (by omega), (by omega)⟩))
  ·
    refine x_tblIn C 61 dR_takeNumber_1 (by decide) (by decide) rfl (by decide) ?_
    refine x_aload_n C dR_takeNumber_61 rfl 0 rfl ?_
    refine x_callV C (c_R_takeSigned D r cr g cg a ca wl wm wt nx ap gb gz kn nu wo si de la le ro tm nd y1 y2 y4) kbR_103 kcR_103 [0, 1, 2, 3, 4, 5, 6, 7, 8, 9, 10, 11, 12, 13] [] [0, 1, 2, 3, 4, 5, 6, 7, 8, 9, 10] ([]) rfl rfl (by decide) (by decide) (by decide) rfl 0 rfl rfl ⟨Nat.le_of_ble_eq_true rfl, Nat.le_of_ble_eq_true rfl⟩ ⟨Nat.le_of_ble_eq_true rfl, Nat.le_of_ble_eq_true rfl⟩ [] rfl rfl (Nat.le_of_ble_eq_true rfl) dR_takeNumber_62 (fun rv ru hw => ?_)
    rcases hw with ⟨xv, nw, rfl, rfl, g1, g2, g3⟩ | ⟨xv, nw, f, q, rfl, rfl, g1, g2, g3, g4⟩
    ·
      show xk_Go K D 2 0 0 (tc_wR r cr (g 0) (a 0) wl wm wt nw ap 0 none ++ (tc_wB g cg gb gz ++ tc_wS a ca kn nu wo si de la le ro tm nd)) [(0, .ref (r 0)), (1, .int (nI 7))] 65 [.long xv]
      exact x_lret C T rfl dR_takeNumber_65 (Or.inl (⟨_, _, rfl, rfl, g1, g2, g3⟩))
    ·
      show xk_Go K D 2 0 0 (tc_wR r cr (g 0) (a 0) wl wm wt nw ap f (some q) ++ (tc_wB g cg gb gz ++ tc_wS a ca kn nu wo si de la le ro tm nd)) [(0, .ref (r 0)), (1, .int (nI 7))] 65 [.long xv]
      exact x_lret C T rfl dR_takeNumber_65 (Or.inr (⟨_, _, f, q, rfl, rfl, g1, g2, g3, g4⟩))
  ·
    refine x_tblIn C 66 dR_takeNumber_1 (by decide) (by decide) rfl (by decide) ?_
    refine x_aload_n C dR_takeNumber_66 rfl 0 rfl ?_
    refine x_callV C (c_R_takeByte D r cr g cg a ca wl wm wt nx ap 0 none gb gz kn nu wo si de la le ro tm nd (by omega) y2 (by decide)) kbR_63 kcR_63 [0, 1, 2, 3, 4, 5, 6, 7, 8, 9, 10, 11, 12, 13] [] [0, 1, 2, 3, 4, 5, 6, 7, 8, 9, 10] ([]) rfl rfl (by decide) (by decide) (by decide) rfl 0 rfl rfl ⟨Nat.le_of_ble_eq_true rfl, Nat.le_of_ble_eq_true rfl⟩ ⟨Nat.le_of_ble_eq_true rfl, Nat.le_of_ble_eq_true rfl⟩ [] rfl rfl (Nat.le_of_ble_eq_true rfl) dR_takeNumber_67 (fun rv ru hw => ?_)
    rcases hw with ⟨rfl, rfl, g1t⟩ | ⟨rfl, rfl, g1t⟩
    ·
      show xk_Go K D 2 0 0 (tc_wR r cr (g 0) (a 0) wl wm wt nx ap (tc_f1 0 1) (tc_f2 0 none gz) ++ (tc_wB g cg gb gz ++ tc_wS a ca kn nu wo si de la le ro tm nd)) [(0, .ref (r 0)), (1, .int (nI 8))] 70 [.int (nI 0)]
      show xk_Go K D 2 0 0 (tc_wR r cr (g 0) (a 0) wl wm wt nx ap 1 (some gz) ++ (tc_wB g cg gb gz ++ tc_wS a ca kn nu wo si de la le ro tm nd)) [(0, .ref (r 0)), (1, .int (nI 8))] 70 [.int (nI 0)]
      refine x_i2l (v := 0) C dR_takeNumber_70 (by decide) ?_
      exact x_lret C T rfl dR_takeNumber_71 (Or.inr (⟨_, _, 1, gz, rfl, rfl, (if_pos g1t), (by decide), (Nat.le_refl _), y1⟩))
    ·
      show xk_Go K D 2 0 0 (tc_wR r cr (g 0) (a 0) wl wm wt (nx + 1) ap 0 none ++ (tc_wB g cg gb gz ++ tc_wS a ca kn nu wo si de la le ro tm nd)) [(0, .ref (r 0)), (1, .int (nI 8))] 70 [.int (nI (gb nx % 256))]
      refine x_i2l (v := lN (gb nx % 256)) C dR_takeNumber_70 (nI_l (by omega)) ?_
      exact x_lret C T rfl dR_takeNumber_71 (Or.inl (⟨_, _, rfl, rfl, (if_neg (Nat.not_le.mpr g1t)), (by omega), (by omega)⟩))
  ·
    refine x_tblIn C 66 dR_takeNumber_1 (by decide) (by decide) rfl (by decide) ?_
    refine x_aload_n C dR_takeNumber_66 rfl 0 rfl ?_
    refine x_callV C (c_R_takeByte D r cr g cg a ca wl wm wt nx ap 0 none gb gz kn nu wo si de la le ro tm nd (by omega) y2 (by decide)) kbR_63 kcR_63 [0, 1, 2, 3, 4, 5, 6, 7, 8, 9, 10, 11, 12, 13] [] [0, 1, 2, 3, 4, 5, 6, 7, 8, 9, 10] ([]) rfl rfl (by decide) (by decide) (by decide) rfl 0 rfl rfl ⟨Nat.le_of_ble_eq_true rfl, Nat.le_of_ble_eq_true rfl⟩ ⟨Nat.le_of_ble_eq_true rfl, Nat.le_of_ble_eq_true rfl⟩ [] rfl rfl (Nat.le_of_ble_eq_true rfl) dR_takeNumber_67 (fun rv ru hw => ?_)
    rcases hw with ⟨rfl, rfl, g1t⟩ | ⟨rfl, rfl, g1t⟩
    ·
      show xk_Go K D 2 0 0 (tc_wR r cr (g 0) (a 0) wl wm wt nx ap (tc_f1 0 1) (tc_f2 0 none gz) ++ (tc_wB g cg gb gz ++ tc_wS a ca kn nu wo si de la le ro tm nd)) [(0, .ref (r 0)), (1, .int (nI 9))] 70 [.int (nI 0)]
      show xk_Go K D 2 0 0 (tc_wR r cr (g 0) (a 0) wl wm wt nx ap 1 (some gz) ++ (tc_wB g cg gb gz ++ tc_wS a ca kn nu wo si de la le ro tm nd)) [(0, .ref (r 0)), (1, .int (nI 9))] 70 [.int (nI 0)]
      refine x_i2l (v := 0) C dR_takeNumber_70 (by decide) ?_
      exact x_lret C T rfl dR_takeNumber_71 (Or.inr (⟨_, _, 1, gz, rfl, rfl, (if_pos g1t), (by decide), (Nat.le_refl _), y1⟩))
    ·
      show xk_Go K D 2 0 0 (tc_wR r cr (g 0) (a 0) wl wm wt (nx + 1) ap 0 none ++ (tc_wB g cg gb gz ++ tc_wS a ca kn nu wo si de la le ro tm nd)) [(0, .ref (r 0)), (1, .int (nI 9))] 70 [.int (nI (gb nx % 256))]
      refine x_i2l (v := lN (gb nx % 256)) C dR_takeNumber_70 (nI_l (by omega)) ?_
      exact x_lret C T rfl dR_takeNumber_71 (Or.inl (⟨_, _, rfl, rfl, (if_neg (Nat.not_le.mpr g1t)), (by omega), (by omega)⟩))
  ·
    refine x_tblOut C 72 dR_takeNumber_1 (by decide) (by decide) ?_
    refine x_lconst (v := 0) C dR_takeNumber_72 (by decide) ?_
    exact x_lret C T rfl dR_takeNumber_73 (Or.inl (⟨_, _, rfl, rfl, rfl, (Nat.le_refl _), y1⟩))
  ·
    refine x_tblOut C 72 dR_takeNumber_1 (by decide) (by decide) ?_
    refine x_lconst (v := 0) C dR_takeNumber_72 (by decide) ?_
    exact x_lret C T rfl dR_takeNumber_73 (Or.inl (⟨_, _, rfl, rfl, rfl, (Nat.le_refl _), y1⟩))
