set_option maxHeartbeats 4000000 in
set_option maxRecDepth 100000 in
/-- takeUnsigned -/
theorem c_R_takeUnsigned (D : va_G) (r : Nat → Nat) (cr : Nat → ClassId) (g : Nat → Nat) (cg : Nat → ClassId) (a : Nat → Nat) (ca : Nat → ClassId) (wl : Nat → Nat) (wm : Nat → Nat) (wt : Nat) (nx : Nat) (ap : Nat) (gb : Nat → Nat) (gz : Nat) (kn : Nat → Nat) (nu : Nat → Int64) (wo : Nat → Int64) (si : Nat → Nat) (de : Nat → Nat) (la : Nat → Nat) (le : Nat → Nat) (ro : Nat → Nat) (tm : Nat) (nd : Nat) (y1 : nx ≤ gz) (y2 : gz ≤ 4096) (y4 : 0 < nx) : xk_Ct yR_takeUnsigned cR_takeUnsigned 5 (some .long) { frames := 2, cells := 0, slots := 0, locals := 43 } D (tc_tR cr ++ (tc_tB cg ++ tc_tS ca)) [.ref (r 0)] (tc_wR r cr (g 0) (a 0) wl wm wt nx ap 0 none ++ (tc_wB g cg gb gz ++ tc_wS a ca kn nu wo si de la le ro tm nd)) (fun rv ru => (∃ (xv : Int64), ∃ (nw : Nat), rv = some (.long xv) ∧ ru = tc_wR r cr (g 0) (a 0) wl wm wt nw ap 0 none ++ (tc_wB g cg gb gz ++ tc_wS a ca kn nu wo si de la le ro tm nd) ∧ (tc_rU (tc_B gb) gz nx = .inr (xv, nw)) ∧ (nx ≤ nw) ∧ (nw ≤ gz)) ∨ (∃ (xv : Int64), ∃ (nw : Nat), ∃ (f : Nat), ∃ (q : Nat), rv = some (.long xv) ∧ ru = tc_wR r cr (g 0) (a 0) wl wm wt nw ap f (some q) ++ (tc_wB g cg gb gz ++ tc_wS a ca kn nu wo si de la le ro tm nd) ∧ (tc_rU (tc_B gb) gz nx = .inl (f, q)) ∧ (0 < f ∧ f < 10) ∧ (nx ≤ nw) ∧ (nw ≤ gz))) := by
  refine xk_enter (by decide) (Nat.le_of_ble_eq_true rfl) (fun K C T hin => ?_)
  show xk_Go K D 5 0 0 (tc_wR r cr (g 0) (a 0) wl wm wt nx ap 0 none ++ (tc_wB g cg gb gz ++ tc_wS a ca kn nu wo si de la le ro tm nd)) [(0, .ref (r 0))] 0 []
  have jn48 : ∀ (w : Nat) (kk : Nat) (b : Nat) (nw : Nat) (fv : Nat) (pv : Option Nat) (bb : Nat) (e : Bool), (tc_scan (tc_B gb) gz 5 nx 0 0 = (w, kk, bb, e)) → ((e = true ∧ fv = 1 ∧ pv = some gz) ∨ (e = false ∧ fv = 0 ∧ pv = none ∧ nw = nx + kk ∧ ((bb = b ∧ b < 128) ∨ (128 ≤ b ∧ bb = 128 ∧ kk = 5)))) → (b < 256 ∧ nx ≤ nw ∧ nw ≤ gz ∧ 0 < kk ∧ kk ≤ 5) → (w < 2 ^ (7 * kk)) → xk_Go K D 5 0 0 (tc_wR r cr (g 0) (a 0) wl wm wt nw ap fv pv ++ (tc_wB g cg gb gz ++ tc_wS a ca kn nu wo si de la le ro tm nd)) [(0, .ref (r 0)), (1, .long (lN w)), (3, .int (nI kk)), (4, .int (nI b))] 48 [] := by
    intro w kk b nw fv pv bb e j1 j2 j3 j5
    obtain ⟨j6, j7, j8, j9, j10⟩ := j3
    refine x_iload C dR_takeUnsigned_48 3 rfl ?_
    rcases j2 with ⟨rfl, rfl, rfl⟩ | ⟨rfl, rfl, rfl, rfl, j4⟩
    ·
      refine x_sipush (v := nI 128) C dR_takeUnsigned_50 (by decide) ?_
      refine x_icmp_geN (tgt := 72) C (by omega) (by decide) dR_takeUnsigned_53 (by decide) (fun h53 => ?_) (fun h53 => ?_)
      ·
        refine x_aload_n C dR_takeUnsigned_72 rfl 0 rfl ?_
        refine x_iconst (v := nI 2) C dR_takeUnsigned_73 (by decide) ?_
        refine x_aload_n C dR_takeUnsigned_74 rfl 0 rfl ?_
        refine x_get C fgR_22 0 rfl rfl dR_takeUnsigned_75 ?_
        refine x_iconst (v := nI 1) C dR_takeUnsigned_78 (by decide) ?_
        refine x_isubN C (by omega) dR_takeUnsigned_79 ?_
        refine x_callV C (c_R_fail D r cr g cg a ca wl wm wt nw ap 1 (some gz) gb gz kn nu wo si de la le ro tm nd 2 (nw - 1) (by decide)) kbR_73 kcR_73 [0, 1, 2, 3, 4, 5, 6, 7, 8, 9, 10, 11, 12, 13] [] [0, 1, 2, 3, 4, 5, 6, 7, 8, 9, 10] ([]) rfl rfl (by decide) (by decide) (by decide) rfl 0 rfl rfl ⟨Nat.le_of_ble_eq_true rfl, Nat.le_of_ble_eq_true rfl⟩ ⟨Nat.le_of_ble_eq_true rfl, Nat.le_of_ble_eq_true rfl⟩ [] rfl rfl (Nat.le_of_ble_eq_true rfl) dR_takeUnsigned_80 (fun rv ru hw => ?_)
        obtain ⟨rfl, rfl⟩ := hw
        show xk_Go K D 5 0 0 (tc_wR r cr (g 0) (a 0) wl wm wt nw ap (tc_f1 1 2) (tc_f2 1 (some gz) (nw - 1)) ++ (tc_wB g cg gb gz ++ tc_wS a ca kn nu wo si de la le ro tm nd)) [(0, .ref (r 0)), (1, .long (lN w)), (3, .int (nI kk)), (4, .int (nI b))] 83 []
        show xk_Go K D 5 0 0 (tc_wR r cr (g 0) (a 0) wl wm wt nw ap 1 (some gz) ++ (tc_wB g cg gb gz ++ tc_wS a ca kn nu wo si de la le ro tm nd)) [(0, .ref (r 0)), (1, .long (lN w)), (3, .int (nI kk)), (4, .int (nI b))] 83 []
        refine x_lload_n C dR_takeUnsigned_83 rfl 1 rfl ?_
        exact x_lret C T rfl dR_takeUnsigned_84 (Or.inr (⟨_, _, 1, gz, rfl, rfl, (tc_rU_e j1), (by decide), j7, j8⟩))
      ·
        have j35 := tc_p35 j5 j10
        refine x_lload_n C dR_takeUnsigned_56 rfl 1 rfl ?_
        refine x_ldc2 (v := 2147483647) C dR_takeUnsigned_57 klR_106 ?_
        refine x_lcmp C dR_takeUnsigned_60 ?_
        refine x_if_gtC (tgt := 72) C dR_takeUnsigned_61 (by decide) (fun h61 => ?_) (fun h61 => ?_)
        ·
          refine x_aload_n C dR_takeUnsigned_72 rfl 0 rfl ?_
          refine x_iconst (v := nI 2) C dR_takeUnsigned_73 (by decide) ?_
          refine x_aload_n C dR_takeUnsigned_74 rfl 0 rfl ?_
          refine x_get C fgR_22 0 rfl rfl dR_takeUnsigned_75 ?_
          refine x_iconst (v := nI 1) C dR_takeUnsigned_78 (by decide) ?_
          refine x_isubN C (by omega) dR_takeUnsigned_79 ?_
          refine x_callV C (c_R_fail D r cr g cg a ca wl wm wt nw ap 1 (some gz) gb gz kn nu wo si de la le ro tm nd 2 (nw - 1) (by decide)) kbR_73 kcR_73 [0, 1, 2, 3, 4, 5, 6, 7, 8, 9, 10, 11, 12, 13] [] [0, 1, 2, 3, 4, 5, 6, 7, 8, 9, 10] ([]) rfl rfl (by decide) (by decide) (by decide) rfl 0 rfl rfl ⟨Nat.le_of_ble_eq_true rfl, Nat.le_of_ble_eq_true rfl⟩ ⟨Nat.le_of_ble_eq_true rfl, Nat.le_of_ble_eq_true rfl⟩ [] rfl rfl (Nat.le_of_ble_eq_true rfl) dR_takeUnsigned_80 (fun rv ru hw => ?_)
          obtain ⟨rfl, rfl⟩ := hw
          show xk_Go K D 5 0 0 (tc_wR r cr (g 0) (a 0) wl wm wt nw ap (tc_f1 1 2) (tc_f2 1 (some gz) (nw - 1)) ++ (tc_wB g cg gb gz ++ tc_wS a ca kn nu wo si de la le ro tm nd)) [(0, .ref (r 0)), (1, .long (lN w)), (3, .int (nI kk)), (4, .int (nI b))] 83 []
          show xk_Go K D 5 0 0 (tc_wR r cr (g 0) (a 0) wl wm wt nw ap 1 (some gz) ++ (tc_wB g cg gb gz ++ tc_wS a ca kn nu wo si de la le ro tm nd)) [(0, .ref (r 0)), (1, .long (lN w)), (3, .int (nI kk)), (4, .int (nI b))] 83 []
          refine x_lload_n C dR_takeUnsigned_83 rfl 1 rfl ?_
          exact x_lret C T rfl dR_takeUnsigned_84 (Or.inr (⟨_, _, 1, gz, rfl, rfl, (tc_rU_e j1), (by decide), j7, j8⟩))
        ·
          refine x_lload_n C dR_takeUnsigned_64 rfl 1 rfl ?_
          refine x_callS C (c_F_unsignedGroups D w (by omega)) kbR_108 kcR_108 [] [0, 1, 2, 3, 4, 5, 6, 7, 8, 9, 10, 11, 12, 13] [] (tc_wR r cr (g 0) (a 0) wl wm wt nw ap 1 (some gz) ++ (tc_wB g cg gb gz ++ tc_wS a ca kn nu wo si de la le ro tm nd)) rfl rfl (by decide) (by decide) (by decide) rfl ⟨Nat.le_of_ble_eq_true rfl, Nat.le_of_ble_eq_true rfl⟩ ⟨Nat.le_of_ble_eq_true rfl, Nat.le_of_ble_eq_true rfl⟩ [] rfl rfl (Nat.le_of_ble_eq_true rfl) dR_takeUnsigned_65 (fun rv ru hw => ?_)
          obtain ⟨rfl, rfl⟩ := hw
          show xk_Go K D 5 0 0 (tc_wR r cr (g 0) (a 0) wl wm wt nw ap 1 (some gz) ++ (tc_wB g cg gb gz ++ tc_wS a ca kn nu wo si de la le ro tm nd)) [(0, .ref (r 0)), (1, .long (lN w)), (3, .int (nI kk)), (4, .int (nI b))] 68 [.int (nI (tc_gU w))]
          have jg := tc_gU_le w
          refine x_iload_n C dR_takeUnsigned_68 rfl 2 rfl ?_
          refine x_icmp_eqN (tgt := 83) C (by omega) (by omega) dR_takeUnsigned_69 (by decide) (fun h69 => ?_) (fun h69 => ?_)
          ·
            refine x_lload_n C dR_takeUnsigned_83 rfl 1 rfl ?_
            exact x_lret C T rfl dR_takeUnsigned_84 (Or.inr (⟨_, _, 1, gz, rfl, rfl, (tc_rU_e j1), (by decide), j7, j8⟩))
          ·
            refine x_aload_n C dR_takeUnsigned_72 rfl 0 rfl ?_
            refine x_iconst (v := nI 2) C dR_takeUnsigned_73 (by decide) ?_
            refine x_aload_n C dR_takeUnsigned_74 rfl 0 rfl ?_
            refine x_get C fgR_22 0 rfl rfl dR_takeUnsigned_75 ?_
            refine x_iconst (v := nI 1) C dR_takeUnsigned_78 (by decide) ?_
            refine x_isubN C (by omega) dR_takeUnsigned_79 ?_
            refine x_callV C (c_R_fail D r cr g cg a ca wl wm wt nw ap 1 (some gz) gb gz kn nu wo si de la le ro tm nd 2 (nw - 1) (by decide)) kbR_73 kcR_73 [0, 1, 2, 3, 4, 5, 6, 7, 8, 9, 10, 11, 12, 13] [] [0, 1, 2, 3, 4, 5, 6, 7, 8, 9, 10] ([]) rfl rfl (by decide) (by decide) (by decide) rfl 0 rfl rfl ⟨Nat.le_of_ble_eq_true rfl, Nat.le_of_ble_eq_true rfl⟩ ⟨Nat.le_of_ble_eq_true rfl, Nat.le_of_ble_eq_true rfl⟩ [] rfl rfl (Nat.le_of_ble_eq_true rfl) dR_takeUnsigned_80 (fun rv ru hw => ?_)
            obtain ⟨rfl, rfl⟩ := hw
            show xk_Go K D 5 0 0 (tc_wR r cr (g 0) (a 0) wl wm wt nw ap (tc_f1 1 2) (tc_f2 1 (some gz) (nw - 1)) ++ (tc_wB g cg gb gz ++ tc_wS a ca kn nu wo si de la le ro tm nd)) [(0, .ref (r 0)), (1, .long (lN w)), (3, .int (nI kk)), (4, .int (nI b))] 83 []
            show xk_Go K D 5 0 0 (tc_wR r cr (g 0) (a 0) wl wm wt nw ap 1 (some gz) ++ (tc_wB g cg gb gz ++ tc_wS a ca kn nu wo si de la le ro tm nd)) [(0, .ref (r 0)), (1, .long (lN w)), (3, .int (nI kk)), (4, .int (nI b))] 83 []
            refine x_lload_n C dR_takeUnsigned_83 rfl 1 rfl ?_
            exact x_lret C T rfl dR_takeUnsigned_84 (Or.inr (⟨_, _, 1, gz, rfl, rfl, (tc_rU_e j1), (by decide), j7, j8⟩))
    ·
      refine x_sipush (v := nI 128) C dR_takeUnsigned_50 (by decide) ?_
      refine x_icmp_geN (tgt := 72) C (by omega) (by decide) dR_takeUnsigned_53 (by decide) (fun h53 => ?_) (fun h53 => ?_)
      ·
        refine x_aload_n C dR_takeUnsigned_72 rfl 0 rfl ?_
        refine x_iconst (v := nI 2) C dR_takeUnsigned_73 (by decide) ?_
        refine x_aload_n C dR_takeUnsigned_74 rfl 0 rfl ?_
        refine x_get C fgR_22 0 rfl rfl dR_takeUnsigned_75 ?_
        refine x_iconst (v := nI 1) C dR_takeUnsigned_78 (by decide) ?_
        refine x_isubN C (by omega) dR_takeUnsigned_79 ?_
        refine x_callV C (c_R_fail D r cr g cg a ca wl wm wt (nx + kk) ap 0 none gb gz kn nu wo si de la le ro tm nd 2 (nx + kk - 1) (by decide)) kbR_73 kcR_73 [0, 1, 2, 3, 4, 5, 6, 7, 8, 9, 10, 11, 12, 13] [] [0, 1, 2, 3, 4, 5, 6, 7, 8, 9, 10] ([]) rfl rfl (by decide) (by decide) (by decide) rfl 0 rfl rfl ⟨Nat.le_of_ble_eq_true rfl, Nat.le_of_ble_eq_true rfl⟩ ⟨Nat.le_of_ble_eq_true rfl, Nat.le_of_ble_eq_true rfl⟩ [] rfl rfl (Nat.le_of_ble_eq_true rfl) dR_takeUnsigned_80 (fun rv ru hw => ?_)
        obtain ⟨rfl, rfl⟩ := hw
        show xk_Go K D 5 0 0 (tc_wR r cr (g 0) (a 0) wl wm wt (nx + kk) ap (tc_f1 0 2) (tc_f2 0 none (nx + kk - 1)) ++ (tc_wB g cg gb gz ++ tc_wS a ca kn nu wo si de la le ro tm nd)) [(0, .ref (r 0)), (1, .long (lN w)), (3, .int (nI kk)), (4, .int (nI b))] 83 []
        show xk_Go K D 5 0 0 (tc_wR r cr (g 0) (a 0) wl wm wt (nx + kk) ap 2 (some (nx + kk - 1)) ++ (tc_wB g cg gb gz ++ tc_wS a ca kn nu wo si de la le ro tm nd)) [(0, .ref (r 0)), (1, .long (lN w)), (3, .int (nI kk)), (4, .int (nI b))] 83 []
        refine x_lload_n C dR_takeUnsigned_83 rfl 1 rfl ?_
        exact x_lret C T rfl dR_takeUnsigned_84 (Or.inr (⟨_, _, 2, (nx + kk - 1), rfl, rfl, (tc_rU_f j1 (by first | exact Or.inl (by omega) | exact Or.inr (Or.inl ((pk_lLT (by decide) (by omega)).mp h61)) | exact Or.inr (Or.inr h69))), (by decide), j7, j8⟩))
      ·
        have j35 := tc_p35 j5 j10
        refine x_lload_n C dR_takeUnsigned_56 rfl 1 rfl ?_
        refine x_ldc2 (v := 2147483647) C dR_takeUnsigned_57 klR_106 ?_
        refine x_lcmp C dR_takeUnsigned_60 ?_
        refine x_if_gtC (tgt := 72) C dR_takeUnsigned_61 (by decide) (fun h61 => ?_) (fun h61 => ?_)
        ·
          refine x_aload_n C dR_takeUnsigned_72 rfl 0 rfl ?_
          refine x_iconst (v := nI 2) C dR_takeUnsigned_73 (by decide) ?_
          refine x_aload_n C dR_takeUnsigned_74 rfl 0 rfl ?_
          refine x_get C fgR_22 0 rfl rfl dR_takeUnsigned_75 ?_
          refine x_iconst (v := nI 1) C dR_takeUnsigned_78 (by decide) ?_
          refine x_isubN C (by omega) dR_takeUnsigned_79 ?_
          refine x_callV C (c_R_fail D r cr g cg a ca wl wm wt (nx + kk) ap 0 none gb gz kn nu wo si de la le ro tm nd 2 (nx + kk - 1) (by decide)) kbR_73 kcR_73 [0, 1, 2, 3, 4, 5, 6, 7, 8, 9, 10, 11, 12, 13] [] [0, 1, 2, 3, 4, 5, 6, 7, 8, 9, 10] ([]) rfl rfl (by decide) (by decide) (by decide) rfl 0 rfl rfl ⟨Nat.le_of_ble_eq_true rfl, Nat.le_of_ble_eq_true rfl⟩ ⟨Nat.le_of_ble_eq_true rfl, Nat.le_of_ble_eq_true rfl⟩ [] rfl rfl (Nat.le_of_ble_eq_true rfl) dR_takeUnsigned_80 (fun rv ru hw => ?_)
          obtain ⟨rfl, rfl⟩ := hw
          show xk_Go K D 5 0 0 (tc_wR r cr (g 0) (a 0) wl wm wt (nx + kk) ap (tc_f1 0 2) (tc_f2 0 none (nx + kk - 1)) ++ (tc_wB g cg gb gz ++ tc_wS a ca kn nu wo si de la le ro tm nd)) [(0, .ref (r 0)), (1, .long (lN w)), (3, .int (nI kk)), (4, .int (nI b))] 83 []
          show xk_Go K D 5 0 0 (tc_wR r cr (g 0) (a 0) wl wm wt (nx + kk) ap 2 (some (nx + kk - 1)) ++ (tc_wB g cg gb gz ++ tc_wS a ca kn nu wo si de la le ro tm nd)) [(0, .ref (r 0)), (1, .long (lN w)), (3, .int (nI kk)), (4, .int (nI b))] 83 []
          refine x_lload_n C dR_takeUnsigned_83 rfl 1 rfl ?_
          exact x_lret C T rfl dR_takeUnsigned_84 (Or.inr (⟨_, _, 2, (nx + kk - 1), rfl, rfl, (tc_rU_f j1 (by first | exact Or.inl (by omega) | exact Or.inr (Or.inl ((pk_lLT (by decide) (by omega)).mp h61)) | exact Or.inr (Or.inr h69))), (by decide), j7, j8⟩))
        ·
          refine x_lload_n C dR_takeUnsigned_64 rfl 1 rfl ?_
          refine x_callS C (c_F_unsignedGroups D w (by omega)) kbR_108 kcR_108 [] [0, 1, 2, 3, 4, 5, 6, 7, 8, 9, 10, 11, 12, 13] [] (tc_wR r cr (g 0) (a 0) wl wm wt (nx + kk) ap 0 none ++ (tc_wB g cg gb gz ++ tc_wS a ca kn nu wo si de la le ro tm nd)) rfl rfl (by decide) (by decide) (by decide) rfl ⟨Nat.le_of_ble_eq_true rfl, Nat.le_of_ble_eq_true rfl⟩ ⟨Nat.le_of_ble_eq_true rfl, Nat.le_of_ble_eq_true rfl⟩ [] rfl rfl (Nat.le_of_ble_eq_true rfl) dR_takeUnsigned_65 (fun rv ru hw => ?_)
          obtain ⟨rfl, rfl⟩ := hw
          show xk_Go K D 5 0 0 (tc_wR r cr (g 0) (a 0) wl wm wt (nx + kk) ap 0 none ++ (tc_wB g cg gb gz ++ tc_wS a ca kn nu wo si de la le ro tm nd)) [(0, .ref (r 0)), (1, .long (lN w)), (3, .int (nI kk)), (4, .int (nI b))] 68 [.int (nI (tc_gU w))]
          have jg := tc_gU_le w
          refine x_iload_n C dR_takeUnsigned_68 rfl 2 rfl ?_
          refine x_icmp_eqN (tgt := 83) C (by omega) (by omega) dR_takeUnsigned_69 (by decide) (fun h69 => ?_) (fun h69 => ?_)
          ·
            refine x_lload_n C dR_takeUnsigned_83 rfl 1 rfl ?_
            exact x_lret C T rfl dR_takeUnsigned_84 (Or.inl (⟨_, _, rfl, rfl, (tc_rU_o j1 (by have z2 : ¬ 2147483647 < w := fun q => h61 ((pk_lLT (by decide) (by omega)).mpr q); omega)), j7, j8⟩))
          ·
            refine x_aload_n C dR_takeUnsigned_72 rfl 0 rfl ?_
            refine x_iconst (v := nI 2) C dR_takeUnsigned_73 (by decide) ?_
            refine x_aload_n C dR_takeUnsigned_74 rfl 0 rfl ?_
            refine x_get C fgR_22 0 rfl rfl dR_takeUnsigned_75 ?_
            refine x_iconst (v := nI 1) C dR_takeUnsigned_78 (by decide) ?_
            refine x_isubN C (by omega) dR_takeUnsigned_79 ?_
            refine x_callV C (c_R_fail D r cr g cg a ca wl wm wt (nx + kk) ap 0 none gb gz kn nu wo si de la le ro tm nd 2 (nx + kk - 1) (by decide)) kbR_73 kcR_73 [0, 1, 2, 3, 4, 5, 6, 7, 8, 9, 10, 11, 12, 13] [] [0, 1, 2, 3, 4, 5, 6, 7, 8, 9, 10] ([]) rfl rfl (by decide) (by decide) (by decide) rfl 0 rfl rfl ⟨Nat.le_of_ble_eq_true rfl, Nat.le_of_ble_eq_true rfl⟩ ⟨Nat.le_of_ble_eq_true rfl, Nat.le_of_ble_eq_true rfl⟩ [] rfl rfl (Nat.le_of_ble_eq_true rfl) dR_takeUnsigned_80 (fun rv ru hw => ?_)
            obtain ⟨rfl, rfl⟩ := hw
            show xk_Go K D 5 0 0 (tc_wR r cr (g 0) (a 0) wl wm wt (nx + kk) ap (tc_f1 0 2) (tc_f2 0 none (nx + kk - 1)) ++ (tc_wB g cg gb gz ++ tc_wS a ca kn nu wo si de la le ro tm nd)) [(0, .ref (r 0)), (1, .long (lN w)), (3, .int (nI kk)), (4, .int (nI b))] 83 []
            show xk_Go K D 5 0 0 (tc_wR r cr (g 0) (a 0) wl wm wt (nx + kk) ap 2 (some (nx + kk - 1)) ++ (tc_wB g cg gb gz ++ tc_wS a ca kn nu wo si de la le ro tm nd)) [(0, .ref (r 0)), (1, .long (lN w)), (3, .int (nI kk)), (4, .int (nI b))] 83 []
            refine x_lload_n C dR_takeUnsigned_83 rfl 1 rfl ?_
            exact x_lret C T rfl dR_takeUnsigned_84 (Or.inr (⟨_, _, 2, (nx + kk - 1), rfl, rfl, (tc_rU_f j1 (by first | exact Or.inl (by omega) | exact Or.inr (Or.inl ((pk_lLT (by decide) (by omega)).mp h61)) | exact Or.inr (Or.inr h69))), (by decide), j7, j8⟩))
  refine x_lconst (v := 0) C dR_takeUnsigned_0 (by decide) ?_
  refine x_lstore_n C [(1, .long 0), (0, .ref (r 0))] dR_takeUnsigned_1 rfl (by decide) rfl ?_
  refine x_iconst (v := nI 0) C dR_takeUnsigned_2 (by decide) ?_
  refine x_istore_n C [(3, .int (nI 0)), (1, .long 0), (0, .ref (r 0))] dR_takeUnsigned_3 rfl (by decide) rfl ?_
  refine x_sipush (v := nI 128) C dR_takeUnsigned_4 (by decide) ?_
  refine x_istore C [(4, .int (nI 128)), (3, .int (nI 0)), (1, .long 0), (0, .ref (r 0))] dR_takeUnsigned_7 (by decide) rfl ?_
  refine x_iload C dR_takeUnsigned_9 0 rfl ?_
  refine x_sipush (v := nI 128) C dR_takeUnsigned_11 (by decide) ?_
  refine x_icmp_lt (tgt := 48) C dR_takeUnsigned_14 (by decide) (fun h => absurd h (by decide)) (fun _ => ?_)
  refine x_iload_n C dR_takeUnsigned_17 rfl 1 rfl ?_
  refine x_iconst (v := nI 5) C dR_takeUnsigned_18 (by decide) ?_
  refine x_icmp_ge (tgt := 48) C dR_takeUnsigned_19 (by decide) (fun h => absurd h (by decide)) (fun _ => ?_)
  have lp22 : ∀ (zc : Nat) (v : Nat) (k : Nat), (5 - k) < zc → (k < 5) → (tc_scan (tc_B gb) gz 5 nx 0 0 = tc_scan (tc_B gb) gz (5 - k) (nx + k) v k) → (v < 2 ^ (7 * k)) → (nx + k ≤ gz) → xk_Go K D 5 0 0 (tc_wR r cr (g 0) (a 0) wl wm wt (nx + k) ap 0 none ++ (tc_wB g cg gb gz ++ tc_wS a ca kn nu wo si de la le ro tm nd)) [(0, .ref (r 0)), (1, .long (lN v)), (3, .int (nI k))] 22 [] := by
    intro zc
    induction zc with
    | zero => intro v k hm; exact absurd hm (Nat.not_lt_zero _)
    | succ zc ih22 =>
      intro v k hm e1 e2 e3 e4
      have hm : 5 - k = (4 - k) + 1 := by omega
      refine x_aload_n C dR_takeUnsigned_22 rfl 0 rfl ?_
      refine x_callV C (c_R_takeByte D r cr g cg a ca wl wm wt (nx + k) ap 0 none gb gz kn nu wo si de la le ro tm nd (by omega) y2 (by decide)) kbR_63 kcR_63 [0, 1, 2, 3, 4, 5, 6, 7, 8, 9, 10, 11, 12, 13] [] [0, 1, 2, 3, 4, 5, 6, 7, 8, 9, 10] ([]) rfl rfl (by decide) (by decide) (by decide) rfl 0 rfl rfl ⟨Nat.le_of_ble_eq_true rfl, Nat.le_of_ble_eq_true rfl⟩ ⟨Nat.le_of_ble_eq_true rfl, Nat.le_of_ble_eq_true rfl⟩ [] rfl rfl (Nat.le_of_ble_eq_true rfl) dR_takeUnsigned_23 (fun rv ru hw => ?_)
      rcases hw with ⟨rfl, rfl, g1t⟩ | ⟨rfl, rfl, g1t⟩
      ·
        show xk_Go K D 5 0 0 (tc_wR r cr (g 0) (a 0) wl wm wt (nx + k) ap (tc_f1 0 1) (tc_f2 0 none gz) ++ (tc_wB g cg gb gz ++ tc_wS a ca kn nu wo si de la le ro tm nd)) [(0, .ref (r 0)), (1, .long (lN v)), (3, .int (nI k))] 26 [.int (nI 0)]
        show xk_Go K D 5 0 0 (tc_wR r cr (g 0) (a 0) wl wm wt (nx + k) ap 1 (some gz) ++ (tc_wB g cg gb gz ++ tc_wS a ca kn nu wo si de la le ro tm nd)) [(0, .ref (r 0)), (1, .long (lN v)), (3, .int (nI k))] 26 [.int (nI 0)]
        refine x_istore C [(4, .int (nI 0)), (0, .ref (r 0)), (1, .long (lN v)), (3, .int (nI k))] dR_takeUnsigned_26 (by decide) rfl ?_
        refine x_lload_n C dR_takeUnsigned_28 rfl 2 rfl ?_
        refine x_iload C dR_takeUnsigned_29 0 rfl ?_
        refine x_bipush (v := nI 127) C dR_takeUnsigned_31 (by decide) ?_
        refine x_iand C dR_takeUnsigned_33 ?_
        refine x_top (y := nI 0) (by decide) ?_
        refine x_i2l (v := 0) C dR_takeUnsigned_34 (by decide) ?_
        refine x_bipush (v := nI 7) C dR_takeUnsigned_35 (by decide) ?_
        refine x_iload_n C dR_takeUnsigned_37 rfl 3 rfl ?_
        refine x_imulN C dR_takeUnsigned_38 ?_
        refine x_lshl (v := 0 <<< ((nI (7 * k)).toInt64 &&& 63)) C dR_takeUnsigned_39 rfl ?_
        refine x_lor C dR_takeUnsigned_40 ?_
        refine x_topl (tc_grp_or (g := 0) (by omega) e3) ?_
        have e3b := tc_grp_lt (g := 0) e3 (by omega)
        refine x_lstore_n C [(1, .long (lN (v + (0) * 2 ^ (7 * k)))), (4, .int (nI 0)), (0, .ref (r 0)), (3, .int (nI k))] dR_takeUnsigned_41 rfl (by decide) rfl ?_
        refine x_iinc (q := 3) C (nI (k + 1)) [(3, .int (nI (k + 1))), (1, .long (lN (v + (0) * 2 ^ (7 * k)))), (4, .int (nI 0)), (0, .ref (r 0))] dR_takeUnsigned_42 rfl (nI_add k 1) (by decide) rfl ?_
        refine x_goto C 9 dR_takeUnsigned_45 (by decide) ?_
        refine x_iload C dR_takeUnsigned_9 2 rfl ?_
        refine x_sipush (v := nI 128) C dR_takeUnsigned_11 (by decide) ?_
        refine x_icmp_lt (tgt := 48) C dR_takeUnsigned_14 (by decide) (fun _ => ?_) (fun h => absurd (by decide) h)
        exact x_sub [3, 1, 0, 2] rfl (jn48 (v + (0) * 2 ^ (7 * k)) (k + 1) 0 (nx + k) 1 (some gz) 0 true (e2.trans (by rw [hm, tc_scan_e g1t]; simp)) (Or.inl ⟨rfl, rfl, rfl⟩) (by omega) e3b)
      ·
        show xk_Go K D 5 0 0 (tc_wR r cr (g 0) (a 0) wl wm wt ((nx + k) + 1) ap 0 none ++ (tc_wB g cg gb gz ++ tc_wS a ca kn nu wo si de la le ro tm nd)) [(0, .ref (r 0)), (1, .long (lN v)), (3, .int (nI k))] 26 [.int (nI (gb (nx + k) % 256))]
        refine x_istore C [(4, .int (nI (gb (nx + k) % 256))), (0, .ref (r 0)), (1, .long (lN v)), (3, .int (nI k))] dR_takeUnsigned_26 (by decide) rfl ?_
        refine x_lload_n C dR_takeUnsigned_28 rfl 2 rfl ?_
        refine x_iload C dR_takeUnsigned_29 0 rfl ?_
        refine x_bipush (v := nI 127) C dR_takeUnsigned_31 (by decide) ?_
        refine x_iand C dR_takeUnsigned_33 ?_
        refine x_top (tc_and127N (by omega)) ?_
        refine x_i2l (v := lN ((gb (nx + k) % 256) % 128)) C dR_takeUnsigned_34 (nI_l (by omega)) ?_
        refine x_bipush (v := nI 7) C dR_takeUnsigned_35 (by decide) ?_
        refine x_iload_n C dR_takeUnsigned_37 rfl 3 rfl ?_
        refine x_imulN C dR_takeUnsigned_38 ?_
        refine x_lshl (v := (lN ((gb (nx + k) % 256) % 128)) <<< ((nI (7 * k)).toInt64 &&& 63)) C dR_takeUnsigned_39 rfl ?_
        refine x_lor C dR_takeUnsigned_40 ?_
        refine x_topl (tc_grp_or (g := (gb (nx + k) % 256) % 128) (by omega) e3) ?_
        have e3b := tc_grp_lt (g := (gb (nx + k) % 256) % 128) e3 (by omega)
        refine x_lstore_n C [(1, .long (lN (v + ((gb (nx + k) % 256) % 128) * 2 ^ (7 * k)))), (4, .int (nI (gb (nx + k) % 256))), (0, .ref (r 0)), (3, .int (nI k))] dR_takeUnsigned_41 rfl (by decide) rfl ?_
        refine x_iinc (q := 3) C (nI (k + 1)) [(3, .int (nI (k + 1))), (1, .long (lN (v + ((gb (nx + k) % 256) % 128) * 2 ^ (7 * k)))), (4, .int (nI (gb (nx + k) % 256))), (0, .ref (r 0))] dR_takeUnsigned_42 rfl (nI_add k 1) (by decide) rfl ?_
        refine x_goto C 9 dR_takeUnsigned_45 (by decide) ?_
        refine x_iload C dR_takeUnsigned_9 2 rfl ?_
        refine x_sipush (v := nI 128) C dR_takeUnsigned_11 (by decide) ?_
        refine x_icmp_ltN (tgt := 48) C (by omega) (by decide) dR_takeUnsigned_14 (by decide) (fun h14 => ?_) (fun h14 => ?_)
        ·
          exact x_sub [3, 1, 0, 2] rfl (jn48 (v + ((gb (nx + k) % 256) % 128) * 2 ^ (7 * k)) (k + 1) (gb (nx + k) % 256) ((nx + k) + 1) 0 none (gb (nx + k) % 256) false (e2.trans (by rw [hm, tc_scan_l (Nat.not_le.mpr g1t) h14]; simp only [tc_B]; rw [Nat.mod_eq_of_lt h14])) (Or.inr ⟨rfl, rfl, rfl, rfl, Or.inl ⟨rfl, h14⟩⟩) (by omega) e3b)
        ·
          refine x_iload_n C dR_takeUnsigned_17 rfl 0 rfl ?_
          refine x_iconst (v := nI 5) C dR_takeUnsigned_18 (by decide) ?_
          refine x_icmp_geN (tgt := 48) C (by omega) (by decide) dR_takeUnsigned_19 (by decide) (fun h19 => ?_) (fun h19 => ?_)
          ·
            exact x_sub [3, 1, 0, 2] rfl (jn48 (v + ((gb (nx + k) % 256) % 128) * 2 ^ (7 * k)) (k + 1) (gb (nx + k) % 256) ((nx + k) + 1) 0 none 128 false (e2.trans (by rw [hm, tc_scan_m (Nat.not_le.mpr g1t) (Nat.not_lt.mpr h14), show 4 - k = 0 by omega]; rfl)) (Or.inr ⟨rfl, rfl, rfl, rfl, Or.inr ⟨h14, rfl, by omega⟩⟩) (by omega) e3b)
          ·
            exact x_sub [3, 1, 0] rfl (ih22 (v + (gb (nx + k) % 256) % 128 * 2 ^ (7 * k)) (k + 1) (by omega) (by omega) (e2.trans (by rw [hm, tc_scan_m (Nat.not_le.mpr g1t) (Nat.not_lt.mpr h14), show 5 - (k + 1) = 4 - k by omega]; rfl)) e3b (by omega))
  exact x_sub [3, 2, 1] rfl (lp22 _ 0 0 (Nat.lt_succ_self _) (by decide) rfl (by decide) (by omega))
