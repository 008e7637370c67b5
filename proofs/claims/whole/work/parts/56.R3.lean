set_option maxHeartbeats 4000000 in
set_option maxRecDepth 100000 in
/-- takeSigned -/
theorem c_R_takeSigned (D : va_G) (r : Nat → Nat) (cr : Nat → ClassId) (g : Nat → Nat) (cg : Nat → ClassId) (a : Nat → Nat) (ca : Nat → ClassId) (wl : Nat → Nat) (wm : Nat → Nat) (wt : Nat) (nx : Nat) (ap : Nat) (gb : Nat → Nat) (gz : Nat) (kn : Nat → Nat) (nu : Nat → Int64) (wo : Nat → Int64) (si : Nat → Nat) (de : Nat → Nat) (la : Nat → Nat) (le : Nat → Nat) (ro : Nat → Nat) (tm : Nat) (nd : Nat) (y1 : nx ≤ gz) (y2 : gz ≤ 4096) (y4 : 0 < nx) : xk_Ct yR_takeSigned cR_takeSigned 7 (some .long) { frames := 2, cells := 0, slots := 0, locals := 43 } D (tc_tR cr ++ (tc_tB cg ++ tc_tS ca)) [.ref (r 0)] (tc_wR r cr (g 0) (a 0) wl wm wt nx ap 0 none ++ (tc_wB g cg gb gz ++ tc_wS a ca kn nu wo si de la le ro tm nd)) (fun rv ru => (∃ (xv : Int64), ∃ (nw : Nat), rv = some (.long xv) ∧ ru = tc_wR r cr (g 0) (a 0) wl wm wt nw ap 0 none ++ (tc_wB g cg gb gz ++ tc_wS a ca kn nu wo si de la le ro tm nd) ∧ (tc_rS (tc_B gb) gz nx = .inr (xv, nw)) ∧ (nx ≤ nw) ∧ (nw ≤ gz)) ∨ (∃ (xv : Int64), ∃ (nw : Nat), ∃ (f : Nat), ∃ (q : Nat), rv = some (.long xv) ∧ ru = tc_wR r cr (g 0) (a 0) wl wm wt nw ap f (some q) ++ (tc_wB g cg gb gz ++ tc_wS a ca kn nu wo si de la le ro tm nd) ∧ (tc_rS (tc_B gb) gz nx = .inl (f, q)) ∧ (0 < f ∧ f < 10) ∧ (nx ≤ nw) ∧ (nw ≤ gz))) := by
  refine xk_enter (by decide) (Nat.le_of_ble_eq_true rfl) (fun K C T hin => ?_)
  show xk_Go K D 7 0 0 (tc_wR r cr (g 0) (a 0) wl wm wt nx ap 0 none ++ (tc_wB g cg gb gz ++ tc_wS a ca kn nu wo si de la le ro tm nd)) [(0, .ref (r 0))] 0 []
  have jn49 : ∀ (w : Nat) (kk : Nat) (b : Nat) (nw : Nat) (fv : Nat) (pv : Option Nat) (bb : Nat) (e : Bool), (tc_scan (tc_B gb) gz 10 nx 0 0 = (w, kk, bb, e)) → ((e = true ∧ fv = 1 ∧ pv = some gz) ∨ (e = false ∧ fv = 0 ∧ pv = none ∧ nw = nx + kk ∧ ((bb = b ∧ b < 128) ∨ (128 ≤ b ∧ bb = 128 ∧ kk = 10)))) → (b < 256 ∧ nx ≤ nw ∧ nw ≤ gz ∧ 0 < kk ∧ kk ≤ 10) → (w < 2 ^ (7 * kk)) → xk_Go K D 7 0 0 (tc_wR r cr (g 0) (a 0) wl wm wt nw ap fv pv ++ (tc_wB g cg gb gz ++ tc_wS a ca kn nu wo si de la le ro tm nd)) [(0, .ref (r 0)), (1, .long (lN w)), (3, .int (nI kk)), (4, .int (nI b))] 49 [] := by
    intro w kk b nw fv pv bb e j1 j2 j3 j5
    obtain ⟨j6, j7, j8, j9, j10⟩ := j3
    refine x_iload_n C dR_takeSigned_49 rfl 2 rfl ?_
    rcases j2 with ⟨rfl, rfl, rfl⟩ | ⟨rfl, rfl, rfl, rfl, j4⟩
    ·
      refine x_bipush (v := nI 10) C dR_takeSigned_50 (by decide) ?_
      refine x_icmp_neN (tgt := 59) C (by omega) (by decide) dR_takeSigned_52 (by decide) (fun h52 => ?_) (fun h52 => ?_)
      ·
        refine x_iconst (v := nI 0) C dR_takeSigned_59 (by decide) ?_
        refine x_istore C [(5, .int (nI 0)), (0, .ref (r 0)), (1, .long (lN w)), (3, .int (nI kk)), (4, .int (nI b))] dR_takeSigned_60 (by decide) rfl ?_
        refine x_iload C dR_takeSigned_62 0 rfl ?_
        refine x_if_ne (tgt := 86) C dR_takeSigned_64 (by decide) (fun h => absurd (by decide) h) (fun _ => ?_)
        refine x_iload C dR_takeSigned_67 4 rfl ?_
        refine x_bipush (v := nI 64) C dR_takeSigned_69 (by decide) ?_
        refine x_iand C dR_takeSigned_71 ?_
        refine x_if_eq (tgt := 86) C dR_takeSigned_72 (by decide) (fun h72 => ?_) (fun h72 => ?_)
        ·
          refine x_iload C dR_takeSigned_86 0 rfl ?_
          refine x_if_eq (tgt := 103) C dR_takeSigned_88 (by decide) (fun _ => ?_) (fun h => absurd (by decide) h)
          refine x_iconst (v := nI 1) C dR_takeSigned_103 (by decide) ?_
          refine x_goto C 108 dR_takeSigned_104 (by decide) ?_
          refine x_istore C [(6, .int (nI 1)), (5, .int (nI 0)), (0, .ref (r 0)), (1, .long (lN w)), (3, .int (nI kk)), (4, .int (nI b))] dR_takeSigned_108 (by decide) rfl ?_
          refine x_iload C dR_takeSigned_110 0 rfl ?_
          refine x_if_eq (tgt := 123) C dR_takeSigned_112 (by decide) (fun h => absurd h (by decide)) (fun _ => ?_)
          refine x_lload_n C dR_takeSigned_115 rfl 3 rfl ?_
          refine x_callS C (c_F_signedGroups D (lN w)) kbR_114 kcR_114 [] [0, 1, 2, 3, 4, 5, 6, 7, 8, 9, 10, 11, 12, 13] [] (tc_wR r cr (g 0) (a 0) wl wm wt nw ap 1 (some gz) ++ (tc_wB g cg gb gz ++ tc_wS a ca kn nu wo si de la le ro tm nd)) rfl rfl (by decide) (by decide) (by decide) rfl ⟨Nat.le_of_ble_eq_true rfl, Nat.le_of_ble_eq_true rfl⟩ ⟨Nat.le_of_ble_eq_true rfl, Nat.le_of_ble_eq_true rfl⟩ [] rfl rfl (Nat.le_of_ble_eq_true rfl) dR_takeSigned_116 (fun rv ru hw => ?_)
          obtain ⟨rfl, rfl⟩ := hw
          show xk_Go K D 7 0 0 (tc_wR r cr (g 0) (a 0) wl wm wt nw ap 1 (some gz) ++ (tc_wB g cg gb gz ++ tc_wS a ca kn nu wo si de la le ro tm nd)) [(6, .int (nI 1)), (5, .int (nI 0)), (0, .ref (r 0)), (1, .long (lN w)), (3, .int (nI kk)), (4, .int (nI b))] 119 [.int (nI (tc_gS (lN w).toInt))]
          refine x_iload_n C dR_takeSigned_119 rfl 4 rfl ?_
          refine x_icmp_eqN (tgt := 134) C (Nat.lt_of_le_of_lt (tc_gS_le _) (by decide)) (by omega) dR_takeSigned_120 (by decide) (fun h120 => ?_) (fun h120 => ?_)
          ·
            refine x_lload_n C dR_takeSigned_134 rfl 3 rfl ?_
            exact x_lret C T rfl dR_takeSigned_135 (Or.inr (⟨_, _, 1, gz, rfl, rfl, (tc_rS_e j1), (by decide), j7, j8⟩))
          ·
            refine x_aload_n C dR_takeSigned_123 rfl 2 rfl ?_
            refine x_iconst (v := nI 2) C dR_takeSigned_124 (by decide) ?_
            refine x_aload_n C dR_takeSigned_125 rfl 2 rfl ?_
            refine x_get C fgR_22 0 rfl rfl dR_takeSigned_126 ?_
            refine x_iconst (v := nI 1) C dR_takeSigned_129 (by decide) ?_
            refine x_isubN C (by omega) dR_takeSigned_130 ?_
            refine x_callV C (c_R_fail D r cr g cg a ca wl wm wt nw ap 1 (some gz) gb gz kn nu wo si de la le ro tm nd 2 (nw - 1) (by decide)) kbR_73 kcR_73 [0, 1, 2, 3, 4, 5, 6, 7, 8, 9, 10, 11, 12, 13] [] [0, 1, 2, 3, 4, 5, 6, 7, 8, 9, 10] ([]) rfl rfl (by decide) (by decide) (by decide) rfl 0 rfl rfl ⟨Nat.le_of_ble_eq_true rfl, Nat.le_of_ble_eq_true rfl⟩ ⟨Nat.le_of_ble_eq_true rfl, Nat.le_of_ble_eq_true rfl⟩ [] rfl rfl (Nat.le_of_ble_eq_true rfl) dR_takeSigned_131 (fun rv ru hw => ?_)
            obtain ⟨rfl, rfl⟩ := hw
            show xk_Go K D 7 0 0 (tc_wR r cr (g 0) (a 0) wl wm wt nw ap (tc_f1 1 2) (tc_f2 1 (some gz) (nw - 1)) ++ (tc_wB g cg gb gz ++ tc_wS a ca kn nu wo si de la le ro tm nd)) [(6, .int (nI 1)), (5, .int (nI 0)), (0, .ref (r 0)), (1, .long (lN w)), (3, .int (nI kk)), (4, .int (nI b))] 134 []
            show xk_Go K D 7 0 0 (tc_wR r cr (g 0) (a 0) wl wm wt nw ap 1 (some gz) ++ (tc_wB g cg gb gz ++ tc_wS a ca kn nu wo si de la le ro tm nd)) [(6, .int (nI 1)), (5, .int (nI 0)), (0, .ref (r 0)), (1, .long (lN w)), (3, .int (nI kk)), (4, .int (nI b))] 134 []
            refine x_lload_n C dR_takeSigned_134 rfl 3 rfl ?_
            exact x_lret C T rfl dR_takeSigned_135 (Or.inr (⟨_, _, 1, gz, rfl, rfl, (tc_rS_e j1), (by decide), j7, j8⟩))
        ·
          refine x_lload_n C dR_takeSigned_75 rfl 2 rfl ?_
          refine x_ldc2 (v := (-1)) C dR_takeSigned_76 klR_112 ?_
          refine x_bipush (v := nI 7) C dR_takeSigned_79 (by decide) ?_
          refine x_iload_n C dR_takeSigned_81 rfl 3 rfl ?_
          refine x_imulN C dR_takeSigned_82 ?_
          refine x_lshl (v := (-1) <<< ((nI (7 * kk)).toInt64 &&& 63)) C dR_takeSigned_83 rfl ?_
          refine x_lor C dR_takeSigned_84 ?_
          refine x_lstore_n C [(1, .long ((lN w) ||| ((-1) <<< ((nI (7 * kk)).toInt64 &&& 63)))), (5, .int (nI 0)), (0, .ref (r 0)), (3, .int (nI kk)), (4, .int (nI b))] dR_takeSigned_85 rfl (by decide) rfl ?_
          refine x_iload C dR_takeSigned_86 1 rfl ?_
          refine x_if_eq (tgt := 103) C dR_takeSigned_88 (by decide) (fun _ => ?_) (fun h => absurd (by decide) h)
          refine x_iconst (v := nI 1) C dR_takeSigned_103 (by decide) ?_
          refine x_goto C 108 dR_takeSigned_104 (by decide) ?_
          refine x_istore C [(6, .int (nI 1)), (1, .long ((lN w) ||| ((-1) <<< ((nI (7 * kk)).toInt64 &&& 63)))), (5, .int (nI 0)), (0, .ref (r 0)), (3, .int (nI kk)), (4, .int (nI b))] dR_takeSigned_108 (by decide) rfl ?_
          refine x_iload C dR_takeSigned_110 0 rfl ?_
          refine x_if_eq (tgt := 123) C dR_takeSigned_112 (by decide) (fun h => absurd h (by decide)) (fun _ => ?_)
          refine x_lload_n C dR_takeSigned_115 rfl 1 rfl ?_
          refine x_callS C (c_F_signedGroups D ((lN w) ||| ((-1) <<< ((nI (7 * kk)).toInt64 &&& 63)))) kbR_114 kcR_114 [] [0, 1, 2, 3, 4, 5, 6, 7, 8, 9, 10, 11, 12, 13] [] (tc_wR r cr (g 0) (a 0) wl wm wt nw ap 1 (some gz) ++ (tc_wB g cg gb gz ++ tc_wS a ca kn nu wo si de la le ro tm nd)) rfl rfl (by decide) (by decide) (by decide) rfl ⟨Nat.le_of_ble_eq_true rfl, Nat.le_of_ble_eq_true rfl⟩ ⟨Nat.le_of_ble_eq_true rfl, Nat.le_of_ble_eq_true rfl⟩ [] rfl rfl (Nat.le_of_ble_eq_true rfl) dR_takeSigned_116 (fun rv ru hw => ?_)
          obtain ⟨rfl, rfl⟩ := hw
          show xk_Go K D 7 0 0 (tc_wR r cr (g 0) (a 0) wl wm wt nw ap 1 (some gz) ++ (tc_wB g cg gb gz ++ tc_wS a ca kn nu wo si de la le ro tm nd)) [(6, .int (nI 1)), (1, .long ((lN w) ||| ((-1) <<< ((nI (7 * kk)).toInt64 &&& 63)))), (5, .int (nI 0)), (0, .ref (r 0)), (3, .int (nI kk)), (4, .int (nI b))] 119 [.int (nI (tc_gS ((lN w) ||| ((-1) <<< ((nI (7 * kk)).toInt64 &&& 63))).toInt))]
          refine x_iload_n C dR_takeSigned_119 rfl 4 rfl ?_
          refine x_icmp_eqN (tgt := 134) C (Nat.lt_of_le_of_lt (tc_gS_le _) (by decide)) (by omega) dR_takeSigned_120 (by decide) (fun h120 => ?_) (fun h120 => ?_)
          ·
            refine x_lload_n C dR_takeSigned_134 rfl 1 rfl ?_
            exact x_lret C T rfl dR_takeSigned_135 (Or.inr (⟨_, _, 1, gz, rfl, rfl, (tc_rS_e j1), (by decide), j7, j8⟩))
          ·
            refine x_aload_n C dR_takeSigned_123 rfl 3 rfl ?_
            refine x_iconst (v := nI 2) C dR_takeSigned_124 (by decide) ?_
            refine x_aload_n C dR_takeSigned_125 rfl 3 rfl ?_
            refine x_get C fgR_22 0 rfl rfl dR_takeSigned_126 ?_
            refine x_iconst (v := nI 1) C dR_takeSigned_129 (by decide) ?_
            refine x_isubN C (by omega) dR_takeSigned_130 ?_
            refine x_callV C (c_R_fail D r cr g cg a ca wl wm wt nw ap 1 (some gz) gb gz kn nu wo si de la le ro tm nd 2 (nw - 1) (by decide)) kbR_73 kcR_73 [0, 1, 2, 3, 4, 5, 6, 7, 8, 9, 10, 11, 12, 13] [] [0, 1, 2, 3, 4, 5, 6, 7, 8, 9, 10] ([]) rfl rfl (by decide) (by decide) (by decide) rfl 0 rfl rfl ⟨Nat.le_of_ble_eq_true rfl, Nat.le_of_ble_eq_true rfl⟩ ⟨Nat.le_of_ble_eq_true rfl, Nat.le_of_ble_eq_true rfl⟩ [] rfl rfl (Nat.le_of_ble_eq_true rfl) dR_takeSigned_131 (fun rv ru hw => ?_)
            obtain ⟨rfl, rfl⟩ := hw
            show xk_Go K D 7 0 0 (tc_wR r cr (g 0) (a 0) wl wm wt nw ap (tc_f1 1 2) (tc_f2 1 (some gz) (nw - 1)) ++ (tc_wB g cg gb gz ++ tc_wS a ca kn nu wo si de la le ro tm nd)) [(6, .int (nI 1)), (1, .long ((lN w) ||| ((-1) <<< ((nI (7 * kk)).toInt64 &&& 63)))), (5, .int (nI 0)), (0, .ref (r 0)), (3, .int (nI kk)), (4, .int (nI b))] 134 []
            show xk_Go K D 7 0 0 (tc_wR r cr (g 0) (a 0) wl wm wt nw ap 1 (some gz) ++ (tc_wB g cg gb gz ++ tc_wS a ca kn nu wo si de la le ro tm nd)) [(6, .int (nI 1)), (1, .long ((lN w) ||| ((-1) <<< ((nI (7 * kk)).toInt64 &&& 63)))), (5, .int (nI 0)), (0, .ref (r 0)), (3, .int (nI kk)), (4, .int (nI b))] 134 []
            refine x_lload_n C dR_takeSigned_134 rfl 1 rfl ?_
            exact x_lret C T rfl dR_takeSigned_135 (Or.inr (⟨_, _, 1, gz, rfl, rfl, (tc_rS_e j1), (by decide), j7, j8⟩))
      ·
        refine x_iconst (v := nI 1) C dR_takeSigned_55 (by decide) ?_
        refine x_goto C 60 dR_takeSigned_56 (by decide) ?_
        refine x_istore C [(5, .int (nI 1)), (0, .ref (r 0)), (1, .long (lN w)), (3, .int (nI kk)), (4, .int (nI b))] dR_takeSigned_60 (by decide) rfl ?_
        refine x_iload C dR_takeSigned_62 0 rfl ?_
        refine x_if_ne (tgt := 86) C dR_takeSigned_64 (by decide) (fun _ => ?_) (fun h => absurd h (by decide))
        refine x_iload C dR_takeSigned_86 0 rfl ?_
        refine x_if_eq (tgt := 103) C dR_takeSigned_88 (by decide) (fun h => absurd h (by decide)) (fun _ => ?_)
        refine x_iload C dR_takeSigned_91 4 rfl ?_
        refine x_if_eqN (tgt := 103) C (by omega) dR_takeSigned_93 (by decide) (fun h93 => ?_) (fun h93 => ?_)
        ·
          refine x_iconst (v := nI 1) C dR_takeSigned_103 (by decide) ?_
          refine x_goto C 108 dR_takeSigned_104 (by decide) ?_
          refine x_istore C [(6, .int (nI 1)), (5, .int (nI 1)), (0, .ref (r 0)), (1, .long (lN w)), (3, .int (nI kk)), (4, .int (nI b))] dR_takeSigned_108 (by decide) rfl ?_
          refine x_iload C dR_takeSigned_110 0 rfl ?_
          refine x_if_eq (tgt := 123) C dR_takeSigned_112 (by decide) (fun h => absurd h (by decide)) (fun _ => ?_)
          refine x_lload_n C dR_takeSigned_115 rfl 3 rfl ?_
          refine x_callS C (c_F_signedGroups D (lN w)) kbR_114 kcR_114 [] [0, 1, 2, 3, 4, 5, 6, 7, 8, 9, 10, 11, 12, 13] [] (tc_wR r cr (g 0) (a 0) wl wm wt nw ap 1 (some gz) ++ (tc_wB g cg gb gz ++ tc_wS a ca kn nu wo si de la le ro tm nd)) rfl rfl (by decide) (by decide) (by decide) rfl ⟨Nat.le_of_ble_eq_true rfl, Nat.le_of_ble_eq_true rfl⟩ ⟨Nat.le_of_ble_eq_true rfl, Nat.le_of_ble_eq_true rfl⟩ [] rfl rfl (Nat.le_of_ble_eq_true rfl) dR_takeSigned_116 (fun rv ru hw => ?_)
          obtain ⟨rfl, rfl⟩ := hw
          show xk_Go K D 7 0 0 (tc_wR r cr (g 0) (a 0) wl wm wt nw ap 1 (some gz) ++ (tc_wB g cg gb gz ++ tc_wS a ca kn nu wo si de la le ro tm nd)) [(6, .int (nI 1)), (5, .int (nI 1)), (0, .ref (r 0)), (1, .long (lN w)), (3, .int (nI kk)), (4, .int (nI b))] 119 [.int (nI (tc_gS (lN w).toInt))]
          refine x_iload_n C dR_takeSigned_119 rfl 4 rfl ?_
          refine x_icmp_eqN (tgt := 134) C (Nat.lt_of_le_of_lt (tc_gS_le _) (by decide)) (by omega) dR_takeSigned_120 (by decide) (fun h120 => ?_) (fun h120 => ?_)
          ·
            refine x_lload_n C dR_takeSigned_134 rfl 3 rfl ?_
            exact x_lret C T rfl dR_takeSigned_135 (Or.inr (⟨_, _, 1, gz, rfl, rfl, (tc_rS_e j1), (by decide), j7, j8⟩))
          ·
            refine x_aload_n C dR_takeSigned_123 rfl 2 rfl ?_
            refine x_iconst (v := nI 2) C dR_takeSigned_124 (by decide) ?_
            refine x_aload_n C dR_takeSigned_125 rfl 2 rfl ?_
            refine x_get C fgR_22 0 rfl rfl dR_takeSigned_126 ?_
            refine x_iconst (v := nI 1) C dR_takeSigned_129 (by decide) ?_
            refine x_isubN C (by omega) dR_takeSigned_130 ?_
            refine x_callV C (c_R_fail D r cr g cg a ca wl wm wt nw ap 1 (some gz) gb gz kn nu wo si de la le ro tm nd 2 (nw - 1) (by decide)) kbR_73 kcR_73 [0, 1, 2, 3, 4, 5, 6, 7, 8, 9, 10, 11, 12, 13] [] [0, 1, 2, 3, 4, 5, 6, 7, 8, 9, 10] ([]) rfl rfl (by decide) (by decide) (by decide) rfl 0 rfl rfl ⟨Nat.le_of_ble_eq_true rfl, Nat.le_of_ble_eq_true rfl⟩ ⟨Nat.le_of_ble_eq_true rfl, Nat.le_of_ble_eq_true rfl⟩ [] rfl rfl (Nat.le_of_ble_eq_true rfl) dR_takeSigned_131 (fun rv ru hw => ?_)
            obtain ⟨rfl, rfl⟩ := hw
            show xk_Go K D 7 0 0 (tc_wR r cr (g 0) (a 0) wl wm wt nw ap (tc_f1 1 2) (tc_f2 1 (some gz) (nw - 1)) ++ (tc_wB g cg gb gz ++ tc_wS a ca kn nu wo si de la le ro tm nd)) [(6, .int (nI 1)), (5, .int (nI 1)), (0, .ref (r 0)), (1, .long (lN w)), (3, .int (nI kk)), (4, .int (nI b))] 134 []
            show xk_Go K D 7 0 0 (tc_wR r cr (g 0) (a 0) wl wm wt nw ap 1 (some gz) ++ (tc_wB g cg gb gz ++ tc_wS a ca kn nu wo si de la le ro tm nd)) [(6, .int (nI 1)), (5, .int (nI 1)), (0, .ref (r 0)), (1, .long (lN w)), (3, .int (nI kk)), (4, .int (nI b))] 134 []
            refine x_lload_n C dR_takeSigned_134 rfl 3 rfl ?_
            exact x_lret C T rfl dR_takeSigned_135 (Or.inr (⟨_, _, 1, gz, rfl, rfl, (tc_rS_e j1), (by decide), j7, j8⟩))
        ·
          refine x_iload C dR_takeSigned_96 4 rfl ?_
          refine x_bipush (v := nI 127) C dR_takeSigned_98 (by decide) ?_
          refine x_icmp_neN (tgt := 107) C (by omega) (by decide) dR_takeSigned_100 (by decide) (fun h100 => ?_) (fun h100 => ?_)
          ·
            refine x_iconst (v := nI 0) C dR_takeSigned_107 (by decide) ?_
            refine x_istore C [(6, .int (nI 0)), (5, .int (nI 1)), (0, .ref (r 0)), (1, .long (lN w)), (3, .int (nI kk)), (4, .int (nI b))] dR_takeSigned_108 (by decide) rfl ?_
            refine x_iload C dR_takeSigned_110 0 rfl ?_
            refine x_if_eq (tgt := 123) C dR_takeSigned_112 (by decide) (fun _ => ?_) (fun h => absurd (by decide) h)
            refine x_aload_n C dR_takeSigned_123 rfl 2 rfl ?_
            refine x_iconst (v := nI 2) C dR_takeSigned_124 (by decide) ?_
            refine x_aload_n C dR_takeSigned_125 rfl 2 rfl ?_
            refine x_get C fgR_22 0 rfl rfl dR_takeSigned_126 ?_
            refine x_iconst (v := nI 1) C dR_takeSigned_129 (by decide) ?_
            refine x_isubN C (by omega) dR_takeSigned_130 ?_
            refine x_callV C (c_R_fail D r cr g cg a ca wl wm wt nw ap 1 (some gz) gb gz kn nu wo si de la le ro tm nd 2 (nw - 1) (by decide)) kbR_73 kcR_73 [0, 1, 2, 3, 4, 5, 6, 7, 8, 9, 10, 11, 12, 13] [] [0, 1, 2, 3, 4, 5, 6, 7, 8, 9, 10] ([]) rfl rfl (by decide) (by decide) (by decide) rfl 0 rfl rfl ⟨Nat.le_of_ble_eq_true rfl, Nat.le_of_ble_eq_true rfl⟩ ⟨Nat.le_of_ble_eq_true rfl, Nat.le_of_ble_eq_true rfl⟩ [] rfl rfl (Nat.le_of_ble_eq_true rfl) dR_takeSigned_131 (fun rv ru hw => ?_)
            obtain ⟨rfl, rfl⟩ := hw
            show xk_Go K D 7 0 0 (tc_wR r cr (g 0) (a 0) wl wm wt nw ap (tc_f1 1 2) (tc_f2 1 (some gz) (nw - 1)) ++ (tc_wB g cg gb gz ++ tc_wS a ca kn nu wo si de la le ro tm nd)) [(6, .int (nI 0)), (5, .int (nI 1)), (0, .ref (r 0)), (1, .long (lN w)), (3, .int (nI kk)), (4, .int (nI b))] 134 []
            show xk_Go K D 7 0 0 (tc_wR r cr (g 0) (a 0) wl wm wt nw ap 1 (some gz) ++ (tc_wB g cg gb gz ++ tc_wS a ca kn nu wo si de la le ro tm nd)) [(6, .int (nI 0)), (5, .int (nI 1)), (0, .ref (r 0)), (1, .long (lN w)), (3, .int (nI kk)), (4, .int (nI b))] 134 []
            refine x_lload_n C dR_takeSigned_134 rfl 3 rfl ?_
            exact x_lret C T rfl dR_takeSigned_135 (Or.inr (⟨_, _, 1, gz, rfl, rfl, (tc_rS_e j1), (by decide), j7, j8⟩))
          ·
            refine x_iconst (v := nI 1) C dR_takeSigned_103 (by decide) ?_
            refine x_goto C 108 dR_takeSigned_104 (by decide) ?_
            refine x_istore C [(6, .int (nI 1)), (5, .int (nI 1)), (0, .ref (r 0)), (1, .long (lN w)), (3, .int (nI kk)), (4, .int (nI b))] dR_takeSigned_108 (by decide) rfl ?_
            refine x_iload C dR_takeSigned_110 0 rfl ?_
            refine x_if_eq (tgt := 123) C dR_takeSigned_112 (by decide) (fun h => absurd h (by decide)) (fun _ => ?_)
            refine x_lload_n C dR_takeSigned_115 rfl 3 rfl ?_
            refine x_callS C (c_F_signedGroups D (lN w)) kbR_114 kcR_114 [] [0, 1, 2, 3, 4, 5, 6, 7, 8, 9, 10, 11, 12, 13] [] (tc_wR r cr (g 0) (a 0) wl wm wt nw ap 1 (some gz) ++ (tc_wB g cg gb gz ++ tc_wS a ca kn nu wo si de la le ro tm nd)) rfl rfl (by decide) (by decide) (by decide) rfl ⟨Nat.le_of_ble_eq_true rfl, Nat.le_of_ble_eq_true rfl⟩ ⟨Nat.le_of_ble_eq_true rfl, Nat.le_of_ble_eq_true rfl⟩ [] rfl rfl (Nat.le_of_ble_eq_true rfl) dR_takeSigned_116 (fun rv ru hw => ?_)
            obtain ⟨rfl, rfl⟩ := hw
            show xk_Go K D 7 0 0 (tc_wR r cr (g 0) (a 0) wl wm wt nw ap 1 (some gz) ++ (tc_wB g cg gb gz ++ tc_wS a ca kn nu wo si de la le ro tm nd)) [(6, .int (nI 1)), (5, .int (nI 1)), (0, .ref (r 0)), (1, .long (lN w)), (3, .int (nI kk)), (4, .int (nI b))] 119 [.int (nI (tc_gS (lN w).toInt))]
            refine x_iload_n C dR_takeSigned_119 rfl 4 rfl ?_
            refine x_icmp_eqN (tgt := 134) C (Nat.lt_of_le_of_lt (tc_gS_le _) (by decide)) (by omega) dR_takeSigned_120 (by decide) (fun h120 => ?_) (fun h120 => ?_)
            ·
              refine x_lload_n C dR_takeSigned_134 rfl 3 rfl ?_
              exact x_lret C T rfl dR_takeSigned_135 (Or.inr (⟨_, _, 1, gz, rfl, rfl, (tc_rS_e j1), (by decide), j7, j8⟩))
            ·
              refine x_aload_n C dR_takeSigned_123 rfl 2 rfl ?_
              refine x_iconst (v := nI 2) C dR_takeSigned_124 (by decide) ?_
              refine x_aload_n C dR_takeSigned_125 rfl 2 rfl ?_
              refine x_get C fgR_22 0 rfl rfl dR_takeSigned_126 ?_
              refine x_iconst (v := nI 1) C dR_takeSigned_129 (by decide) ?_
              refine x_isubN C (by omega) dR_takeSigned_130 ?_
              refine x_callV C (c_R_fail D r cr g cg a ca wl wm wt nw ap 1 (some gz) gb gz kn nu wo si de la le ro tm nd 2 (nw - 1) (by decide)) kbR_73 kcR_73 [0, 1, 2, 3, 4, 5, 6, 7, 8, 9, 10, 11, 12, 13] [] [0, 1, 2, 3, 4, 5, 6, 7, 8, 9, 10] ([]) rfl rfl (by decide) (by decide) (by decide) rfl 0 rfl rfl ⟨Nat.le_of_ble_eq_true rfl, Nat.le_of_ble_eq_true rfl⟩ ⟨Nat.le_of_ble_eq_true rfl, Nat.le_of_ble_eq_true rfl⟩ [] rfl rfl (Nat.le_of_ble_eq_true rfl) dR_takeSigned_131 (fun rv ru hw => ?_)
              obtain ⟨rfl, rfl⟩ := hw
              show xk_Go K D 7 0 0 (tc_wR r cr (g 0) (a 0) wl wm wt nw ap (tc_f1 1 2) (tc_f2 1 (some gz) (nw - 1)) ++ (tc_wB g cg gb gz ++ tc_wS a ca kn nu wo si de la le ro tm nd)) [(6, .int (nI 1)), (5, .int (nI 1)), (0, .ref (r 0)), (1, .long (lN w)), (3, .int (nI kk)), (4, .int (nI b))] 134 []
              show xk_Go K D 7 0 0 (tc_wR r cr (g 0) (a 0) wl wm wt nw ap 1 (some gz) ++ (tc_wB g cg gb gz ++ tc_wS a ca kn nu wo si de la le ro tm nd)) [(6, .int (nI 1)), (5, .int (nI 1)), (0, .ref (r 0)), (1, .long (lN w)), (3, .int (nI kk)), (4, .int (nI b))] 134 []
              refine x_lload_n C dR_takeSigned_134 rfl 3 rfl ?_
              exact x_lret C T rfl dR_takeSigned_135 (Or.inr (⟨_, _, 1, gz, rfl, rfl, (tc_rS_e j1), (by decide), j7, j8⟩))
    ·
      refine x_bipush (v := nI 10) C dR_takeSigned_50 (by decide) ?_
      refine x_icmp_neN (tgt := 59) C (by omega) (by decide) dR_takeSigned_52 (by decide) (fun h52 => ?_) (fun h52 => ?_)
      ·
        refine x_iconst (v := nI 0) C dR_takeSigned_59 (by decide) ?_
        refine x_istore C [(5, .int (nI 0)), (0, .ref (r 0)), (1, .long (lN w)), (3, .int (nI kk)), (4, .int (nI b))] dR_takeSigned_60 (by decide) rfl ?_
        refine x_iload C dR_takeSigned_62 0 rfl ?_
        refine x_if_ne (tgt := 86) C dR_takeSigned_64 (by decide) (fun h => absurd (by decide) h) (fun _ => ?_)
        refine x_iload C dR_takeSigned_67 4 rfl ?_
        refine x_bipush (v := nI 64) C dR_takeSigned_69 (by decide) ?_
        refine x_iand C dR_takeSigned_71 ?_
        refine x_if_eq (tgt := 86) C dR_takeSigned_72 (by decide) (fun h72 => ?_) (fun h72 => ?_)
        ·
          have hb64 := (tc_and64 j6).mp h72
          have hsg : tc_sgn w kk bb = lN w := if_neg (by omega)
          refine x_iload C dR_takeSigned_86 0 rfl ?_
          refine x_if_eq (tgt := 103) C dR_takeSigned_88 (by decide) (fun _ => ?_) (fun h => absurd (by decide) h)
          refine x_iconst (v := nI 1) C dR_takeSigned_103 (by decide) ?_
          refine x_goto C 108 dR_takeSigned_104 (by decide) ?_
          refine x_istore C [(6, .int (nI 1)), (5, .int (nI 0)), (0, .ref (r 0)), (1, .long (lN w)), (3, .int (nI kk)), (4, .int (nI b))] dR_takeSigned_108 (by decide) rfl ?_
          refine x_iload C dR_takeSigned_110 0 rfl ?_
          refine x_if_eq (tgt := 123) C dR_takeSigned_112 (by decide) (fun h => absurd h (by decide)) (fun _ => ?_)
          refine x_lload_n C dR_takeSigned_115 rfl 3 rfl ?_
          refine x_callS C (c_F_signedGroups D (lN w)) kbR_114 kcR_114 [] [0, 1, 2, 3, 4, 5, 6, 7, 8, 9, 10, 11, 12, 13] [] (tc_wR r cr (g 0) (a 0) wl wm wt (nx + kk) ap 0 none ++ (tc_wB g cg gb gz ++ tc_wS a ca kn nu wo si de la le ro tm nd)) rfl rfl (by decide) (by decide) (by decide) rfl ⟨Nat.le_of_ble_eq_true rfl, Nat.le_of_ble_eq_true rfl⟩ ⟨Nat.le_of_ble_eq_true rfl, Nat.le_of_ble_eq_true rfl⟩ [] rfl rfl (Nat.le_of_ble_eq_true rfl) dR_takeSigned_116 (fun rv ru hw => ?_)
          obtain ⟨rfl, rfl⟩ := hw
          show xk_Go K D 7 0 0 (tc_wR r cr (g 0) (a 0) wl wm wt (nx + kk) ap 0 none ++ (tc_wB g cg gb gz ++ tc_wS a ca kn nu wo si de la le ro tm nd)) [(6, .int (nI 1)), (5, .int (nI 0)), (0, .ref (r 0)), (1, .long (lN w)), (3, .int (nI kk)), (4, .int (nI b))] 119 [.int (nI (tc_gS (lN w).toInt))]
          refine x_iload_n C dR_takeSigned_119 rfl 4 rfl ?_
          refine x_icmp_eqN (tgt := 134) C (Nat.lt_of_le_of_lt (tc_gS_le _) (by decide)) (by omega) dR_takeSigned_120 (by decide) (fun h120 => ?_) (fun h120 => ?_)
          ·
            refine x_lload_n C dR_takeSigned_134 rfl 3 rfl ?_
            exact x_lret C T rfl dR_takeSigned_135 (Or.inl (⟨_, _, rfl, rfl, ((tc_rS_o j1 (by rw [hsg]; intro q; rcases q with q | q | q <;> first | omega | exact q h120)).trans (by rw [hsg])), j7, j8⟩))
          ·
            refine x_aload_n C dR_takeSigned_123 rfl 2 rfl ?_
            refine x_iconst (v := nI 2) C dR_takeSigned_124 (by decide) ?_
            refine x_aload_n C dR_takeSigned_125 rfl 2 rfl ?_
            refine x_get C fgR_22 0 rfl rfl dR_takeSigned_126 ?_
            refine x_iconst (v := nI 1) C dR_takeSigned_129 (by decide) ?_
            refine x_isubN C (by omega) dR_takeSigned_130 ?_
            refine x_callV C (c_R_fail D r cr g cg a ca wl wm wt (nx + kk) ap 0 none gb gz kn nu wo si de la le ro tm nd 2 (nx + kk - 1) (by decide)) kbR_73 kcR_73 [0, 1, 2, 3, 4, 5, 6, 7, 8, 9, 10, 11, 12, 13] [] [0, 1, 2, 3, 4, 5, 6, 7, 8, 9, 10] ([]) rfl rfl (by decide) (by decide) (by decide) rfl 0 rfl rfl ⟨Nat.le_of_ble_eq_true rfl, Nat.le_of_ble_eq_true rfl⟩ ⟨Nat.le_of_ble_eq_true rfl, Nat.le_of_ble_eq_true rfl⟩ [] rfl rfl (Nat.le_of_ble_eq_true rfl) dR_takeSigned_131 (fun rv ru hw => ?_)
            obtain ⟨rfl, rfl⟩ := hw
            show xk_Go K D 7 0 0 (tc_wR r cr (g 0) (a 0) wl wm wt (nx + kk) ap (tc_f1 0 2) (tc_f2 0 none (nx + kk - 1)) ++ (tc_wB g cg gb gz ++ tc_wS a ca kn nu wo si de la le ro tm nd)) [(6, .int (nI 1)), (5, .int (nI 0)), (0, .ref (r 0)), (1, .long (lN w)), (3, .int (nI kk)), (4, .int (nI b))] 134 []
            show xk_Go K D 7 0 0 (tc_wR r cr (g 0) (a 0) wl wm wt (nx + kk) ap 2 (some (nx + kk - 1)) ++ (tc_wB g cg gb gz ++ tc_wS a ca kn nu wo si de la le ro tm nd)) [(6, .int (nI 1)), (5, .int (nI 0)), (0, .ref (r 0)), (1, .long (lN w)), (3, .int (nI kk)), (4, .int (nI b))] 134 []
            refine x_lload_n C dR_takeSigned_134 rfl 3 rfl ?_
            exact x_lret C T rfl dR_takeSigned_135 (Or.inr (⟨_, _, 2, (nx + kk - 1), rfl, rfl, (tc_rS_f j1 (by first | exact Or.inr (Or.inr (by rw [hsg]; exact h120)) | (rcases j4 with ⟨j4, j4b⟩ | ⟨j4, j4b, j4c⟩ <;> first | exact Or.inr (Or.inl (by omega)) | exact Or.inl (by omega)))), (by decide), j7, j8⟩))
        ·
          refine x_lload_n C dR_takeSigned_75 rfl 2 rfl ?_
          refine x_ldc2 (v := (-1)) C dR_takeSigned_76 klR_112 ?_
          refine x_bipush (v := nI 7) C dR_takeSigned_79 (by decide) ?_
          refine x_iload_n C dR_takeSigned_81 rfl 3 rfl ?_
          refine x_imulN C dR_takeSigned_82 ?_
          refine x_lshl (v := (-1) <<< ((nI (7 * kk)).toInt64 &&& 63)) C dR_takeSigned_83 rfl ?_
          refine x_lor C dR_takeSigned_84 ?_
          refine x_lstore_n C [(1, .long ((lN w) ||| ((-1) <<< ((nI (7 * kk)).toInt64 &&& 63)))), (5, .int (nI 0)), (0, .ref (r 0)), (3, .int (nI kk)), (4, .int (nI b))] dR_takeSigned_85 rfl (by decide) rfl ?_
          have hb64 : ¬ b % 128 < 64 := fun q => h72 ((tc_and64 j6).mpr q)
          have hsg : tc_sgn w kk bb = lN w ||| ((-1) <<< ((nI (7 * kk)).toInt64 &&& 63)) := if_pos (by omega)
          refine x_iload C dR_takeSigned_86 1 rfl ?_
          refine x_if_eq (tgt := 103) C dR_takeSigned_88 (by decide) (fun _ => ?_) (fun h => absurd (by decide) h)
          refine x_iconst (v := nI 1) C dR_takeSigned_103 (by decide) ?_
          refine x_goto C 108 dR_takeSigned_104 (by decide) ?_
          refine x_istore C [(6, .int (nI 1)), (1, .long ((lN w) ||| ((-1) <<< ((nI (7 * kk)).toInt64 &&& 63)))), (5, .int (nI 0)), (0, .ref (r 0)), (3, .int (nI kk)), (4, .int (nI b))] dR_takeSigned_108 (by decide) rfl ?_
          refine x_iload C dR_takeSigned_110 0 rfl ?_
          refine x_if_eq (tgt := 123) C dR_takeSigned_112 (by decide) (fun h => absurd h (by decide)) (fun _ => ?_)
          refine x_lload_n C dR_takeSigned_115 rfl 1 rfl ?_
          refine x_callS C (c_F_signedGroups D ((lN w) ||| ((-1) <<< ((nI (7 * kk)).toInt64 &&& 63)))) kbR_114 kcR_114 [] [0, 1, 2, 3, 4, 5, 6, 7, 8, 9, 10, 11, 12, 13] [] (tc_wR r cr (g 0) (a 0) wl wm wt (nx + kk) ap 0 none ++ (tc_wB g cg gb gz ++ tc_wS a ca kn nu wo si de la le ro tm nd)) rfl rfl (by decide) (by decide) (by decide) rfl ⟨Nat.le_of_ble_eq_true rfl, Nat.le_of_ble_eq_true rfl⟩ ⟨Nat.le_of_ble_eq_true rfl, Nat.le_of_ble_eq_true rfl⟩ [] rfl rfl (Nat.le_of_ble_eq_true rfl) dR_takeSigned_116 (fun rv ru hw => ?_)
          obtain ⟨rfl, rfl⟩ := hw
          show xk_Go K D 7 0 0 (tc_wR r cr (g 0) (a 0) wl wm wt (nx + kk) ap 0 none ++ (tc_wB g cg gb gz ++ tc_wS a ca kn nu wo si de la le ro tm nd)) [(6, .int (nI 1)), (1, .long ((lN w) ||| ((-1) <<< ((nI (7 * kk)).toInt64 &&& 63)))), (5, .int (nI 0)), (0, .ref (r 0)), (3, .int (nI kk)), (4, .int (nI b))] 119 [.int (nI (tc_gS ((lN w) ||| ((-1) <<< ((nI (7 * kk)).toInt64 &&& 63))).toInt))]
          refine x_iload_n C dR_takeSigned_119 rfl 4 rfl ?_
          refine x_icmp_eqN (tgt := 134) C (Nat.lt_of_le_of_lt (tc_gS_le _) (by decide)) (by omega) dR_takeSigned_120 (by decide) (fun h120 => ?_) (fun h120 => ?_)
          ·
            refine x_lload_n C dR_takeSigned_134 rfl 1 rfl ?_
            exact x_lret C T rfl dR_takeSigned_135 (Or.inl (⟨_, _, rfl, rfl, ((tc_rS_o j1 (by rw [hsg]; intro q; rcases q with q | q | q <;> first | omega | exact q h120)).trans (by rw [hsg])), j7, j8⟩))
          ·
            refine x_aload_n C dR_takeSigned_123 rfl 3 rfl ?_
            refine x_iconst (v := nI 2) C dR_takeSigned_124 (by decide) ?_
            refine x_aload_n C dR_takeSigned_125 rfl 3 rfl ?_
            refine x_get C fgR_22 0 rfl rfl dR_takeSigned_126 ?_
            refine x_iconst (v := nI 1) C dR_takeSigned_129 (by decide) ?_
            refine x_isubN C (by omega) dR_takeSigned_130 ?_
            refine x_callV C (c_R_fail D r cr g cg a ca wl wm wt (nx + kk) ap 0 none gb gz kn nu wo si de la le ro tm nd 2 (nx + kk - 1) (by decide)) kbR_73 kcR_73 [0, 1, 2, 3, 4, 5, 6, 7, 8, 9, 10, 11, 12, 13] [] [0, 1, 2, 3, 4, 5, 6, 7, 8, 9, 10] ([]) rfl rfl (by decide) (by decide) (by decide) rfl 0 rfl rfl ⟨Nat.le_of_ble_eq_true rfl, Nat.le_of_ble_eq_true rfl⟩ ⟨Nat.le_of_ble_eq_true rfl, Nat.le_of_ble_eq_true rfl⟩ [] rfl rfl (Nat.le_of_ble_eq_true rfl) dR_takeSigned_131 (fun rv ru hw => ?_)
            obtain ⟨rfl, rfl⟩ := hw
            show xk_Go K D 7 0 0 (tc_wR r cr (g 0) (a 0) wl wm wt (nx + kk) ap (tc_f1 0 2) (tc_f2 0 none (nx + kk - 1)) ++ (tc_wB g cg gb gz ++ tc_wS a ca kn nu wo si de la le ro tm nd)) [(6, .int (nI 1)), (1, .long ((lN w) ||| ((-1) <<< ((nI (7 * kk)).toInt64 &&& 63)))), (5, .int (nI 0)), (0, .ref (r 0)), (3, .int (nI kk)), (4, .int (nI b))] 134 []
            show xk_Go K D 7 0 0 (tc_wR r cr (g 0) (a 0) wl wm wt (nx + kk) ap 2 (some (nx + kk - 1)) ++ (tc_wB g cg gb gz ++ tc_wS a ca kn nu wo si de la le ro tm nd)) [(6, .int (nI 1)), (1, .long ((lN w) ||| ((-1) <<< ((nI (7 * kk)).toInt64 &&& 63)))), (5, .int (nI 0)), (0, .ref (r 0)), (3, .int (nI kk)), (4, .int (nI b))] 134 []
            refine x_lload_n C dR_takeSigned_134 rfl 1 rfl ?_
            exact x_lret C T rfl dR_takeSigned_135 (Or.inr (⟨_, _, 2, (nx + kk - 1), rfl, rfl, (tc_rS_f j1 (by first | exact Or.inr (Or.inr (by rw [hsg]; exact h120)) | (rcases j4 with ⟨j4, j4b⟩ | ⟨j4, j4b, j4c⟩ <;> first | exact Or.inr (Or.inl (by omega)) | exact Or.inl (by omega)))), (by decide), j7, j8⟩))
      ·
        refine x_iconst (v := nI 1) C dR_takeSigned_55 (by decide) ?_
        refine x_goto C 60 dR_takeSigned_56 (by decide) ?_
        refine x_istore C [(5, .int (nI 1)), (0, .ref (r 0)), (1, .long (lN w)), (3, .int (nI kk)), (4, .int (nI b))] dR_takeSigned_60 (by decide) rfl ?_
        refine x_iload C dR_takeSigned_62 0 rfl ?_
        refine x_if_ne (tgt := 86) C dR_takeSigned_64 (by decide) (fun _ => ?_) (fun h => absurd h (by decide))
        have hsg : tc_sgn w kk bb = lN w := if_neg (by omega)
        refine x_iload C dR_takeSigned_86 0 rfl ?_
        refine x_if_eq (tgt := 103) C dR_takeSigned_88 (by decide) (fun h => absurd h (by decide)) (fun _ => ?_)
        refine x_iload C dR_takeSigned_91 4 rfl ?_
        refine x_if_eqN (tgt := 103) C (by omega) dR_takeSigned_93 (by decide) (fun h93 => ?_) (fun h93 => ?_)
        ·
          refine x_iconst (v := nI 1) C dR_takeSigned_103 (by decide) ?_
          refine x_goto C 108 dR_takeSigned_104 (by decide) ?_
          refine x_istore C [(6, .int (nI 1)), (5, .int (nI 1)), (0, .ref (r 0)), (1, .long (lN w)), (3, .int (nI kk)), (4, .int (nI b))] dR_takeSigned_108 (by decide) rfl ?_
          refine x_iload C dR_takeSigned_110 0 rfl ?_
          refine x_if_eq (tgt := 123) C dR_takeSigned_112 (by decide) (fun h => absurd h (by decide)) (fun _ => ?_)
          refine x_lload_n C dR_takeSigned_115 rfl 3 rfl ?_
          refine x_callS C (c_F_signedGroups D (lN w)) kbR_114 kcR_114 [] [0, 1, 2, 3, 4, 5, 6, 7, 8, 9, 10, 11, 12, 13] [] (tc_wR r cr (g 0) (a 0) wl wm wt (nx + kk) ap 0 none ++ (tc_wB g cg gb gz ++ tc_wS a ca kn nu wo si de la le ro tm nd)) rfl rfl (by decide) (by decide) (by decide) rfl ⟨Nat.le_of_ble_eq_true rfl, Nat.le_of_ble_eq_true rfl⟩ ⟨Nat.le_of_ble_eq_true rfl, Nat.le_of_ble_eq_true rfl⟩ [] rfl rfl (Nat.le_of_ble_eq_true rfl) dR_takeSigned_116 (fun rv ru hw => ?_)
          obtain ⟨rfl, rfl⟩ := hw
          show xk_Go K D 7 0 0 (tc_wR r cr (g 0) (a 0) wl wm wt (nx + kk) ap 0 none ++ (tc_wB g cg gb gz ++ tc_wS a ca kn nu wo si de la le ro tm nd)) [(6, .int (nI 1)), (5, .int (nI 1)), (0, .ref (r 0)), (1, .long (lN w)), (3, .int (nI kk)), (4, .int (nI b))] 119 [.int (nI (tc_gS (lN w).toInt))]
          refine x_iload_n C dR_takeSigned_119 rfl 4 rfl ?_
          refine x_icmp_eqN (tgt := 134) C (Nat.lt_of_le_of_lt (tc_gS_le _) (by decide)) (by omega) dR_takeSigned_120 (by decide) (fun h120 => ?_) (fun h120 => ?_)
          ·
            refine x_lload_n C dR_takeSigned_134 rfl 3 rfl ?_
            exact x_lret C T rfl dR_takeSigned_135 (Or.inl (⟨_, _, rfl, rfl, ((tc_rS_o j1 (by rw [hsg]; intro q; rcases q with q | q | q <;> first | omega | exact q h120)).trans (by rw [hsg])), j7, j8⟩))
          ·
            refine x_aload_n C dR_takeSigned_123 rfl 2 rfl ?_
            refine x_iconst (v := nI 2) C dR_takeSigned_124 (by decide) ?_
            refine x_aload_n C dR_takeSigned_125 rfl 2 rfl ?_
            refine x_get C fgR_22 0 rfl rfl dR_takeSigned_126 ?_
            refine x_iconst (v := nI 1) C dR_takeSigned_129 (by decide) ?_
            refine x_isubN C (by omega) dR_takeSigned_130 ?_
            refine x_callV C (c_R_fail D r cr g cg a ca wl wm wt (nx + kk) ap 0 none gb gz kn nu wo si de la le ro tm nd 2 (nx + kk - 1) (by decide)) kbR_73 kcR_73 [0, 1, 2, 3, 4, 5, 6, 7, 8, 9, 10, 11, 12, 13] [] [0, 1, 2, 3, 4, 5, 6, 7, 8, 9, 10] ([]) rfl rfl (by decide) (by decide) (by decide) rfl 0 rfl rfl ⟨Nat.le_of_ble_eq_true rfl, Nat.le_of_ble_eq_true rfl⟩ ⟨Nat.le_of_ble_eq_true rfl, Nat.le_of_ble_eq_true rfl⟩ [] rfl rfl (Nat.le_of_ble_eq_true rfl) dR_takeSigned_131 (fun rv ru hw => ?_)
            obtain ⟨rfl, rfl⟩ := hw
            show xk_Go K D 7 0 0 (tc_wR r cr (g 0) (a 0) wl wm wt (nx + kk) ap (tc_f1 0 2) (tc_f2 0 none (nx + kk - 1)) ++ (tc_wB g cg gb gz ++ tc_wS a ca kn nu wo si de la le ro tm nd)) [(6, .int (nI 1)), (5, .int (nI 1)), (0, .ref (r 0)), (1, .long (lN w)), (3, .int (nI kk)), (4, .int (nI b))] 134 []
            show xk_Go K D 7 0 0 (tc_wR r cr (g 0) (a 0) wl wm wt (nx + kk) ap 2 (some (nx + kk - 1)) ++ (tc_wB g cg gb gz ++ tc_wS a ca kn nu wo si de la le ro tm nd)) [(6, .int (nI 1)), (5, .int (nI 1)), (0, .ref (r 0)), (1, .long (lN w)), (3, .int (nI kk)), (4, .int (nI b))] 134 []
            refine x_lload_n C dR_takeSigned_134 rfl 3 rfl ?_
            exact x_lret C T rfl dR_takeSigned_135 (Or.inr (⟨_, _, 2, (nx + kk - 1), rfl, rfl, (tc_rS_f j1 (by first | exact Or.inr (Or.inr (by rw [hsg]; exact h120)) | (rcases j4 with ⟨j4, j4b⟩ | ⟨j4, j4b, j4c⟩ <;> first | exact Or.inr (Or.inl (by omega)) | exact Or.inl (by omega)))), (by decide), j7, j8⟩))
        ·
          refine x_iload C dR_takeSigned_96 4 rfl ?_
          refine x_bipush (v := nI 127) C dR_takeSigned_98 (by decide) ?_
          refine x_icmp_neN (tgt := 107) C (by omega) (by decide) dR_takeSigned_100 (by decide) (fun h100 => ?_) (fun h100 => ?_)
          ·
            refine x_iconst (v := nI 0) C dR_takeSigned_107 (by decide) ?_
            refine x_istore C [(6, .int (nI 0)), (5, .int (nI 1)), (0, .ref (r 0)), (1, .long (lN w)), (3, .int (nI kk)), (4, .int (nI b))] dR_takeSigned_108 (by decide) rfl ?_
            refine x_iload C dR_takeSigned_110 0 rfl ?_
            refine x_if_eq (tgt := 123) C dR_takeSigned_112 (by decide) (fun _ => ?_) (fun h => absurd (by decide) h)
            refine x_aload_n C dR_takeSigned_123 rfl 2 rfl ?_
            refine x_iconst (v := nI 2) C dR_takeSigned_124 (by decide) ?_
            refine x_aload_n C dR_takeSigned_125 rfl 2 rfl ?_
            refine x_get C fgR_22 0 rfl rfl dR_takeSigned_126 ?_
            refine x_iconst (v := nI 1) C dR_takeSigned_129 (by decide) ?_
            refine x_isubN C (by omega) dR_takeSigned_130 ?_
            refine x_callV C (c_R_fail D r cr g cg a ca wl wm wt (nx + kk) ap 0 none gb gz kn nu wo si de la le ro tm nd 2 (nx + kk - 1) (by decide)) kbR_73 kcR_73 [0, 1, 2, 3, 4, 5, 6, 7, 8, 9, 10, 11, 12, 13] [] [0, 1, 2, 3, 4, 5, 6, 7, 8, 9, 10] ([]) rfl rfl (by decide) (by decide) (by decide) rfl 0 rfl rfl ⟨Nat.le_of_ble_eq_true rfl, Nat.le_of_ble_eq_true rfl⟩ ⟨Nat.le_of_ble_eq_true rfl, Nat.le_of_ble_eq_true rfl⟩ [] rfl rfl (Nat.le_of_ble_eq_true rfl) dR_takeSigned_131 (fun rv ru hw => ?_)
            obtain ⟨rfl, rfl⟩ := hw
            show xk_Go K D 7 0 0 (tc_wR r cr (g 0) (a 0) wl wm wt (nx + kk) ap (tc_f1 0 2) (tc_f2 0 none (nx + kk - 1)) ++ (tc_wB g cg gb gz ++ tc_wS a ca kn nu wo si de la le ro tm nd)) [(6, .int (nI 0)), (5, .int (nI 1)), (0, .ref (r 0)), (1, .long (lN w)), (3, .int (nI kk)), (4, .int (nI b))] 134 []
            show xk_Go K D 7 0 0 (tc_wR r cr (g 0) (a 0) wl wm wt (nx + kk) ap 2 (some (nx + kk - 1)) ++ (tc_wB g cg gb gz ++ tc_wS a ca kn nu wo si de la le ro tm nd)) [(6, .int (nI 0)), (5, .int (nI 1)), (0, .ref (r 0)), (1, .long (lN w)), (3, .int (nI kk)), (4, .int (nI b))] 134 []
            refine x_lload_n C dR_takeSigned_134 rfl 3 rfl ?_
            exact x_lret C T rfl dR_takeSigned_135 (Or.inr (⟨_, _, 2, (nx + kk - 1), rfl, rfl, (tc_rS_f j1 (by first | exact Or.inr (Or.inr (by rw [hsg]; exact h120)) | (rcases j4 with ⟨j4, j4b⟩ | ⟨j4, j4b, j4c⟩ <;> first | exact Or.inr (Or.inl (by omega)) | exact Or.inl (by omega)))), (by decide), j7, j8⟩))
          ·
            refine x_iconst (v := nI 1) C dR_takeSigned_103 (by decide) ?_
            refine x_goto C 108 dR_takeSigned_104 (by decide) ?_
            refine x_istore C [(6, .int (nI 1)), (5, .int (nI 1)), (0, .ref (r 0)), (1, .long (lN w)), (3, .int (nI kk)), (4, .int (nI b))] dR_takeSigned_108 (by decide) rfl ?_
            refine x_iload C dR_takeSigned_110 0 rfl ?_
            refine x_if_eq (tgt := 123) C dR_takeSigned_112 (by decide) (fun h => absurd h (by decide)) (fun _ => ?_)
            refine x_lload_n C dR_takeSigned_115 rfl 3 rfl ?_
            refine x_callS C (c_F_signedGroups D (lN w)) kbR_114 kcR_114 [] [0, 1, 2, 3, 4, 5, 6, 7, 8, 9, 10, 11, 12, 13] [] (tc_wR r cr (g 0) (a 0) wl wm wt (nx + kk) ap 0 none ++ (tc_wB g cg gb gz ++ tc_wS a ca kn nu wo si de la le ro tm nd)) rfl rfl (by decide) (by decide) (by decide) rfl ⟨Nat.le_of_ble_eq_true rfl, Nat.le_of_ble_eq_true rfl⟩ ⟨Nat.le_of_ble_eq_true rfl, Nat.le_of_ble_eq_true rfl⟩ [] rfl rfl (Nat.le_of_ble_eq_true rfl) dR_takeSigned_116 (fun rv ru hw => ?_)
            obtain ⟨rfl, rfl⟩ := hw
            show xk_Go K D 7 0 0 (tc_wR r cr (g 0) (a 0) wl wm wt (nx + kk) ap 0 none ++ (tc_wB g cg gb gz ++ tc_wS a ca kn nu wo si de la le ro tm nd)) [(6, .int (nI 1)), (5, .int (nI 1)), (0, .ref (r 0)), (1, .long (lN w)), (3, .int (nI kk)), (4, .int (nI b))] 119 [.int (nI (tc_gS (lN w).toInt))]
            refine x_iload_n C dR_takeSigned_119 rfl 4 rfl ?_
            refine x_icmp_eqN (tgt := 134) C (Nat.lt_of_le_of_lt (tc_gS_le _) (by decide)) (by omega) dR_takeSigned_120 (by decide) (fun h120 => ?_) (fun h120 => ?_)
            ·
              refine x_lload_n C dR_takeSigned_134 rfl 3 rfl ?_
              exact x_lret C T rfl dR_takeSigned_135 (Or.inl (⟨_, _, rfl, rfl, ((tc_rS_o j1 (by rw [hsg]; intro q; rcases q with q | q | q <;> first | omega | exact q h120)).trans (by rw [hsg])), j7, j8⟩))
            ·
              refine x_aload_n C dR_takeSigned_123 rfl 2 rfl ?_
              refine x_iconst (v := nI 2) C dR_takeSigned_124 (by decide) ?_
              refine x_aload_n C dR_takeSigned_125 rfl 2 rfl ?_
              refine x_get C fgR_22 0 rfl rfl dR_takeSigned_126 ?_
              refine x_iconst (v := nI 1) C dR_takeSigned_129 (by decide) ?_
              refine x_isubN C (by omega) dR_takeSigned_130 ?_
              refine x_callV C (c_R_fail D r cr g cg a ca wl wm wt (nx + kk) ap 0 none gb gz kn nu wo si de la le ro tm nd 2 (nx + kk - 1) (by decide)) kbR_73 kcR_73 [0, 1, 2, 3, 4, 5, 6, 7, 8, 9, 10, 11, 12, 13] [] [0, 1, 2, 3, 4, 5, 6, 7, 8, 9, 10] ([]) rfl rfl (by decide) (by decide) (by decide) rfl 0 rfl rfl ⟨Nat.le_of_ble_eq_true rfl, Nat.le_of_ble_eq_true rfl⟩ ⟨Nat.le_of_ble_eq_true rfl, Nat.le_of_ble_eq_true rfl⟩ [] rfl rfl (Nat.le_of_ble_eq_true rfl) dR_takeSigned_131 (fun rv ru hw => ?_)
              obtain ⟨rfl, rfl⟩ := hw
              show xk_Go K D 7 0 0 (tc_wR r cr (g 0) (a 0) wl wm wt (nx + kk) ap (tc_f1 0 2) (tc_f2 0 none (nx + kk - 1)) ++ (tc_wB g cg gb gz ++ tc_wS a ca kn nu wo si de la le ro tm nd)) [(6, .int (nI 1)), (5, .int (nI 1)), (0, .ref (r 0)), (1, .long (lN w)), (3, .int (nI kk)), (4, .int (nI b))] 134 []
              show xk_Go K D 7 0 0 (tc_wR r cr (g 0) (a 0) wl wm wt (nx + kk) ap 2 (some (nx + kk - 1)) ++ (tc_wB g cg gb gz ++ tc_wS a ca kn nu wo si de la le ro tm nd)) [(6, .int (nI 1)), (5, .int (nI 1)), (0, .ref (r 0)), (1, .long (lN w)), (3, .int (nI kk)), (4, .int (nI b))] 134 []
              refine x_lload_n C dR_takeSigned_134 rfl 3 rfl ?_
              exact x_lret C T rfl dR_takeSigned_135 (Or.inr (⟨_, _, 2, (nx + kk - 1), rfl, rfl, (tc_rS_f j1 (by first | exact Or.inr (Or.inr (by rw [hsg]; exact h120)) | (rcases j4 with ⟨j4, j4b⟩ | ⟨j4, j4b, j4c⟩ <;> first | exact Or.inr (Or.inl (by omega)) | exact Or.inl (by omega)))), (by decide), j7, j8⟩))
  refine x_lconst (v := 0) C dR_takeSigned_0 (by decide) ?_
  refine x_lstore_n C [(1, .long 0), (0, .ref (r 0))] dR_takeSigned_1 rfl (by decide) rfl ?_
  refine x_iconst (v := nI 0) C dR_takeSigned_2 (by decide) ?_
  refine x_istore_n C [(3, .int (nI 0)), (1, .long 0), (0, .ref (r 0))] dR_takeSigned_3 rfl (by decide) rfl ?_
  refine x_sipush (v := nI 128) C dR_takeSigned_4 (by decide) ?_
  refine x_istore C [(4, .int (nI 128)), (3, .int (nI 0)), (1, .long 0), (0, .ref (r 0))] dR_takeSigned_7 (by decide) rfl ?_
  refine x_iload C dR_takeSigned_9 0 rfl ?_
  refine x_sipush (v := nI 128) C dR_takeSigned_11 (by decide) ?_
  refine x_icmp_lt (tgt := 49) C dR_takeSigned_14 (by decide) (fun h => absurd h (by decide)) (fun _ => ?_)
  refine x_iload_n C dR_takeSigned_17 rfl 1 rfl ?_
  refine x_bipush (v := nI 10) C dR_takeSigned_18 (by decide) ?_
  refine x_icmp_ge (tgt := 49) C dR_takeSigned_20 (by decide) (fun h => absurd h (by decide)) (fun _ => ?_)
  have lp23 : ∀ (zc : Nat) (v : Nat) (k : Nat), (10 - k) < zc → (k < 10) → (tc_scan (tc_B gb) gz 10 nx 0 0 = tc_scan (tc_B gb) gz (10 - k) (nx + k) v k) → (v < 2 ^ (7 * k)) → (nx + k ≤ gz) → xk_Go K D 7 0 0 (tc_wR r cr (g 0) (a 0) wl wm wt (nx + k) ap 0 none ++ (tc_wB g cg gb gz ++ tc_wS a ca kn nu wo si de la le ro tm nd)) [(0, .ref (r 0)), (1, .long (lN v)), (3, .int (nI k))] 23 [] := by
    intro zc
    induction zc with
    | zero => intro v k hm; exact absurd hm (Nat.not_lt_zero _)
    | succ zc ih23 =>
      intro v k hm e1 e2 e3 e4
      have hm : 10 - k = (9 - k) + 1 := by omega
      refine x_aload_n C dR_takeSigned_23 rfl 0 rfl ?_
      refine x_callV C (c_R_takeByte D r cr g cg a ca wl wm wt (nx + k) ap 0 none gb gz kn nu wo si de la le ro tm nd (by omega) y2 (by decide)) kbR_63 kcR_63 [0, 1, 2, 3, 4, 5, 6, 7, 8, 9, 10, 11, 12, 13] [] [0, 1, 2, 3, 4, 5, 6, 7, 8, 9, 10] ([]) rfl rfl (by decide) (by decide) (by decide) rfl 0 rfl rfl ⟨Nat.le_of_ble_eq_true rfl, Nat.le_of_ble_eq_true rfl⟩ ⟨Nat.le_of_ble_eq_true rfl, Nat.le_of_ble_eq_true rfl⟩ [] rfl rfl (Nat.le_of_ble_eq_true rfl) dR_takeSigned_24 (fun rv ru hw => ?_)
      rcases hw with ⟨rfl, rfl, g1t⟩ | ⟨rfl, rfl, g1t⟩
      ·
        show xk_Go K D 7 0 0 (tc_wR r cr (g 0) (a 0) wl wm wt (nx + k) ap (tc_f1 0 1) (tc_f2 0 none gz) ++ (tc_wB g cg gb gz ++ tc_wS a ca kn nu wo si de la le ro tm nd)) [(0, .ref (r 0)), (1, .long (lN v)), (3, .int (nI k))] 27 [.int (nI 0)]
        show xk_Go K D 7 0 0 (tc_wR r cr (g 0) (a 0) wl wm wt (nx + k) ap 1 (some gz) ++ (tc_wB g cg gb gz ++ tc_wS a ca kn nu wo si de la le ro tm nd)) [(0, .ref (r 0)), (1, .long (lN v)), (3, .int (nI k))] 27 [.int (nI 0)]
        refine x_istore C [(4, .int (nI 0)), (0, .ref (r 0)), (1, .long (lN v)), (3, .int (nI k))] dR_takeSigned_27 (by decide) rfl ?_
        refine x_lload_n C dR_takeSigned_29 rfl 2 rfl ?_
        refine x_iload C dR_takeSigned_30 0 rfl ?_
        refine x_bipush (v := nI 127) C dR_takeSigned_32 (by decide) ?_
        refine x_iand C dR_takeSigned_34 ?_
        refine x_top (y := nI 0) (by decide) ?_
        refine x_i2l (v := 0) C dR_takeSigned_35 (by decide) ?_
        refine x_bipush (v := nI 7) C dR_takeSigned_36 (by decide) ?_
        refine x_iload_n C dR_takeSigned_38 rfl 3 rfl ?_
        refine x_imulN C dR_takeSigned_39 ?_
        refine x_lshl (v := 0 <<< ((nI (7 * k)).toInt64 &&& 63)) C dR_takeSigned_40 rfl ?_
        refine x_lor C dR_takeSigned_41 ?_
        refine x_topl (tc_grp_or (g := 0) (by omega) e3) ?_
        have e3b := tc_grp_lt (g := 0) e3 (by omega)
        refine x_lstore_n C [(1, .long (lN (v + (0) * 2 ^ (7 * k)))), (4, .int (nI 0)), (0, .ref (r 0)), (3, .int (nI k))] dR_takeSigned_42 rfl (by decide) rfl ?_
        refine x_iinc (q := 3) C (nI (k + 1)) [(3, .int (nI (k + 1))), (1, .long (lN (v + (0) * 2 ^ (7 * k)))), (4, .int (nI 0)), (0, .ref (r 0))] dR_takeSigned_43 rfl (nI_add k 1) (by decide) rfl ?_
        refine x_goto C 9 dR_takeSigned_46 (by decide) ?_
        refine x_iload C dR_takeSigned_9 2 rfl ?_
        refine x_sipush (v := nI 128) C dR_takeSigned_11 (by decide) ?_
        refine x_icmp_lt (tgt := 49) C dR_takeSigned_14 (by decide) (fun _ => ?_) (fun h => absurd (by decide) h)
        exact x_sub [3, 1, 0, 2] rfl (jn49 (v + (0) * 2 ^ (7 * k)) (k + 1) 0 (nx + k) 1 (some gz) 0 true (e2.trans (by rw [hm, tc_scan_e g1t]; simp)) (Or.inl ⟨rfl, rfl, rfl⟩) (by omega) e3b)
      ·
        show xk_Go K D 7 0 0 (tc_wR r cr (g 0) (a 0) wl wm wt ((nx + k) + 1) ap 0 none ++ (tc_wB g cg gb gz ++ tc_wS a ca kn nu wo si de la le ro tm nd)) [(0, .ref (r 0)), (1, .long (lN v)), (3, .int (nI k))] 27 [.int (nI (gb (nx + k) % 256))]
        refine x_istore C [(4, .int (nI (gb (nx + k) % 256))), (0, .ref (r 0)), (1, .long (lN v)), (3, .int (nI k))] dR_takeSigned_27 (by decide) rfl ?_
        refine x_lload_n C dR_takeSigned_29 rfl 2 rfl ?_
        refine x_iload C dR_takeSigned_30 0 rfl ?_
        refine x_bipush (v := nI 127) C dR_takeSigned_32 (by decide) ?_
        refine x_iand C dR_takeSigned_34 ?_
        refine x_top (tc_and127N (by omega)) ?_
        refine x_i2l (v := lN ((gb (nx + k) % 256) % 128)) C dR_takeSigned_35 (nI_l (by omega)) ?_
        refine x_bipush (v := nI 7) C dR_takeSigned_36 (by decide) ?_
        refine x_iload_n C dR_takeSigned_38 rfl 3 rfl ?_
        refine x_imulN C dR_takeSigned_39 ?_
        refine x_lshl (v := (lN ((gb (nx + k) % 256) % 128)) <<< ((nI (7 * k)).toInt64 &&& 63)) C dR_takeSigned_40 rfl ?_
        refine x_lor C dR_takeSigned_41 ?_
        refine x_topl (tc_grp_or (g := (gb (nx + k) % 256) % 128) (by omega) e3) ?_
        have e3b := tc_grp_lt (g := (gb (nx + k) % 256) % 128) e3 (by omega)
        refine x_lstore_n C [(1, .long (lN (v + ((gb (nx + k) % 256) % 128) * 2 ^ (7 * k)))), (4, .int (nI (gb (nx + k) % 256))), (0, .ref (r 0)), (3, .int (nI k))] dR_takeSigned_42 rfl (by decide) rfl ?_
        refine x_iinc (q := 3) C (nI (k + 1)) [(3, .int (nI (k + 1))), (1, .long (lN (v + ((gb (nx + k) % 256) % 128) * 2 ^ (7 * k)))), (4, .int (nI (gb (nx + k) % 256))), (0, .ref (r 0))] dR_takeSigned_43 rfl (nI_add k 1) (by decide) rfl ?_
        refine x_goto C 9 dR_takeSigned_46 (by decide) ?_
        refine x_iload C dR_takeSigned_9 2 rfl ?_
        refine x_sipush (v := nI 128) C dR_takeSigned_11 (by decide) ?_
        refine x_icmp_ltN (tgt := 49) C (by omega) (by decide) dR_takeSigned_14 (by decide) (fun h14 => ?_) (fun h14 => ?_)
        ·
          exact x_sub [3, 1, 0, 2] rfl (jn49 (v + ((gb (nx + k) % 256) % 128) * 2 ^ (7 * k)) (k + 1) (gb (nx + k) % 256) ((nx + k) + 1) 0 none (gb (nx + k) % 256) false (e2.trans (by rw [hm, tc_scan_l (Nat.not_le.mpr g1t) h14]; simp only [tc_B]; rw [Nat.mod_eq_of_lt h14])) (Or.inr ⟨rfl, rfl, rfl, rfl, Or.inl ⟨rfl, h14⟩⟩) (by omega) e3b)
        ·
          refine x_iload_n C dR_takeSigned_17 rfl 0 rfl ?_
          refine x_bipush (v := nI 10) C dR_takeSigned_18 (by decide) ?_
          refine x_icmp_geN (tgt := 49) C (by omega) (by decide) dR_takeSigned_20 (by decide) (fun h20 => ?_) (fun h20 => ?_)
          ·
            exact x_sub [3, 1, 0, 2] rfl (jn49 (v + ((gb (nx + k) % 256) % 128) * 2 ^ (7 * k)) (k + 1) (gb (nx + k) % 256) ((nx + k) + 1) 0 none 128 false (e2.trans (by rw [hm, tc_scan_m (Nat.not_le.mpr g1t) (Nat.not_lt.mpr h14), show 9 - k = 0 by omega]; rfl)) (Or.inr ⟨rfl, rfl, rfl, rfl, Or.inr ⟨h14, rfl, by omega⟩⟩) (by omega) e3b)
          ·
            exact x_sub [3, 1, 0] rfl (ih23 (v + (gb (nx + k) % 256) % 128 * 2 ^ (7 * k)) (k + 1) (by omega) (by omega) (e2.trans (by rw [hm, tc_scan_m (Nat.not_le.mpr g1t) (Nat.not_lt.mpr h14), show 10 - (k + 1) = 9 - k by omega]; rfl)) e3b (by omega))
  exact x_sub [3, 2, 1] rfl (lp23 _ 0 0 (Nat.lt_succ_self _) (by decide) rfl (by decide) (by omega))
