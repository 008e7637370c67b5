set_option maxHeartbeats 4000000 in
set_option maxRecDepth 100000 in
/-- isArg -/
theorem c_M_isArg (D : va_G) (kd : Nat) (x : Int64) (y1 : kd ≤ 11) (y2 : ¬ kd = 8) : xk_Ct yM_isArg cM_isArg 3 (some .boolean) { frames := 0, cells := 0, slots := 0, locals := 0 } D ([]) [.int (nI kd), .long x] ([]) (fun rv ru => (rv = some (.int (xk_bZ (tc_fit kd x))) ∧ ru = [])) := by
  refine xk_enter (by decide) (Nat.le_of_ble_eq_true rfl) (fun K C T hin => ?_)
  show xk_Go K D 3 0 0 ([]) [(0, .int (nI kd)), (1, .long x)] 0 []
  refine x_iload_n C dM_isArg_0 rfl 0 rfl ?_
  refine x_bipush (v := nI 7) C dM_isArg_1 (by decide) ?_
  refine x_icmp_eqN (tgt := 77) C (by omega) (by decide) dM_isArg_3 (by decide) (fun h3 => ?_) (fun h3 => ?_)
  ·
    refine x_iconst (v := nI 1) C dM_isArg_77 (by decide) ?_
    refine x_goto C 82 dM_isArg_78 (by decide) ?_
    exact x_iret C T .boolean rfl rfl dM_isArg_82 (⟨by rw [show tc_fit kd x = true from tc_fit_t (tc_fa_7 h3)]; rfl, rfl⟩)
  ·
    refine x_iload_n C dM_isArg_6 rfl 0 rfl ?_
    refine x_if_neN (tgt := 27) C (by omega) dM_isArg_7 (by decide) (fun h7 => ?_) (fun h7 => ?_)
    ·
      refine x_iload_n C dM_isArg_27 rfl 0 rfl ?_
      refine x_bipush (v := nI 6) C dM_isArg_28 (by decide) ?_
      refine x_icmp_neN (tgt := 50) C (by omega) (by decide) dM_isArg_30 (by decide) (fun h30 => ?_) (fun h30 => ?_)
      ·
        refine x_iload_n C dM_isArg_50 rfl 0 rfl ?_
        refine x_bipush (v := nI 9) C dM_isArg_51 (by decide) ?_
        refine x_icmp_neN (tgt := 71) C (by omega) (by decide) dM_isArg_53 (by decide) (fun h53 => ?_) (fun h53 => ?_)
        ·
          refine x_lload_n C dM_isArg_71 rfl 1 rfl ?_
          refine x_lconst (v := 0) C dM_isArg_72 (by decide) ?_
          refine x_lcmp C dM_isArg_73 ?_
          refine x_if_neC (tgt := 81) C dM_isArg_74 (by decide) (fun h74 => ?_) (fun h74 => ?_)
          ·
            refine x_iconst (v := nI 0) C dM_isArg_81 (by decide) ?_
            exact x_iret C T .boolean rfl rfl dM_isArg_82 (⟨by rw [show tc_fit kd x = false from tc_fit_f (fun q => h74 ((tc_fa_o h3 h7 h30 h53 y2).mp q))]; rfl, rfl⟩)
          ·
            refine x_iconst (v := nI 1) C dM_isArg_77 (by decide) ?_
            refine x_goto C 82 dM_isArg_78 (by decide) ?_
            exact x_iret C T .boolean rfl rfl dM_isArg_82 (⟨by rw [show tc_fit kd x = true from tc_fit_t ((tc_fa_o h3 h7 h30 h53 y2).mpr h74)]; rfl, rfl⟩)
        ·
          refine x_lload_n C dM_isArg_56 rfl 1 rfl ?_
          refine x_lconst (v := 0) C dM_isArg_57 (by decide) ?_
          refine x_lcmp C dM_isArg_58 ?_
          refine x_if_eqC (tgt := 77) C dM_isArg_59 (by decide) (fun h59 => ?_) (fun h59 => ?_)
          ·
            refine x_iconst (v := nI 1) C dM_isArg_77 (by decide) ?_
            refine x_goto C 82 dM_isArg_78 (by decide) ?_
            exact x_iret C T .boolean rfl rfl dM_isArg_82 (⟨by rw [show tc_fit kd x = true from tc_fit_t ((tc_fa_9 h53).mpr (Or.inl h59))]; rfl, rfl⟩)
          ·
            refine x_lload_n C dM_isArg_62 rfl 1 rfl ?_
            refine x_lconst (v := 1) C dM_isArg_63 (by decide) ?_
            refine x_lcmp C dM_isArg_64 ?_
            refine x_if_neC (tgt := 81) C dM_isArg_65 (by decide) (fun h65 => ?_) (fun h65 => ?_)
            ·
              refine x_iconst (v := nI 0) C dM_isArg_81 (by decide) ?_
              exact x_iret C T .boolean rfl rfl dM_isArg_82 (⟨by rw [show tc_fit kd x = false from tc_fit_f (fun q => ((tc_fa_9 h53).mp q).elim h59 h65)]; rfl, rfl⟩)
            ·
              refine x_goto C 77 dM_isArg_68 (by decide) ?_
              refine x_iconst (v := nI 1) C dM_isArg_77 (by decide) ?_
              refine x_goto C 82 dM_isArg_78 (by decide) ?_
              exact x_iret C T .boolean rfl rfl dM_isArg_82 (⟨by rw [show tc_fit kd x = true from tc_fit_t ((tc_fa_9 h53).mpr (Or.inr h65))]; rfl, rfl⟩)
      ·
        refine x_lload_n C dM_isArg_33 rfl 1 rfl ?_
        refine x_lconst (v := 0) C dM_isArg_34 (by decide) ?_
        refine x_lcmp C dM_isArg_35 ?_
        refine x_if_ltC (tgt := 81) C dM_isArg_36 (by decide) (fun h36 => ?_) (fun h36 => ?_)
        ·
          refine x_iconst (v := nI 0) C dM_isArg_81 (by decide) ?_
          exact x_iret C T .boolean rfl rfl dM_isArg_82 (⟨by rw [show tc_fit kd x = false from tc_fit_f (fun q => absurd h36 (Int64.not_lt.mpr ((tc_fa_6 h30).mp q).1))]; rfl, rfl⟩)
        ·
          refine x_lload_n C dM_isArg_39 rfl 1 rfl ?_
          refine x_ldc2 (v := 31) C dM_isArg_40 klM_99 ?_
          refine x_lcmp C dM_isArg_43 ?_
          refine x_if_gtC (tgt := 81) C dM_isArg_44 (by decide) (fun h44 => ?_) (fun h44 => ?_)
          ·
            refine x_iconst (v := nI 0) C dM_isArg_81 (by decide) ?_
            exact x_iret C T .boolean rfl rfl dM_isArg_82 (⟨by rw [show tc_fit kd x = false from tc_fit_f (fun q => absurd h44 (Int64.not_lt.mpr ((tc_fa_6 h30).mp q).2))]; rfl, rfl⟩)
          ·
            refine x_goto C 77 dM_isArg_47 (by decide) ?_
            refine x_iconst (v := nI 1) C dM_isArg_77 (by decide) ?_
            refine x_goto C 82 dM_isArg_78 (by decide) ?_
            exact x_iret C T .boolean rfl rfl dM_isArg_82 (⟨by rw [show tc_fit kd x = true from tc_fit_t ((tc_fa_6 h30).mpr ⟨Int64.not_lt.mp h36, Int64.not_lt.mp h44⟩)]; rfl, rfl⟩)
    ·
      refine x_lload_n C dM_isArg_10 rfl 1 rfl ?_
      refine x_lconst (v := 1) C dM_isArg_11 (by decide) ?_
      refine x_lcmp C dM_isArg_12 ?_
      refine x_if_ltC (tgt := 81) C dM_isArg_13 (by decide) (fun h13 => ?_) (fun h13 => ?_)
      ·
        refine x_iconst (v := nI 0) C dM_isArg_81 (by decide) ?_
        exact x_iret C T .boolean rfl rfl dM_isArg_82 (⟨by rw [show tc_fit kd x = false from tc_fit_f (fun q => absurd h13 (Int64.not_lt.mpr ((tc_fa_0 h7).mp q).1))]; rfl, rfl⟩)
      ·
        refine x_lload_n C dM_isArg_16 rfl 1 rfl ?_
        refine x_ldc2 (v := 200) C dM_isArg_17 klM_97 ?_
        refine x_lcmp C dM_isArg_20 ?_
        refine x_if_gtC (tgt := 81) C dM_isArg_21 (by decide) (fun h21 => ?_) (fun h21 => ?_)
        ·
          refine x_iconst (v := nI 0) C dM_isArg_81 (by decide) ?_
          exact x_iret C T .boolean rfl rfl dM_isArg_82 (⟨by rw [show tc_fit kd x = false from tc_fit_f (fun q => absurd h21 (Int64.not_lt.mpr ((tc_fa_0 h7).mp q).2))]; rfl, rfl⟩)
        ·
          refine x_goto C 77 dM_isArg_24 (by decide) ?_
          refine x_iconst (v := nI 1) C dM_isArg_77 (by decide) ?_
          refine x_goto C 82 dM_isArg_78 (by decide) ?_
          exact x_iret C T .boolean rfl rfl dM_isArg_82 (⟨by rw [show tc_fit kd x = true from tc_fit_t ((tc_fa_0 h7).mpr ⟨Int64.not_lt.mp h13, Int64.not_lt.mp h21⟩)]; rfl, rfl⟩)
set_option maxHeartbeats 4000000 in
set_option maxRecDepth 100000 in
/-- deepest -/
theorem c_M_deepest (D : va_G) (mm : Nat → Nat) (cmm : Nat → ClassId) (th : Nat) (iu : Nat → Bool) (ki : Nat → Nat) (mu : Nat → Int64) (fs : Nat → Option Nat) (ss : Nat → Option Nat) (tx : Nat → Nat) (us : Nat) (te : Nat → Nat) (my : Nat) (mo : Nat → Nat) (mz : Nat) (mi : Nat → Nat) (iz : Nat) (ma : Nat) (mf : Nat) (mp : Option Nat) (od : Nat → Nat) (ar : Nat → Option Nat) (lw : Nat → Nat) (oc : Nat) (sk : Nat → Nat) (sa : Nat → Option Nat) (sl : Nat → Nat) (pp : Nat) (re : Nat → Nat) (rd : Nat) (co : Nat → Nat) (dq : Nat → Nat) (bo : Nat → Nat) (lc : Nat → Nat) (n : Nat) (Ts : List (List tc_Nd)) (y1 : tc_RM Ts (iu, ki, mu, fs, ss, tx) us te my) (y2 : n ≤ my) : xk_Ct yM_deepest cM_deepest 5 (some .int) { frames := 2, cells := 0, slots := 0, locals := 50 } D (tc_tM cmm) [.ref (mm 0), .int (nI n)] (tc_wM mm cmm th iu ki mu fs ss tx us te my mo mz mi iz ma mf mp od ar lw oc sk sa sl pp re rd co dq bo lc) (fun rv ru => (∃ (odg : Nat → Nat), ∃ (arg : Nat → Option Nat), ∃ (lwg : Nat → Nat), ∃ (skg : Nat → Nat), ∃ (sag : Nat → Option Nat), ∃ (slg : Nat → Nat), ∃ (ocg : Nat), rv = some (.int (nI (tc_dm Ts n))) ∧ ru = tc_wM mm cmm th iu ki mu fs ss tx us te my mo mz mi iz ma mf mp odg arg lwg ocg skg sag slg pp re rd co dq bo lc)) := by
  refine xk_enter (by decide) (Nat.le_of_ble_eq_true rfl) (fun K C T hin => ?_)
  obtain ⟨yu, yv, yn, yc⟩ := tc_RM_us y1
  show xk_Go K D 5 0 0 (tc_wM mm cmm th iu ki mu fs ss tx us te my mo mz mi iz ma mf mp od ar lw oc sk sa sl pp re rd co dq bo lc) [(0, .ref (mm 0)), (1, .int (nI n))] 0 []
  refine x_iconst (v := nI 0) C dM_deepest_0 (by decide) ?_
  refine x_istore_n C [(2, .int (nI 0)), (0, .ref (mm 0)), (1, .int (nI n))] dM_deepest_1 rfl (by decide) rfl ?_
  refine x_iconst (v := nI 0) C dM_deepest_2 (by decide) ?_
  refine x_istore_n C [(3, .int (nI 0)), (2, .int (nI 0)), (0, .ref (mm 0)), (1, .int (nI n))] dM_deepest_3 rfl (by decide) rfl ?_
  have lp4 : ∀ (zc : Nat) (k : Nat) (odg : Nat → Nat) (arg : Nat → Option Nat) (lwg : Nat → Nat) (skg : Nat → Nat) (sag : Nat → Option Nat) (slg : Nat → Nat) (ocg : Nat), (n - k) < zc → (k ≤ n) → (tc_dm Ts k ≤ 60) → xk_Go K D 5 0 0 (tc_wM mm cmm th iu ki mu fs ss tx us te my mo mz mi iz ma mf mp odg arg lwg ocg skg sag slg pp re rd co dq bo lc) [(0, .ref (mm 0)), (1, .int (nI n)), (2, .int (nI (tc_dm Ts k))), (3, .int (nI k))] 4 [] := by
    intro zc
    induction zc with
    | zero => intro k odg arg lwg skg sag slg ocg hm; exact absurd hm (Nat.not_lt_zero _)
    | succ zc ih4 =>
      intro k odg arg lwg skg sag slg ocg hm e1 e2
      refine x_iload_n C dM_deepest_4 rfl 3 rfl ?_
      refine x_iload_n C dM_deepest_5 rfl 1 rfl ?_
      refine x_icmp_geN (tgt := 47) C (by omega) (by omega) dM_deepest_6 (by decide) (fun h6 => ?_) (fun h6 => ?_)
      ·
        refine x_iload_n C dM_deepest_47 rfl 2 rfl ?_
        obtain rfl : k = n := by omega
        exact x_iret C T .int rfl rfl dM_deepest_48 (⟨_, _, _, _, _, _, _, rfl, rfl⟩)
      ·
        obtain ⟨ids, ht, hg, hok⟩ := tc_RM_nth y1 (k := k) (by omega)
        have hdp := hok.2.1
        have hn200 := hg.2.1
        refine x_aload_n C dM_deepest_9 rfl 0 rfl ?_
        refine x_aload_n C dM_deepest_10 rfl 0 rfl ?_
        refine x_get C fgM_31 0 rfl rfl dM_deepest_11 ?_
        refine x_aload_n C dM_deepest_14 rfl 0 rfl ?_
        refine x_get C fgM_94 0 rfl rfl dM_deepest_15 ?_
        refine x_iconst (v := nI 1) C dM_deepest_18 (by decide) ?_
        refine x_isubN C (by omega) dM_deepest_19 ?_
        refine x_iload_n C dM_deepest_20 rfl 3 rfl ?_
        refine x_isubN C (by omega) dM_deepest_21 ?_
        refine x_ild C 7 6 rfl rfl (by omega) (by decide) dM_deepest_22 ?_
        show xk_Go K D 5 0 0 (tc_wM mm cmm th iu ki mu fs ss tx us te my mo mz mi iz ma mf mp odg arg lwg ocg skg sag slg pp re rd co dq bo lc) [(0, .ref (mm 0)), (1, .int (nI n)), (2, .int (nI (tc_dm Ts k))), (3, .int (nI k))] 23 [.int (nI (te (my - 1 - k))), .ref (mm 0)]
        refine x_callV C (c_M_depthOf D mm cmm th iu ki mu fs ss tx us te my mo mz mi iz ma mf mp odg arg lwg ocg skg sag slg pp re rd co dq bo lc (te (my - 1 - k)) ids hg) kbM_101 kcM_101 [0, 1, 2, 3, 4, 5, 6, 7, 8, 9, 10, 11, 12, 13, 14, 15, 16, 17, 18, 19, 20] [] [0, 1, 2, 3, 4, 5, 6, 7, 8, 9, 10, 11, 12, 13, 14, 15, 16, 17, 18, 19] ([]) rfl rfl (by decide) (by decide) (by decide) rfl 0 rfl rfl ⟨Nat.le_of_ble_eq_true rfl, Nat.le_of_ble_eq_true rfl⟩ ⟨Nat.le_of_ble_eq_true rfl, Nat.le_of_ble_eq_true rfl⟩ [] rfl rfl (Nat.le_of_ble_eq_true rfl) dM_deepest_23 (fun rv ru hw => ?_)
        obtain ⟨od1, ar1, lw1, sk1, sa1, sl1, rfl, rfl, g1⟩ := hw
        show xk_Go K D 5 0 0 (tc_wM mm cmm th iu ki mu fs ss tx us te my mo mz mi iz ma mf mp od1 ar1 lw1 ids.length sk1 sa1 sl1 pp re rd co dq bo lc) [(0, .ref (mm 0)), (1, .int (nI n)), (2, .int (nI (tc_dm Ts k))), (3, .int (nI k))] 26 [.int (nI (tc_dp (ids.map (tc_mn ki mu tx))))]
        refine x_istore C [(4, .int (nI (tc_dp (ids.map (tc_mn ki mu tx))))), (0, .ref (mm 0)), (1, .int (nI n)), (2, .int (nI (tc_dm Ts k))), (3, .int (nI k))] dM_deepest_26 (by decide) rfl ?_
        refine x_iload C dM_deepest_28 0 rfl ?_
        refine x_iload_n C dM_deepest_30 rfl 3 rfl ?_
        refine x_icmp_leN (tgt := 39) C (by omega) (by omega) dM_deepest_31 (by decide) (fun h31 => ?_) (fun h31 => ?_)
        ·
          refine x_iload_n C dM_deepest_39 rfl 3 rfl ?_
          refine x_istore_n C [(2, .int (nI (tc_dm Ts k))), (4, .int (nI (tc_dp (ids.map (tc_mn ki mu tx))))), (0, .ref (mm 0)), (1, .int (nI n)), (3, .int (nI k))] dM_deepest_40 rfl (by decide) rfl ?_
          refine x_iinc (q := 4) C (nI (k + 1)) [(3, .int (nI (k + 1))), (2, .int (nI (tc_dm Ts k))), (4, .int (nI (tc_dp (ids.map (tc_mn ki mu tx))))), (0, .ref (mm 0)), (1, .int (nI n))] dM_deepest_41 rfl (nI_add k 1) (by decide) rfl ?_
          refine x_goto C 4 dM_deepest_44 (by decide) ?_
          rw [show tc_dm Ts k = tc_dm Ts (k + 1) by rw [tc_dm_s ht]; omega]
          exact x_sub [3, 4, 1, 0] rfl (ih4 (k + 1) od1 ar1 lw1 sk1 sa1 sl1 ids.length (by omega) (by omega) (by rw [tc_dm_s ht]; omega))
        ·
          refine x_iload C dM_deepest_34 0 rfl ?_
          refine x_goto C 40 dM_deepest_36 (by decide) ?_
          refine x_istore_n C [(2, .int (nI (tc_dp (ids.map (tc_mn ki mu tx))))), (4, .int (nI (tc_dp (ids.map (tc_mn ki mu tx))))), (0, .ref (mm 0)), (1, .int (nI n)), (3, .int (nI k))] dM_deepest_40 rfl (by decide) rfl ?_
          refine x_iinc (q := 4) C (nI (k + 1)) [(3, .int (nI (k + 1))), (2, .int (nI (tc_dp (ids.map (tc_mn ki mu tx))))), (4, .int (nI (tc_dp (ids.map (tc_mn ki mu tx))))), (0, .ref (mm 0)), (1, .int (nI n))] dM_deepest_41 rfl (nI_add k 1) (by decide) rfl ?_
          refine x_goto C 4 dM_deepest_44 (by decide) ?_
          rw [show tc_dp (ids.map (tc_mn ki mu tx)) = tc_dm Ts (k + 1) by rw [tc_dm_s ht]; omega]
          exact x_sub [3, 4, 1, 0] rfl (ih4 (k + 1) od1 ar1 lw1 sk1 sa1 sl1 ids.length (by omega) (by omega) (by rw [tc_dm_s ht]; omega))
  exact x_sub [2, 3, 1, 0] rfl (lp4 _ 0 od ar lw sk sa sl oc (Nat.lt_succ_self _) (Nat.zero_le _) (Nat.zero_le _))
set_option maxHeartbeats 4000000 in
set_option maxRecDepth 100000 in
/-- node -/
theorem c_M_node (D : va_G) (mm : Nat → Nat) (cmm : Nat → ClassId) (th : Nat) (iu : Nat → Bool) (ki : Nat → Nat) (mu : Nat → Int64) (fs : Nat → Option Nat) (ss : Nat → Option Nat) (tx : Nat → Nat) (us : Nat) (te : Nat → Nat) (my : Nat) (mo : Nat → Nat) (mz : Nat) (mi : Nat → Nat) (iz : Nat) (ma : Nat) (mf : Nat) (mp : Option Nat) (od : Nat → Nat) (ar : Nat → Option Nat) (lw : Nat → Nat) (oc : Nat) (sk : Nat → Nat) (sa : Nat → Option Nat) (sl : Nat → Nat) (pp : Nat) (re : Nat → Nat) (rd : Nat) (co : Nat → Nat) (dq : Nat → Nat) (bo : Nat → Nat) (lc : Nat → Nat) (kd : Int32) (x : Int64) (Ts : List (List tc_Nd)) (y1 : tc_RM Ts (iu, ki, mu, fs, ss, tx) us te my) : xk_Ct yM_node cM_node 6 (some .int) { frames := 3, cells := 0, slots := 0, locals := 74 } D (tc_tM cmm) [.ref (mm 0), .int kd, .long x] (tc_wM mm cmm th iu ki mu fs ss tx us te my mo mz mi iz ma mf mp od ar lw oc sk sa sl pp re rd co dq bo lc) (fun rv ru => (rv = some (.int (nI 0)) ∧ ru = tc_wM mm cmm 1 iu ki mu fs ss tx us te my mo mz mi iz ma mf mp od ar lw oc sk sa sl pp re rd co dq bo lc ∧ (tc_nk kd x = none)) ∨ (∃ (k : Nat), ∃ (odg : Nat → Nat), ∃ (arg : Nat → Option Nat), ∃ (lwg : Nat → Nat), ∃ (skg : Nat → Nat), ∃ (sag : Nat → Option Nat), ∃ (slg : Nat → Nat), ∃ (ocg : Nat), rv = some (.int (nI 0)) ∧ ru = tc_wM mm cmm 2 iu ki mu fs ss tx us te my mo mz mi iz ma mf mp odg arg lwg ocg skg sag slg pp re rd co dq bo lc ∧ (tc_nk kd x = some k) ∧ (tc_put (k, x, []) Ts = none)) ∨ (∃ (k : Nat), ∃ (Tg : List (List tc_Nd)), ∃ (iug : Nat → Bool), ∃ (kig : Nat → Nat), ∃ (mug : Nat → Int64), ∃ (fsg : Nat → Option Nat), ∃ (ssg : Nat → Option Nat), ∃ (txg : Nat → Nat), ∃ (usg : Nat), ∃ (teg : Nat → Nat), ∃ (myg : Nat), ∃ (odg : Nat → Nat), ∃ (arg : Nat → Option Nat), ∃ (lwg : Nat → Nat), ∃ (skg : Nat → Nat), ∃ (sag : Nat → Option Nat), ∃ (slg : Nat → Nat), ∃ (ocg : Nat), rv = some (.int (nI Tg.length)) ∧ ru = tc_wM mm cmm 0 iug kig mug fsg ssg txg usg teg myg mo mz mi iz ma mf mp odg arg lwg ocg skg sag slg pp re rd co dq bo lc ∧ (tc_nk kd x = some k) ∧ (tc_put (k, x, []) Ts = some Tg) ∧ (tc_RM Tg (iug, kig, mug, fsg, ssg, txg) usg teg myg))) := by
  refine xk_enter (by decide) (Nat.le_of_ble_eq_true rfl) (fun K C T hin => ?_)
  obtain ⟨yu, yv, yn, yc⟩ := tc_RM_us y1
  show xk_Go K D 6 0 0 (tc_wM mm cmm th iu ki mu fs ss tx us te my mo mz mi iz ma mf mp od ar lw oc sk sa sl pp re rd co dq bo lc) [(0, .ref (mm 0)), (1, .int kd), (2, .long x)] 0 []
  refine x_aload_n C dM_node_0 rfl 0 rfl ?_
  refine x_iload_n C dM_node_1 rfl 1 rfl ?_
  refine x_if_lt (tgt := 25) C dM_node_2 (by decide) (fun h2 => ?_) (fun h2 => ?_)
  ·
    refine x_iconst (v := nI 1) C dM_node_25 (by decide) ?_
    refine x_goto C 30 dM_node_26 (by decide) ?_
    refine x_put C fpM_77 0 (tc_wM mm cmm 1 iu ki mu fs ss tx us te my mo mz mi iz ma mf mp od ar lw oc sk sa sl pp re rd co dq bo lc) rfl rfl rfl rfl (Nat.le_of_ble_eq_true rfl) dM_node_30 ?_
    refine x_aload_n C dM_node_33 rfl 0 rfl ?_
    refine x_get C fgM_77 0 rfl rfl dM_node_34 ?_
    refine x_if_le (tgt := 42) C dM_node_37 (by decide) (fun h => absurd h (by decide)) (fun _ => ?_)
    refine x_iconst (v := nI 0) C dM_node_40 (by decide) ?_
    exact x_iret C T .int rfl rfl dM_node_41 (Or.inl (⟨rfl, rfl, (tc_nk_lo h2)⟩))
  ·
    obtain ⟨j, hj, rfl⟩ := nI_of h2
    refine x_iload_n C dM_node_5 rfl 1 rfl ?_
    refine x_bipush (v := nI 11) C dM_node_6 (by decide) ?_
    refine x_icmp_gtN (tgt := 25) C (by omega) (by decide) dM_node_8 (by decide) (fun h8 => ?_) (fun h8 => ?_)
    ·
      refine x_iconst (v := nI 1) C dM_node_25 (by decide) ?_
      refine x_goto C 30 dM_node_26 (by decide) ?_
      refine x_put C fpM_77 0 (tc_wM mm cmm 1 iu ki mu fs ss tx us te my mo mz mi iz ma mf mp od ar lw oc sk sa sl pp re rd co dq bo lc) rfl rfl rfl rfl (Nat.le_of_ble_eq_true rfl) dM_node_30 ?_
      refine x_aload_n C dM_node_33 rfl 0 rfl ?_
      refine x_get C fgM_77 0 rfl rfl dM_node_34 ?_
      refine x_if_le (tgt := 42) C dM_node_37 (by decide) (fun h => absurd h (by decide)) (fun _ => ?_)
      refine x_iconst (v := nI 0) C dM_node_40 (by decide) ?_
      exact x_iret C T .int rfl rfl dM_node_41 (Or.inl (⟨rfl, rfl, (tc_nk_no hj (Or.inl h8))⟩))
    ·
      refine x_iload_n C dM_node_11 rfl 1 rfl ?_
      refine x_bipush (v := nI 8) C dM_node_12 (by decide) ?_
      refine x_icmp_eqN (tgt := 25) C (by omega) (by decide) dM_node_14 (by decide) (fun h14 => ?_) (fun h14 => ?_)
      ·
        refine x_iconst (v := nI 1) C dM_node_25 (by decide) ?_
        refine x_goto C 30 dM_node_26 (by decide) ?_
        refine x_put C fpM_77 0 (tc_wM mm cmm 1 iu ki mu fs ss tx us te my mo mz mi iz ma mf mp od ar lw oc sk sa sl pp re rd co dq bo lc) rfl rfl rfl rfl (Nat.le_of_ble_eq_true rfl) dM_node_30 ?_
        refine x_aload_n C dM_node_33 rfl 0 rfl ?_
        refine x_get C fgM_77 0 rfl rfl dM_node_34 ?_
        refine x_if_le (tgt := 42) C dM_node_37 (by decide) (fun h => absurd h (by decide)) (fun _ => ?_)
        refine x_iconst (v := nI 0) C dM_node_40 (by decide) ?_
        exact x_iret C T .int rfl rfl dM_node_41 (Or.inl (⟨rfl, rfl, (tc_nk_no hj (Or.inr (Or.inl h14)))⟩))
      ·
        refine x_iload_n C dM_node_17 rfl 1 rfl ?_
        refine x_lload_n C dM_node_18 rfl 2 rfl ?_
        refine x_callS C (c_M_isArg D j x (by omega) h14) kbM_105 kcM_105 [] [0, 1, 2, 3, 4, 5, 6, 7, 8, 9, 10, 11, 12, 13, 14, 15, 16, 17, 18, 19, 20] [] (tc_wM mm cmm th iu ki mu fs ss tx us te my mo mz mi iz ma mf mp od ar lw oc sk sa sl pp re rd co dq bo lc) rfl rfl (by decide) (by decide) (by decide) rfl ⟨Nat.le_of_ble_eq_true rfl, Nat.le_of_ble_eq_true rfl⟩ ⟨Nat.le_of_ble_eq_true rfl, Nat.le_of_ble_eq_true rfl⟩ [.ref (mm 0)] rfl rfl (Nat.le_of_ble_eq_true rfl) dM_node_19 (fun rv ru hw => ?_)
        obtain ⟨rfl, rfl⟩ := hw
        show xk_Go K D 6 0 0 (tc_wM mm cmm th iu ki mu fs ss tx us te my mo mz mi iz ma mf mp od ar lw oc sk sa sl pp re rd co dq bo lc) [(0, .ref (mm 0)), (1, .int (nI j)), (2, .long x)] 22 [.int (xk_bZ (tc_fit j x)), .ref (mm 0)]
        refine x_if_neB (tgt := 29) C dM_node_22 (by decide) (fun h22 => ?_) (fun h22 => ?_)
        ·
          have hfit := h22
          have hnk := tc_nk_in (x := x) (show j ≤ 11 by omega) h14 h22
          refine x_iconst (v := nI 0) C dM_node_29 (by decide) ?_
          refine x_put C fpM_77 0 (tc_wM mm cmm 0 iu ki mu fs ss tx us te my mo mz mi iz ma mf mp od ar lw oc sk sa sl pp re rd co dq bo lc) rfl rfl rfl rfl (Nat.le_of_ble_eq_true rfl) dM_node_30 ?_
          refine x_aload_n C dM_node_33 rfl 0 rfl ?_
          refine x_get C fgM_77 0 rfl rfl dM_node_34 ?_
          refine x_if_le (tgt := 42) C dM_node_37 (by decide) (fun _ => ?_) (fun h => absurd (by decide) h)
          refine x_iload_n C dM_node_42 rfl 1 rfl ?_
          refine x_callS C (c_M_takes D j (by omega)) kbM_109 kcM_109 [] [0, 1, 2, 3, 4, 5, 6, 7, 8, 9, 10, 11, 12, 13, 14, 15, 16, 17, 18, 19, 20] [] (tc_wM mm cmm 0 iu ki mu fs ss tx us te my mo mz mi iz ma mf mp od ar lw oc sk sa sl pp re rd co dq bo lc) rfl rfl (by decide) (by decide) (by decide) rfl ⟨Nat.le_of_ble_eq_true rfl, Nat.le_of_ble_eq_true rfl⟩ ⟨Nat.le_of_ble_eq_true rfl, Nat.le_of_ble_eq_true rfl⟩ [] rfl rfl (Nat.le_of_ble_eq_true rfl) dM_node_43 (fun rv ru hw => ?_)
          obtain ⟨rfl, rfl⟩ := hw
          show xk_Go K D 6 0 0 (tc_wM mm cmm 0 iu ki mu fs ss tx us te my mo mz mi iz ma mf mp od ar lw oc sk sa sl pp re rd co dq bo lc) [(0, .ref (mm 0)), (1, .int (nI j)), (2, .long x)] 46 [.int (nI (tc_tk j))]
          refine x_istore C [(4, .int (nI (tc_tk j))), (0, .ref (mm 0)), (1, .int (nI j)), (2, .long x)] dM_node_46 (by decide) rfl ?_
          rcases tc_tk3 j with hk | hk | hk
          ·
            rw [hk]
            refine x_aload_n C dM_node_48 rfl 1 rfl ?_
            refine x_aload_n C dM_node_49 rfl 1 rfl ?_
            refine x_get C fgM_94 0 rfl rfl dM_node_50 ?_
            refine x_iload C dM_node_53 0 rfl ?_
            refine x_icmp_ltN (tgt := 68) C (by omega) (by decide) dM_node_55 (by decide) (fun h55 => ?_) (fun h55 => ?_)
            ·
              exact absurd h55 (by omega)
            ·
              refine x_aload_n C dM_node_58 rfl 1 rfl ?_
              refine x_get C fgM_84 0 rfl rfl dM_node_59 ?_
              refine x_sipush (v := nI 200) C dM_node_62 (by decide) ?_
              refine x_icmp_neN (tgt := 72) C (by omega) (by decide) dM_node_65 (by decide) (fun h65 => ?_) (fun h65 => ?_)
              ·
                refine x_iconst (v := nI 0) C dM_node_72 (by decide) ?_
                refine x_put C fpM_77 0 (tc_wM mm cmm 0 iu ki mu fs ss tx us te my mo mz mi iz ma mf mp od ar lw oc sk sa sl pp re rd co dq bo lc) rfl rfl rfl rfl (Nat.le_of_ble_eq_true rfl) dM_node_73 ?_
                refine x_aload_n C dM_node_76 rfl 1 rfl ?_
                refine x_get C fgM_77 0 rfl rfl dM_node_77 ?_
                refine x_if_le (tgt := 85) C dM_node_80 (by decide) (fun _ => ?_) (fun h => absurd (by decide) h)
                refine x_aload_n C dM_node_85 rfl 1 rfl ?_
                refine x_aload_n C dM_node_86 rfl 1 rfl ?_
                refine x_iload C dM_node_87 0 rfl ?_
                refine x_callV C (c_M_deepest D mm cmm 0 iu ki mu fs ss tx us te my mo mz mi iz ma mf mp od ar lw oc sk sa sl pp re rd co dq bo lc 0 Ts y1 (by omega)) kbM_112 kcM_112 [0, 1, 2, 3, 4, 5, 6, 7, 8, 9, 10, 11, 12, 13, 14, 15, 16, 17, 18, 19, 20] [] [0, 1, 2, 3, 4, 5, 6, 7, 8, 9, 10, 11, 12, 13, 14, 15, 16, 17, 18, 19] ([]) rfl rfl (by decide) (by decide) (by decide) rfl 0 rfl rfl ⟨Nat.le_of_ble_eq_true rfl, Nat.le_of_ble_eq_true rfl⟩ ⟨Nat.le_of_ble_eq_true rfl, Nat.le_of_ble_eq_true rfl⟩ [.ref (mm 0)] rfl rfl (Nat.le_of_ble_eq_true rfl) dM_node_89 (fun rv ru hw => ?_)
                obtain ⟨odg, arg, lwg, skg, sag, slg, ocg, rfl, rfl⟩ := hw
                show xk_Go K D 6 0 0 (tc_wM mm cmm 0 iu ki mu fs ss tx us te my mo mz mi iz ma mf mp odg arg lwg ocg skg sag slg pp re rd co dq bo lc) [(4, .int (nI 0)), (0, .ref (mm 0)), (1, .int (nI j)), (2, .long x)] 92 [.int (nI (tc_dm Ts 0)), .ref (mm 0)]
                have hdm : tc_dm Ts 0 ≤ 60 := Nat.zero_le _
                refine x_bipush (v := nI 60) C dM_node_92 (by decide) ?_
                refine x_icmp_neN (tgt := 101) C (by omega) (by decide) dM_node_94 (by decide) (fun h94 => ?_) (fun h94 => ?_)
                ·
                  refine x_iconst (v := nI 0) C dM_node_101 (by decide) ?_
                  refine x_put C fpM_77 0 (tc_wM mm cmm 0 iu ki mu fs ss tx us te my mo mz mi iz ma mf mp odg arg lwg ocg skg sag slg pp re rd co dq bo lc) rfl rfl rfl rfl (Nat.le_of_ble_eq_true rfl) dM_node_102 ?_
                  refine x_aload_n C dM_node_105 rfl 1 rfl ?_
                  refine x_get C fgM_77 0 rfl rfl dM_node_106 ?_
                  refine x_if_le (tgt := 114) C dM_node_109 (by decide) (fun _ => ?_) (fun h => absurd (by decide) h)
                  refine x_aload_n C dM_node_114 rfl 1 rfl ?_
                  refine x_iload_n C dM_node_115 rfl 2 rfl ?_
                  refine x_lload_n C dM_node_116 rfl 3 rfl ?_
                  obtain ⟨k0, hk0, hk1⟩ := tc_RM_free y1 (by omega)
                  refine x_callV C (c_M_make D mm cmm 0 iu ki mu fs ss tx us te my mo mz mi iz ma mf mp odg arg lwg ocg skg sag slg pp re rd co dq bo lc j x k0 hk0 hk1) kbM_115 kcM_115 [0, 1, 2, 3, 4, 5, 6, 7, 8, 9, 10, 11, 12, 13, 14, 15, 16, 17, 18, 19, 20] [] [0, 1, 2, 3, 4, 5, 6, 7, 8, 9, 10, 11, 12, 13, 14, 15, 16, 17, 18, 19] ([]) rfl rfl (by decide) (by decide) (by decide) rfl 0 rfl rfl ⟨Nat.le_of_ble_eq_true rfl, Nat.le_of_ble_eq_true rfl⟩ ⟨Nat.le_of_ble_eq_true rfl, Nat.le_of_ble_eq_true rfl⟩ [] rfl rfl (Nat.le_of_ble_eq_true rfl) dM_node_117 (fun rv ru hw => ?_)
                  obtain ⟨n, rfl, rfl, g1, g2⟩ := hw
                  show xk_Go K D 6 0 0 (tc_wM mm cmm 0 (va_up iu n true) (va_up ki n j) (vp_updL mu n x) (va_up fs n none) (va_up ss n none) tx (us + 1) te my mo mz mi iz ma mf mp odg arg lwg ocg skg sag slg pp re rd co dq bo lc) [(4, .int (nI 0)), (0, .ref (mm 0)), (1, .int (nI j)), (2, .long x)] 120 [.int (nI n)]
                  refine x_istore C [(5, .int (nI n)), (4, .int (nI 0)), (0, .ref (mm 0)), (1, .int (nI j)), (2, .long x)] dM_node_120 (by decide) rfl ?_
                  refine x_iload C dM_node_122 1 rfl ?_
                  refine x_iconst (v := nI 2) C dM_node_124 (by decide) ?_
                  refine x_icmp_ne (tgt := 154) C dM_node_125 (by decide) (fun _ => ?_) (fun h => absurd h (by decide))
                  refine x_iload C dM_node_154 1 rfl ?_
                  refine x_if_le (tgt := 185) C dM_node_156 (by decide) (fun _ => ?_) (fun h => absurd (by decide) h)
                  refine x_aload_n C dM_node_185 rfl 2 rfl ?_
                  refine x_get C fgM_31 0 rfl rfl dM_node_186 ?_
                  refine x_aload_n C dM_node_189 rfl 2 rfl ?_
                  refine x_get C fgM_94 0 rfl rfl dM_node_190 ?_
                  refine x_iload C dM_node_193 0 rfl ?_
                  refine x_ist C 7 6 (tc_wM mm cmm 0 (va_up iu n true) (va_up ki n j) (vp_updL mu n x) (va_up fs n none) (va_up ss n none) tx (us + 1) (va_up te my n) my mo mz mi iz ma mf mp odg arg lwg ocg skg sag slg pp re rd co dq bo lc) rfl rfl (xk_nA_up te my n) rfl (by omega) (by decide) dM_node_195 ?_
                  refine x_aload_n C dM_node_196 rfl 2 rfl ?_
                  refine x_dup C dM_node_197 rfl ?_
                  refine x_get C fgM_94 0 rfl rfl dM_node_198 ?_
                  refine x_iconst (v := nI 1) C dM_node_201 (by decide) ?_
                  refine x_iaddN C dM_node_202 ?_
                  refine x_put C fpM_94 0 (tc_wM mm cmm 0 (va_up iu n true) (va_up ki n j) (vp_updL mu n x) (va_up fs n none) (va_up ss n none) tx (us + 1) (va_up te my n) (my + 1) mo mz mi iz ma mf mp odg arg lwg ocg skg sag slg pp re rd co dq bo lc) rfl rfl rfl rfl (Nat.le_of_ble_eq_true rfl) dM_node_203 ?_
                  refine x_aload_n C dM_node_206 rfl 2 rfl ?_
                  refine x_get C fgM_94 0 rfl rfl dM_node_207 ?_
                  exact x_iret C T .int rfl rfl dM_node_210 (Or.inr (Or.inr (⟨j, ([(j, x, [])] :: Ts), _, _, _, _, _, _, _, _, _, _, _, _, _, _, _, _, by rw [yn]; rfl, rfl, hnk, (tc_put_0 hk (by omega)), (tc_RM_put0 y1 g1 g2 (Or.inl h14) (tc_okn_of (by omega) (tc_fit_iff.mp hfit) (fun q => absurd q h14)) hk)⟩)))
                ·
                  exact absurd (show 0 = 60 from h94) (by decide)
              ·
                refine x_iconst (v := nI 2) C dM_node_68 (by decide) ?_
                refine x_goto C 73 dM_node_69 (by decide) ?_
                refine x_put C fpM_77 0 (tc_wM mm cmm 2 iu ki mu fs ss tx us te my mo mz mi iz ma mf mp od ar lw oc sk sa sl pp re rd co dq bo lc) rfl rfl rfl rfl (Nat.le_of_ble_eq_true rfl) dM_node_73 ?_
                refine x_aload_n C dM_node_76 rfl 1 rfl ?_
                refine x_get C fgM_77 0 rfl rfl dM_node_77 ?_
                refine x_if_le (tgt := 85) C dM_node_80 (by decide) (fun h => absurd h (by decide)) (fun _ => ?_)
                refine x_iconst (v := nI 0) C dM_node_83 (by decide) ?_
                exact x_iret C T .int rfl rfl dM_node_84 (Or.inr (Or.inl (⟨j, _, _, _, _, _, _, _, rfl, rfl, hnk, (tc_put_none hk (by omega))⟩)))
          ·
            rw [hk]
            refine x_aload_n C dM_node_48 rfl 1 rfl ?_
            refine x_aload_n C dM_node_49 rfl 1 rfl ?_
            refine x_get C fgM_94 0 rfl rfl dM_node_50 ?_
            refine x_iload C dM_node_53 0 rfl ?_
            refine x_icmp_ltN (tgt := 68) C (by omega) (by decide) dM_node_55 (by decide) (fun h55 => ?_) (fun h55 => ?_)
            ·
              refine x_iconst (v := nI 2) C dM_node_68 (by decide) ?_
              refine x_goto C 73 dM_node_69 (by decide) ?_
              refine x_put C fpM_77 0 (tc_wM mm cmm 2 iu ki mu fs ss tx us te my mo mz mi iz ma mf mp od ar lw oc sk sa sl pp re rd co dq bo lc) rfl rfl rfl rfl (Nat.le_of_ble_eq_true rfl) dM_node_73 ?_
              refine x_aload_n C dM_node_76 rfl 1 rfl ?_
              refine x_get C fgM_77 0 rfl rfl dM_node_77 ?_
              refine x_if_le (tgt := 85) C dM_node_80 (by decide) (fun h => absurd h (by decide)) (fun _ => ?_)
              refine x_iconst (v := nI 0) C dM_node_83 (by decide) ?_
              exact x_iret C T .int rfl rfl dM_node_84 (Or.inr (Or.inl (⟨j, _, _, _, _, _, _, _, rfl, rfl, hnk, (tc_put_none hk (by omega))⟩)))
            ·
              refine x_aload_n C dM_node_58 rfl 1 rfl ?_
              refine x_get C fgM_84 0 rfl rfl dM_node_59 ?_
              refine x_sipush (v := nI 200) C dM_node_62 (by decide) ?_
              refine x_icmp_neN (tgt := 72) C (by omega) (by decide) dM_node_65 (by decide) (fun h65 => ?_) (fun h65 => ?_)
              ·
                obtain ⟨t, R, rfl⟩ := tc_len1 (l := Ts) (by omega)
                refine x_iconst (v := nI 0) C dM_node_72 (by decide) ?_
                refine x_put C fpM_77 0 (tc_wM mm cmm 0 iu ki mu fs ss tx us te my mo mz mi iz ma mf mp od ar lw oc sk sa sl pp re rd co dq bo lc) rfl rfl rfl rfl (Nat.le_of_ble_eq_true rfl) dM_node_73 ?_
                refine x_aload_n C dM_node_76 rfl 1 rfl ?_
                refine x_get C fgM_77 0 rfl rfl dM_node_77 ?_
                refine x_if_le (tgt := 85) C dM_node_80 (by decide) (fun _ => ?_) (fun h => absurd (by decide) h)
                refine x_aload_n C dM_node_85 rfl 1 rfl ?_
                refine x_aload_n C dM_node_86 rfl 1 rfl ?_
                refine x_iload C dM_node_87 0 rfl ?_
                refine x_callV C (c_M_deepest D mm cmm 0 iu ki mu fs ss tx us te my mo mz mi iz ma mf mp od ar lw oc sk sa sl pp re rd co dq bo lc 1 (t :: R) y1 (by omega)) kbM_112 kcM_112 [0, 1, 2, 3, 4, 5, 6, 7, 8, 9, 10, 11, 12, 13, 14, 15, 16, 17, 18, 19, 20] [] [0, 1, 2, 3, 4, 5, 6, 7, 8, 9, 10, 11, 12, 13, 14, 15, 16, 17, 18, 19] ([]) rfl rfl (by decide) (by decide) (by decide) rfl 0 rfl rfl ⟨Nat.le_of_ble_eq_true rfl, Nat.le_of_ble_eq_true rfl⟩ ⟨Nat.le_of_ble_eq_true rfl, Nat.le_of_ble_eq_true rfl⟩ [.ref (mm 0)] rfl rfl (Nat.le_of_ble_eq_true rfl) dM_node_89 (fun rv ru hw => ?_)
                obtain ⟨odg, arg, lwg, skg, sag, slg, ocg, rfl, rfl⟩ := hw
                show xk_Go K D 6 0 0 (tc_wM mm cmm 0 iu ki mu fs ss tx us te my mo mz mi iz ma mf mp odg arg lwg ocg skg sag slg pp re rd co dq bo lc) [(4, .int (nI 1)), (0, .ref (mm 0)), (1, .int (nI j)), (2, .long x)] 92 [.int (nI (tc_dm (t :: R) 1)), .ref (mm 0)]
                have hdm : tc_dm (t :: R) 1 ≤ 60 := by rw [tc_dm_1]; exact (tc_RM_okt y1 t List.mem_cons_self).2.1
                refine x_bipush (v := nI 60) C dM_node_92 (by decide) ?_
                refine x_icmp_neN (tgt := 101) C (by omega) (by decide) dM_node_94 (by decide) (fun h94 => ?_) (fun h94 => ?_)
                ·
                  refine x_iconst (v := nI 0) C dM_node_101 (by decide) ?_
                  refine x_put C fpM_77 0 (tc_wM mm cmm 0 iu ki mu fs ss tx us te my mo mz mi iz ma mf mp odg arg lwg ocg skg sag slg pp re rd co dq bo lc) rfl rfl rfl rfl (Nat.le_of_ble_eq_true rfl) dM_node_102 ?_
                  refine x_aload_n C dM_node_105 rfl 1 rfl ?_
                  refine x_get C fgM_77 0 rfl rfl dM_node_106 ?_
                  refine x_if_le (tgt := 114) C dM_node_109 (by decide) (fun _ => ?_) (fun h => absurd (by decide) h)
                  refine x_aload_n C dM_node_114 rfl 1 rfl ?_
                  refine x_iload_n C dM_node_115 rfl 2 rfl ?_
                  refine x_lload_n C dM_node_116 rfl 3 rfl ?_
                  obtain ⟨k0, hk0, hk1⟩ := tc_RM_free y1 (by omega)
                  refine x_callV C (c_M_make D mm cmm 0 iu ki mu fs ss tx us te my mo mz mi iz ma mf mp odg arg lwg ocg skg sag slg pp re rd co dq bo lc j x k0 hk0 hk1) kbM_115 kcM_115 [0, 1, 2, 3, 4, 5, 6, 7, 8, 9, 10, 11, 12, 13, 14, 15, 16, 17, 18, 19, 20] [] [0, 1, 2, 3, 4, 5, 6, 7, 8, 9, 10, 11, 12, 13, 14, 15, 16, 17, 18, 19] ([]) rfl rfl (by decide) (by decide) (by decide) rfl 0 rfl rfl ⟨Nat.le_of_ble_eq_true rfl, Nat.le_of_ble_eq_true rfl⟩ ⟨Nat.le_of_ble_eq_true rfl, Nat.le_of_ble_eq_true rfl⟩ [] rfl rfl (Nat.le_of_ble_eq_true rfl) dM_node_117 (fun rv ru hw => ?_)
                  obtain ⟨n, rfl, rfl, g1, g2⟩ := hw
                  show xk_Go K D 6 0 0 (tc_wM mm cmm 0 (va_up iu n true) (va_up ki n j) (vp_updL mu n x) (va_up fs n none) (va_up ss n none) tx (us + 1) te my mo mz mi iz ma mf mp odg arg lwg ocg skg sag slg pp re rd co dq bo lc) [(4, .int (nI 1)), (0, .ref (mm 0)), (1, .int (nI j)), (2, .long x)] 120 [.int (nI n)]
                  refine x_istore C [(5, .int (nI n)), (4, .int (nI 1)), (0, .ref (mm 0)), (1, .int (nI j)), (2, .long x)] dM_node_120 (by decide) rfl ?_
                  refine x_iload C dM_node_122 1 rfl ?_
                  refine x_iconst (v := nI 2) C dM_node_124 (by decide) ?_
                  refine x_icmp_ne (tgt := 154) C dM_node_125 (by decide) (fun _ => ?_) (fun h => absurd h (by decide))
                  refine x_iload C dM_node_154 1 rfl ?_
                  refine x_if_le (tgt := 185) C dM_node_156 (by decide) (fun h => absurd h (by decide)) (fun _ => ?_)
                  refine x_aload_n C dM_node_159 rfl 2 rfl ?_
                  refine x_dup C dM_node_160 rfl ?_
                  refine x_get C fgM_94 0 rfl rfl dM_node_161 ?_
                  refine x_iconst (v := nI 1) C dM_node_164 (by decide) ?_
                  refine x_isubN C (by omega) dM_node_165 ?_
                  refine x_put C fpM_94 0 (tc_wM mm cmm 0 (va_up iu n true) (va_up ki n j) (vp_updL mu n x) (va_up fs n none) (va_up ss n none) tx (us + 1) te (my - 1) mo mz mi iz ma mf mp odg arg lwg ocg skg sag slg pp re rd co dq bo lc) rfl rfl rfl rfl (Nat.le_of_ble_eq_true rfl) dM_node_166 ?_
                  refine x_aload_n C dM_node_169 rfl 2 rfl ?_
                  refine x_get C fgM_21 0 rfl rfl dM_node_170 ?_
                  refine x_iload C dM_node_173 0 rfl ?_
                  refine x_aload_n C dM_node_175 rfl 2 rfl ?_
                  refine x_get C fgM_31 0 rfl rfl dM_node_176 ?_
                  refine x_aload_n C dM_node_179 rfl 2 rfl ?_
                  refine x_get C fgM_94 0 rfl rfl dM_node_180 ?_
                  refine x_ild C 7 6 rfl rfl (by omega) (by decide) dM_node_183 ?_
                  show xk_Go K D 6 0 0 (tc_wM mm cmm 0 (va_up iu n true) (va_up ki n j) (vp_updL mu n x) (va_up fs n none) (va_up ss n none) tx (us + 1) te (my - 1) mo mz mi iz ma mf mp odg arg lwg ocg skg sag slg pp re rd co dq bo lc) [(5, .int (nI n)), (4, .int (nI 1)), (0, .ref (mm 0)), (1, .int (nI j)), (2, .long x)] 184 [.int (nI (te (my - 1))), .int (nI n), .ref (mm 4)]
                  refine x_ist C 4 3 (tc_wM mm cmm 0 (va_up iu n true) (va_up ki n j) (vp_updL mu n x) (va_up (va_up fs n none) n (some (te (my - 1)))) (va_up ss n none) tx (us + 1) te (my - 1) mo mz mi iz ma mf mp odg arg lwg ocg skg sag slg pp re rd co dq bo lc) rfl rfl (xk_oA_up (va_up fs n none) n (some (te (my - 1)))) rfl (by omega) (by decide) dM_node_184 ?_
                  refine x_aload_n C dM_node_185 rfl 2 rfl ?_
                  refine x_get C fgM_31 0 rfl rfl dM_node_186 ?_
                  refine x_aload_n C dM_node_189 rfl 2 rfl ?_
                  refine x_get C fgM_94 0 rfl rfl dM_node_190 ?_
                  refine x_iload C dM_node_193 0 rfl ?_
                  refine x_ist C 7 6 (tc_wM mm cmm 0 (va_up iu n true) (va_up ki n j) (vp_updL mu n x) (va_up (va_up fs n none) n (some (te (my - 1)))) (va_up ss n none) tx (us + 1) (va_up te (my - 1) n) (my - 1) mo mz mi iz ma mf mp odg arg lwg ocg skg sag slg pp re rd co dq bo lc) rfl rfl (xk_nA_up te (my - 1) n) rfl (by omega) (by decide) dM_node_195 ?_
                  refine x_aload_n C dM_node_196 rfl 2 rfl ?_
                  refine x_dup C dM_node_197 rfl ?_
                  refine x_get C fgM_94 0 rfl rfl dM_node_198 ?_
                  refine x_iconst (v := nI 1) C dM_node_201 (by decide) ?_
                  refine x_iaddN C dM_node_202 ?_
                  refine x_put C fpM_94 0 (tc_wM mm cmm 0 (va_up iu n true) (va_up ki n j) (vp_updL mu n x) (va_up (va_up fs n none) n (some (te (my - 1)))) (va_up ss n none) tx (us + 1) (va_up te (my - 1) n) (my - 1 + 1) mo mz mi iz ma mf mp odg arg lwg ocg skg sag slg pp re rd co dq bo lc) rfl rfl rfl rfl (Nat.le_of_ble_eq_true rfl) dM_node_203 ?_
                  refine x_aload_n C dM_node_206 rfl 2 rfl ?_
                  refine x_get C fgM_94 0 rfl rfl dM_node_207 ?_
                  exact x_iret C T .int rfl rfl dM_node_210 (Or.inr (Or.inr (⟨j, (((j, x, []) :: t) :: R), _, _, _, _, _, _, _, _, _, _, _, _, _, _, _, _, by rw [yn]; rfl, rfl, hnk, (tc_put_1 hk (by omega) (by rw [tc_dm_1] at h94; have := (tc_RM_okt y1 t List.mem_cons_self).2.1; omega)), (tc_RM_put1 y1 g1 g2 (Or.inl h14) (tc_okn_of (by omega) (tc_fit_iff.mp hfit) (fun q => absurd q h14)) hk (by rw [tc_dm_1] at h94; have := (tc_RM_okt y1 t List.mem_cons_self).2.1; omega))⟩)))
                ·
                  refine x_iconst (v := nI 2) C dM_node_97 (by decide) ?_
                  refine x_goto C 102 dM_node_98 (by decide) ?_
                  refine x_put C fpM_77 0 (tc_wM mm cmm 2 iu ki mu fs ss tx us te my mo mz mi iz ma mf mp odg arg lwg ocg skg sag slg pp re rd co dq bo lc) rfl rfl rfl rfl (Nat.le_of_ble_eq_true rfl) dM_node_102 ?_
                  refine x_aload_n C dM_node_105 rfl 1 rfl ?_
                  refine x_get C fgM_77 0 rfl rfl dM_node_106 ?_
                  refine x_if_le (tgt := 114) C dM_node_109 (by decide) (fun h => absurd h (by decide)) (fun _ => ?_)
                  refine x_iconst (v := nI 0) C dM_node_112 (by decide) ?_
                  exact x_iret C T .int rfl rfl dM_node_113 (Or.inr (Or.inl (⟨j, _, _, _, _, _, _, _, rfl, rfl, hnk, (tc_put_deep1 hk (by rw [← tc_dm_1 (R := R), h94]; decide))⟩)))
              ·
                refine x_iconst (v := nI 2) C dM_node_68 (by decide) ?_
                refine x_goto C 73 dM_node_69 (by decide) ?_
                refine x_put C fpM_77 0 (tc_wM mm cmm 2 iu ki mu fs ss tx us te my mo mz mi iz ma mf mp od ar lw oc sk sa sl pp re rd co dq bo lc) rfl rfl rfl rfl (Nat.le_of_ble_eq_true rfl) dM_node_73 ?_
                refine x_aload_n C dM_node_76 rfl 1 rfl ?_
                refine x_get C fgM_77 0 rfl rfl dM_node_77 ?_
                refine x_if_le (tgt := 85) C dM_node_80 (by decide) (fun h => absurd h (by decide)) (fun _ => ?_)
                refine x_iconst (v := nI 0) C dM_node_83 (by decide) ?_
                exact x_iret C T .int rfl rfl dM_node_84 (Or.inr (Or.inl (⟨j, _, _, _, _, _, _, _, rfl, rfl, hnk, (tc_put_none hk (by omega))⟩)))
          ·
            rw [hk]
            refine x_aload_n C dM_node_48 rfl 1 rfl ?_
            refine x_aload_n C dM_node_49 rfl 1 rfl ?_
            refine x_get C fgM_94 0 rfl rfl dM_node_50 ?_
            refine x_iload C dM_node_53 0 rfl ?_
            refine x_icmp_ltN (tgt := 68) C (by omega) (by decide) dM_node_55 (by decide) (fun h55 => ?_) (fun h55 => ?_)
            ·
              refine x_iconst (v := nI 2) C dM_node_68 (by decide) ?_
              refine x_goto C 73 dM_node_69 (by decide) ?_
              refine x_put C fpM_77 0 (tc_wM mm cmm 2 iu ki mu fs ss tx us te my mo mz mi iz ma mf mp od ar lw oc sk sa sl pp re rd co dq bo lc) rfl rfl rfl rfl (Nat.le_of_ble_eq_true rfl) dM_node_73 ?_
              refine x_aload_n C dM_node_76 rfl 1 rfl ?_
              refine x_get C fgM_77 0 rfl rfl dM_node_77 ?_
              refine x_if_le (tgt := 85) C dM_node_80 (by decide) (fun h => absurd h (by decide)) (fun _ => ?_)
              refine x_iconst (v := nI 0) C dM_node_83 (by decide) ?_
              exact x_iret C T .int rfl rfl dM_node_84 (Or.inr (Or.inl (⟨j, _, _, _, _, _, _, _, rfl, rfl, hnk, (tc_put_none hk (by omega))⟩)))
            ·
              refine x_aload_n C dM_node_58 rfl 1 rfl ?_
              refine x_get C fgM_84 0 rfl rfl dM_node_59 ?_
              refine x_sipush (v := nI 200) C dM_node_62 (by decide) ?_
              refine x_icmp_neN (tgt := 72) C (by omega) (by decide) dM_node_65 (by decide) (fun h65 => ?_) (fun h65 => ?_)
              ·
                obtain ⟨t, t1, R, rfl⟩ := tc_len2 (l := Ts) (by omega)
                refine x_iconst (v := nI 0) C dM_node_72 (by decide) ?_
                refine x_put C fpM_77 0 (tc_wM mm cmm 0 iu ki mu fs ss tx us te my mo mz mi iz ma mf mp od ar lw oc sk sa sl pp re rd co dq bo lc) rfl rfl rfl rfl (Nat.le_of_ble_eq_true rfl) dM_node_73 ?_
                refine x_aload_n C dM_node_76 rfl 1 rfl ?_
                refine x_get C fgM_77 0 rfl rfl dM_node_77 ?_
                refine x_if_le (tgt := 85) C dM_node_80 (by decide) (fun _ => ?_) (fun h => absurd (by decide) h)
                refine x_aload_n C dM_node_85 rfl 1 rfl ?_
                refine x_aload_n C dM_node_86 rfl 1 rfl ?_
                refine x_iload C dM_node_87 0 rfl ?_
                refine x_callV C (c_M_deepest D mm cmm 0 iu ki mu fs ss tx us te my mo mz mi iz ma mf mp od ar lw oc sk sa sl pp re rd co dq bo lc 2 (t :: t1 :: R) y1 (by omega)) kbM_112 kcM_112 [0, 1, 2, 3, 4, 5, 6, 7, 8, 9, 10, 11, 12, 13, 14, 15, 16, 17, 18, 19, 20] [] [0, 1, 2, 3, 4, 5, 6, 7, 8, 9, 10, 11, 12, 13, 14, 15, 16, 17, 18, 19] ([]) rfl rfl (by decide) (by decide) (by decide) rfl 0 rfl rfl ⟨Nat.le_of_ble_eq_true rfl, Nat.le_of_ble_eq_true rfl⟩ ⟨Nat.le_of_ble_eq_true rfl, Nat.le_of_ble_eq_true rfl⟩ [.ref (mm 0)] rfl rfl (Nat.le_of_ble_eq_true rfl) dM_node_89 (fun rv ru hw => ?_)
                obtain ⟨odg, arg, lwg, skg, sag, slg, ocg, rfl, rfl⟩ := hw
                show xk_Go K D 6 0 0 (tc_wM mm cmm 0 iu ki mu fs ss tx us te my mo mz mi iz ma mf mp odg arg lwg ocg skg sag slg pp re rd co dq bo lc) [(4, .int (nI 2)), (0, .ref (mm 0)), (1, .int (nI j)), (2, .long x)] 92 [.int (nI (tc_dm (t :: t1 :: R) 2)), .ref (mm 0)]
                have hdm : tc_dm (t :: t1 :: R) 2 ≤ 60 := by rw [tc_dm_2]; have := (tc_RM_okt y1 t List.mem_cons_self).2.1; have := (tc_RM_okt y1 t1 (List.mem_cons_of_mem _ List.mem_cons_self)).2.1; omega
                refine x_bipush (v := nI 60) C dM_node_92 (by decide) ?_
                refine x_icmp_neN (tgt := 101) C (by omega) (by decide) dM_node_94 (by decide) (fun h94 => ?_) (fun h94 => ?_)
                ·
                  refine x_iconst (v := nI 0) C dM_node_101 (by decide) ?_
                  refine x_put C fpM_77 0 (tc_wM mm cmm 0 iu ki mu fs ss tx us te my mo mz mi iz ma mf mp odg arg lwg ocg skg sag slg pp re rd co dq bo lc) rfl rfl rfl rfl (Nat.le_of_ble_eq_true rfl) dM_node_102 ?_
                  refine x_aload_n C dM_node_105 rfl 1 rfl ?_
                  refine x_get C fgM_77 0 rfl rfl dM_node_106 ?_
                  refine x_if_le (tgt := 114) C dM_node_109 (by decide) (fun _ => ?_) (fun h => absurd (by decide) h)
                  refine x_aload_n C dM_node_114 rfl 1 rfl ?_
                  refine x_iload_n C dM_node_115 rfl 2 rfl ?_
                  refine x_lload_n C dM_node_116 rfl 3 rfl ?_
                  obtain ⟨k0, hk0, hk1⟩ := tc_RM_free y1 (by omega)
                  refine x_callV C (c_M_make D mm cmm 0 iu ki mu fs ss tx us te my mo mz mi iz ma mf mp odg arg lwg ocg skg sag slg pp re rd co dq bo lc j x k0 hk0 hk1) kbM_115 kcM_115 [0, 1, 2, 3, 4, 5, 6, 7, 8, 9, 10, 11, 12, 13, 14, 15, 16, 17, 18, 19, 20] [] [0, 1, 2, 3, 4, 5, 6, 7, 8, 9, 10, 11, 12, 13, 14, 15, 16, 17, 18, 19] ([]) rfl rfl (by decide) (by decide) (by decide) rfl 0 rfl rfl ⟨Nat.le_of_ble_eq_true rfl, Nat.le_of_ble_eq_true rfl⟩ ⟨Nat.le_of_ble_eq_true rfl, Nat.le_of_ble_eq_true rfl⟩ [] rfl rfl (Nat.le_of_ble_eq_true rfl) dM_node_117 (fun rv ru hw => ?_)
                  obtain ⟨n, rfl, rfl, g1, g2⟩ := hw
                  show xk_Go K D 6 0 0 (tc_wM mm cmm 0 (va_up iu n true) (va_up ki n j) (vp_updL mu n x) (va_up fs n none) (va_up ss n none) tx (us + 1) te my mo mz mi iz ma mf mp odg arg lwg ocg skg sag slg pp re rd co dq bo lc) [(4, .int (nI 2)), (0, .ref (mm 0)), (1, .int (nI j)), (2, .long x)] 120 [.int (nI n)]
                  refine x_istore C [(5, .int (nI n)), (4, .int (nI 2)), (0, .ref (mm 0)), (1, .int (nI j)), (2, .long x)] dM_node_120 (by decide) rfl ?_
                  refine x_iload C dM_node_122 1 rfl ?_
                  refine x_iconst (v := nI 2) C dM_node_124 (by decide) ?_
                  refine x_icmp_ne (tgt := 154) C dM_node_125 (by decide) (fun h => absurd (by decide) h) (fun _ => ?_)
                  refine x_aload_n C dM_node_128 rfl 2 rfl ?_
                  refine x_dup C dM_node_129 rfl ?_
                  refine x_get C fgM_94 0 rfl rfl dM_node_130 ?_
                  refine x_iconst (v := nI 1) C dM_node_133 (by decide) ?_
                  refine x_isubN C (by omega) dM_node_134 ?_
                  refine x_put C fpM_94 0 (tc_wM mm cmm 0 (va_up iu n true) (va_up ki n j) (vp_updL mu n x) (va_up fs n none) (va_up ss n none) tx (us + 1) te (my - 1) mo mz mi iz ma mf mp odg arg lwg ocg skg sag slg pp re rd co dq bo lc) rfl rfl rfl rfl (Nat.le_of_ble_eq_true rfl) dM_node_135 ?_
                  refine x_aload_n C dM_node_138 rfl 2 rfl ?_
                  refine x_get C fgM_24 0 rfl rfl dM_node_139 ?_
                  refine x_iload C dM_node_142 0 rfl ?_
                  refine x_aload_n C dM_node_144 rfl 2 rfl ?_
                  refine x_get C fgM_31 0 rfl rfl dM_node_145 ?_
                  refine x_aload_n C dM_node_148 rfl 2 rfl ?_
                  refine x_get C fgM_94 0 rfl rfl dM_node_149 ?_
                  refine x_ild C 7 6 rfl rfl (by omega) (by decide) dM_node_152 ?_
                  show xk_Go K D 6 0 0 (tc_wM mm cmm 0 (va_up iu n true) (va_up ki n j) (vp_updL mu n x) (va_up fs n none) (va_up ss n none) tx (us + 1) te (my - 1) mo mz mi iz ma mf mp odg arg lwg ocg skg sag slg pp re rd co dq bo lc) [(5, .int (nI n)), (4, .int (nI 2)), (0, .ref (mm 0)), (1, .int (nI j)), (2, .long x)] 153 [.int (nI (te (my - 1))), .int (nI n), .ref (mm 5)]
                  refine x_ist C 5 4 (tc_wM mm cmm 0 (va_up iu n true) (va_up ki n j) (vp_updL mu n x) (va_up fs n none) (va_up (va_up ss n none) n (some (te (my - 1)))) tx (us + 1) te (my - 1) mo mz mi iz ma mf mp odg arg lwg ocg skg sag slg pp re rd co dq bo lc) rfl rfl (xk_oA_up (va_up ss n none) n (some (te (my - 1)))) rfl (by omega) (by decide) dM_node_153 ?_
                  refine x_iload C dM_node_154 1 rfl ?_
                  refine x_if_le (tgt := 185) C dM_node_156 (by decide) (fun h => absurd h (by decide)) (fun _ => ?_)
                  refine x_aload_n C dM_node_159 rfl 2 rfl ?_
                  refine x_dup C dM_node_160 rfl ?_
                  refine x_get C fgM_94 0 rfl rfl dM_node_161 ?_
                  refine x_iconst (v := nI 1) C dM_node_164 (by decide) ?_
                  refine x_isubN C (by omega) dM_node_165 ?_
                  refine x_put C fpM_94 0 (tc_wM mm cmm 0 (va_up iu n true) (va_up ki n j) (vp_updL mu n x) (va_up fs n none) (va_up (va_up ss n none) n (some (te (my - 1)))) tx (us + 1) te (my - 1 - 1) mo mz mi iz ma mf mp odg arg lwg ocg skg sag slg pp re rd co dq bo lc) rfl rfl rfl rfl (Nat.le_of_ble_eq_true rfl) dM_node_166 ?_
                  refine x_aload_n C dM_node_169 rfl 2 rfl ?_
                  refine x_get C fgM_21 0 rfl rfl dM_node_170 ?_
                  refine x_iload C dM_node_173 0 rfl ?_
                  refine x_aload_n C dM_node_175 rfl 2 rfl ?_
                  refine x_get C fgM_31 0 rfl rfl dM_node_176 ?_
                  refine x_aload_n C dM_node_179 rfl 2 rfl ?_
                  refine x_get C fgM_94 0 rfl rfl dM_node_180 ?_
                  refine x_ild C 7 6 rfl rfl (by omega) (by decide) dM_node_183 ?_
                  show xk_Go K D 6 0 0 (tc_wM mm cmm 0 (va_up iu n true) (va_up ki n j) (vp_updL mu n x) (va_up fs n none) (va_up (va_up ss n none) n (some (te (my - 1)))) tx (us + 1) te (my - 1 - 1) mo mz mi iz ma mf mp odg arg lwg ocg skg sag slg pp re rd co dq bo lc) [(5, .int (nI n)), (4, .int (nI 2)), (0, .ref (mm 0)), (1, .int (nI j)), (2, .long x)] 184 [.int (nI (te (my - 1 - 1))), .int (nI n), .ref (mm 4)]
                  refine x_ist C 4 3 (tc_wM mm cmm 0 (va_up iu n true) (va_up ki n j) (vp_updL mu n x) (va_up (va_up fs n none) n (some (te (my - 1 - 1)))) (va_up (va_up ss n none) n (some (te (my - 1)))) tx (us + 1) te (my - 1 - 1) mo mz mi iz ma mf mp odg arg lwg ocg skg sag slg pp re rd co dq bo lc) rfl rfl (xk_oA_up (va_up fs n none) n (some (te (my - 1 - 1)))) rfl (by omega) (by decide) dM_node_184 ?_
                  refine x_aload_n C dM_node_185 rfl 2 rfl ?_
                  refine x_get C fgM_31 0 rfl rfl dM_node_186 ?_
                  refine x_aload_n C dM_node_189 rfl 2 rfl ?_
                  refine x_get C fgM_94 0 rfl rfl dM_node_190 ?_
                  refine x_iload C dM_node_193 0 rfl ?_
                  refine x_ist C 7 6 (tc_wM mm cmm 0 (va_up iu n true) (va_up ki n j) (vp_updL mu n x) (va_up (va_up fs n none) n (some (te (my - 1 - 1)))) (va_up (va_up ss n none) n (some (te (my - 1)))) tx (us + 1) (va_up te (my - 1 - 1) n) (my - 1 - 1) mo mz mi iz ma mf mp odg arg lwg ocg skg sag slg pp re rd co dq bo lc) rfl rfl (xk_nA_up te (my - 1 - 1) n) rfl (by omega) (by decide) dM_node_195 ?_
                  refine x_aload_n C dM_node_196 rfl 2 rfl ?_
                  refine x_dup C dM_node_197 rfl ?_
                  refine x_get C fgM_94 0 rfl rfl dM_node_198 ?_
                  refine x_iconst (v := nI 1) C dM_node_201 (by decide) ?_
                  refine x_iaddN C dM_node_202 ?_
                  refine x_put C fpM_94 0 (tc_wM mm cmm 0 (va_up iu n true) (va_up ki n j) (vp_updL mu n x) (va_up (va_up fs n none) n (some (te (my - 1 - 1)))) (va_up (va_up ss n none) n (some (te (my - 1)))) tx (us + 1) (va_up te (my - 1 - 1) n) (my - 1 - 1 + 1) mo mz mi iz ma mf mp odg arg lwg ocg skg sag slg pp re rd co dq bo lc) rfl rfl rfl rfl (Nat.le_of_ble_eq_true rfl) dM_node_203 ?_
                  refine x_aload_n C dM_node_206 rfl 2 rfl ?_
                  refine x_get C fgM_94 0 rfl rfl dM_node_207 ?_
                  have ha := (tc_RM_okt y1 t List.mem_cons_self).2.1
                  have hb := (tc_RM_okt y1 t1 (List.mem_cons_of_mem _ List.mem_cons_self)).2.1
                  rw [tc_dm_2] at h94
                  exact x_iret C T .int rfl rfl dM_node_210 (Or.inr (Or.inr (⟨j, (((j, x, []) :: (t1 ++ t)) :: R), _, _, _, _, _, _, _, _, _, _, _, _, _, _, _, _, by rw [yn]; rfl, rfl, hnk, (tc_put_2 hk (by omega) (by omega) (by omega)), (tc_RM_put2 y1 g1 g2 (Or.inl h14) (tc_okn_of (by omega) (tc_fit_iff.mp hfit) (fun q => absurd q h14)) hk (by omega) (by omega))⟩)))
                ·
                  refine x_iconst (v := nI 2) C dM_node_97 (by decide) ?_
                  refine x_goto C 102 dM_node_98 (by decide) ?_
                  refine x_put C fpM_77 0 (tc_wM mm cmm 2 iu ki mu fs ss tx us te my mo mz mi iz ma mf mp odg arg lwg ocg skg sag slg pp re rd co dq bo lc) rfl rfl rfl rfl (Nat.le_of_ble_eq_true rfl) dM_node_102 ?_
                  refine x_aload_n C dM_node_105 rfl 1 rfl ?_
                  refine x_get C fgM_77 0 rfl rfl dM_node_106 ?_
                  refine x_if_le (tgt := 114) C dM_node_109 (by decide) (fun h => absurd h (by decide)) (fun _ => ?_)
                  refine x_iconst (v := nI 0) C dM_node_112 (by decide) ?_
                  exact x_iret C T .int rfl rfl dM_node_113 (Or.inr (Or.inl (⟨j, _, _, _, _, _, _, _, rfl, rfl, hnk, (tc_put_deep2 hk (by rw [tc_dm_2] at h94; omega))⟩)))
              ·
                refine x_iconst (v := nI 2) C dM_node_68 (by decide) ?_
                refine x_goto C 73 dM_node_69 (by decide) ?_
                refine x_put C fpM_77 0 (tc_wM mm cmm 2 iu ki mu fs ss tx us te my mo mz mi iz ma mf mp od ar lw oc sk sa sl pp re rd co dq bo lc) rfl rfl rfl rfl (Nat.le_of_ble_eq_true rfl) dM_node_73 ?_
                refine x_aload_n C dM_node_76 rfl 1 rfl ?_
                refine x_get C fgM_77 0 rfl rfl dM_node_77 ?_
                refine x_if_le (tgt := 85) C dM_node_80 (by decide) (fun h => absurd h (by decide)) (fun _ => ?_)
                refine x_iconst (v := nI 0) C dM_node_83 (by decide) ?_
                exact x_iret C T .int rfl rfl dM_node_84 (Or.inr (Or.inl (⟨j, _, _, _, _, _, _, _, rfl, rfl, hnk, (tc_put_none hk (by omega))⟩)))
        ·
          refine x_iconst (v := nI 1) C dM_node_25 (by decide) ?_
          refine x_goto C 30 dM_node_26 (by decide) ?_
          refine x_put C fpM_77 0 (tc_wM mm cmm 1 iu ki mu fs ss tx us te my mo mz mi iz ma mf mp od ar lw oc sk sa sl pp re rd co dq bo lc) rfl rfl rfl rfl (Nat.le_of_ble_eq_true rfl) dM_node_30 ?_
          refine x_aload_n C dM_node_33 rfl 0 rfl ?_
          refine x_get C fgM_77 0 rfl rfl dM_node_34 ?_
          refine x_if_le (tgt := 42) C dM_node_37 (by decide) (fun h => absurd h (by decide)) (fun _ => ?_)
          refine x_iconst (v := nI 0) C dM_node_40 (by decide) ?_
          exact x_iret C T .int rfl rfl dM_node_41 (Or.inl (⟨rfl, rfl, (tc_nk_no hj (Or.inr (Or.inr h22)))⟩))
