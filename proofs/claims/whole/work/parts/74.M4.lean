set_option maxHeartbeats 4000000 in
set_option maxRecDepth 100000 in
/-- append -/
theorem c_M_append (D : va_G) (mm : Nat → Nat) (cmm : Nat → ClassId) (th : Nat) (iu : Nat → Bool) (ki : Nat → Nat) (mu : Nat → Int64) (fs : Nat → Option Nat) (ss : Nat → Option Nat) (tx : Nat → Nat) (us : Nat) (te : Nat → Nat) (my : Nat) (mo : Nat → Nat) (mz : Nat) (mi : Nat → Nat) (iz : Nat) (ma : Nat) (mf : Nat) (mp : Option Nat) (od : Nat → Nat) (ar : Nat → Option Nat) (lw : Nat → Nat) (oc : Nat) (sk : Nat → Nat) (sa : Nat → Option Nat) (sl : Nat → Nat) (pp : Nat) (re : Nat → Nat) (rd : Nat) (co : Nat → Nat) (dq : Nat → Nat) (bo : Nat → Nat) (lc : Nat → Nat) (m : Nat) (x : Int64) (n : Nat) (c : Nat) (y1 : m < 200) (y2 : n ≤ 8) (y3 : mu m = lN c) (y4 : c + n ≤ 64) : xk_Ct yM_append cM_append 6 none { frames := 0, cells := 0, slots := 0, locals := 0 } D (tc_tM cmm) [.ref (mm 0), .int (nI m), .long x, .int (nI n)] (tc_wM mm cmm th iu ki mu fs ss tx us te my mo mz mi iz ma mf mp od ar lw oc sk sa sl pp re rd co dq bo lc) (fun rv ru => (∃ (mg : Nat → Int64), ∃ (tg : Nat → Nat), rv = none ∧ ru = tc_wM mm cmm th iu ki mg fs ss tg us te my mo mz mi iz ma mf mp od ar lw oc sk sa sl pp re rd co dq bo lc ∧ (mg m = lN (c + n)) ∧ (∀ i, i ≠ m → mg i = mu i) ∧ (∀ q, tg q % 256 = if 64 * m + c ≤ q ∧ q < 64 * m + c + n then tc_by x (n - 1 - (q - (64 * m + c))) else tx q % 256))) := by
  refine xk_enter (by decide) (Nat.le_of_ble_eq_true rfl) (fun K C T hin => ?_)
  show xk_Go K D 6 0 0 (tc_wM mm cmm th iu ki mu fs ss tx us te my mo mz mi iz ma mf mp od ar lw oc sk sa sl pp re rd co dq bo lc) [(0, .ref (mm 0)), (1, .int (nI m)), (2, .long x), (4, .int (nI n))] 0 []
  refine x_iload C dM_append_0 3 rfl ?_
  refine x_iconst (v := nI 1) C dM_append_2 (by decide) ?_
  refine x_isub C dM_append_3 ?_
  refine x_top (tc_pr_sub n) ?_
  refine x_istore C [(5, .int (xk_oI (tc_pr n))), (0, .ref (mm 0)), (1, .int (nI m)), (2, .long x), (4, .int (nI n))] dM_append_4 (by decide) rfl ?_
  have lp6 : ∀ (zc : Nat) (jn : Nat) (mg : Nat → Int64) (tg : Nat → Nat), jn < zc → (jn ≤ n) → (mg m = lN (c + (n - jn))) → (∀ i, i ≠ m → mg i = mu i) → (∀ q, tg q % 256 = if 64 * m + c ≤ q ∧ q < 64 * m + c + (n - jn) then tc_by x (n - 1 - (q - (64 * m + c))) else tx q % 256) → xk_Go K D 6 0 0 (tc_wM mm cmm th iu ki mg fs ss tg us te my mo mz mi iz ma mf mp od ar lw oc sk sa sl pp re rd co dq bo lc) [(0, .ref (mm 0)), (1, .int (nI m)), (2, .long x), (4, .int (nI n)), (5, .int (xk_oI (tc_pr jn)))] 6 [] := by
    intro zc
    induction zc with
    | zero => intro jn mg tg hm; exact absurd hm (Nat.not_lt_zero _)
    | succ zc ih6 =>
      intro jn mg tg hm e1 e2 e3 e4
      refine x_iload C dM_append_6 4 rfl ?_
      rcases jn with _ | j
      ·
        show xk_Go K D 6 0 0 (tc_wM mm cmm th iu ki mg fs ss tg us te my mo mz mi iz ma mf mp od ar lw oc sk sa sl pp re rd co dq bo lc) [(0, .ref (mm 0)), (1, .int (nI m)), (2, .long x), (4, .int (nI n)), (5, .int (xk_oI none))] 8 [.int (xk_oI none)]
        refine x_if_lt (tgt := 53) C dM_append_8 (by decide) (fun _ => ?_) (fun h => absurd (by decide) h)
        exact x_vret C T rfl dM_append_53 (⟨mg, tg, rfl, rfl, (by rw [Nat.sub_zero] at e2; exact e2), e3, (by rw [Nat.sub_zero] at e4; exact e4)⟩)
      ·
        show xk_Go K D 6 0 0 (tc_wM mm cmm th iu ki mg fs ss tg us te my mo mz mi iz ma mf mp od ar lw oc sk sa sl pp re rd co dq bo lc) [(0, .ref (mm 0)), (1, .int (nI m)), (2, .long x), (4, .int (nI n)), (5, .int (nI j))] 8 [.int (nI j)]
        refine x_if_ltN (tgt := 53) C (by omega) dM_append_8 (by decide) ?_
        refine x_aload_n C dM_append_11 rfl 0 rfl ?_
        refine x_get C fgM_27 0 rfl rfl dM_append_12 ?_
        refine x_bipush (v := nI 64) C dM_append_15 (by decide) ?_
        refine x_iload_n C dM_append_17 rfl 1 rfl ?_
        refine x_imulN C dM_append_18 ?_
        refine x_aload_n C dM_append_19 rfl 0 rfl ?_
        refine x_get C fgM_17 0 rfl rfl dM_append_20 ?_
        refine x_iload_n C dM_append_23 rfl 1 rfl ?_
        refine x_lld C 3 2 rfl rfl (by omega) (by decide) dM_append_24 ?_
        refine x_l2i (v := nI (c + (n - (j + 1)))) C dM_append_25 (by rw [e2]; exact lN_i _) ?_
        refine x_iaddN C dM_append_26 ?_
        refine x_lload_n C dM_append_27 rfl 2 rfl ?_
        refine x_bipush (v := nI 8) C dM_append_28 (by decide) ?_
        refine x_iload C dM_append_30 4 rfl ?_
        refine x_imulN C dM_append_32 ?_
        refine x_lshr (v := x >>> ((nI (8 * j)).toInt64 &&& 63)) C dM_append_33 rfl ?_
        refine x_l2i (v := Int64.toInt32 (x >>> ((nI (8 * j)).toInt64 &&& 63))) C dM_append_34 rfl ?_
        refine x_i2b (v := xk_sb (tc_by x j)) C dM_append_35 (tc_sb_by x (by omega)) ?_
        refine x_bst C 6 5 (tc_wM mm cmm th iu ki mg fs ss (va_up tg (64 * m + (c + (n - (j + 1)))) (tc_by x j)) us te my mo mz mi iz ma mf mp od ar lw oc sk sa sl pp re rd co dq bo lc) rfl rfl ((congrArg _ (xk_sb_nar (tc_by x j))).trans (xk_bA_up tg (64 * m + (c + (n - (j + 1)))) (tc_by x j))) rfl (by omega) (by decide) dM_append_36 ?_
        refine x_aload_n C dM_append_37 rfl 0 rfl ?_
        refine x_get C fgM_17 0 rfl rfl dM_append_38 ?_
        refine x_iload_n C dM_append_41 rfl 1 rfl ?_
        refine x_dup2 C dM_append_42 rfl rfl ?_
        refine x_lld C 3 2 rfl rfl (by omega) (by decide) dM_append_43 ?_
        refine x_lconst (v := 1) C dM_append_44 (by decide) ?_
        refine x_ladd C dM_append_45 ?_
        refine x_lst C 3 2 (tc_wM mm cmm th iu ki (vp_updL mg m ((mg m) + 1)) fs ss (va_up tg (64 * m + (c + (n - (j + 1)))) (tc_by x j)) us te my mo mz mi iz ma mf mp od ar lw oc sk sa sl pp re rd co dq bo lc) rfl rfl rfl rfl (by omega) (by decide) dM_append_46 ?_
        refine x_iinc (q := 4) C (xk_oI (tc_pr j)) [(5, .int (xk_oI (tc_pr j))), (0, .ref (mm 0)), (1, .int (nI m)), (2, .long x), (4, .int (nI n))] dM_append_47 rfl (tc_pr_dec j) (by decide) rfl ?_
        refine x_goto C 6 dM_append_50 (by decide) ?_
        exact x_sub [1, 2, 3, 4, 0] rfl (ih6 j (vp_updL mg m ((mg m) + 1)) (va_up tg (64 * m + (c + (n - (j + 1)))) (tc_by x j)) (by omega) (by omega) (by rw [pk_uLs, e2]; exact tc_ap1 (by omega)) (fun i hi => (pk_uLn hi).trans (e3 i hi)) (tc_ap2 e4 (by omega)))
  exact x_sub [1, 2, 3, 4, 0] rfl (lp6 _ n mu tx (Nat.lt_succ_self _) (Nat.le_refl _) (by rw [Nat.sub_self]; exact y3) (fun _ _ => rfl) (fun q => by rw [Nat.sub_self, if_neg (by omega)]))
set_option maxHeartbeats 4000000 in
set_option maxRecDepth 100000 in
/-- bytes -/
theorem c_M_bytes (D : va_G) (mm : Nat → Nat) (cmm : Nat → ClassId) (th : Nat) (iu : Nat → Bool) (ki : Nat → Nat) (mu : Nat → Int64) (fs : Nat → Option Nat) (ss : Nat → Option Nat) (tx : Nat → Nat) (us : Nat) (te : Nat → Nat) (my : Nat) (mo : Nat → Nat) (mz : Nat) (mi : Nat → Nat) (iz : Nat) (ma : Nat) (mf : Nat) (mp : Option Nat) (od : Nat → Nat) (ar : Nat → Option Nat) (lw : Nat → Nat) (oc : Nat) (sk : Nat → Nat) (sa : Nat → Option Nat) (sl : Nat → Nat) (pp : Nat) (re : Nat → Nat) (rd : Nat) (co : Nat → Nat) (dq : Nat → Nat) (bo : Nat → Nat) (lc : Nat → Nat) (x : Int64) (n : Int32) (Ts : List (List tc_Nd)) (y1 : tc_RM Ts (iu, ki, mu, fs, ss, tx) us te my) : xk_Ct yM_bytes cM_bytes 5 (some .int) { frames := 2, cells := 0, slots := 0, locals := 45 } D (tc_tM cmm) [.ref (mm 0), .long x, .int n] (tc_wM mm cmm th iu ki mu fs ss tx us te my mo mz mi iz ma mf mp od ar lw oc sk sa sl pp re rd co dq bo lc) (fun rv ru => (rv = some (.int (nI 0)) ∧ ru = tc_wM mm cmm 1 iu ki mu fs ss tx us te my mo mz mi iz ma mf mp od ar lw oc sk sa sl pp re rd co dq bo lc ∧ (tc_bn n = none)) ∨ (∃ (k : Nat), rv = some (.int (nI 0)) ∧ ru = tc_wM mm cmm 2 iu ki mu fs ss tx us te my mo mz mi iz ma mf mp od ar lw oc sk sa sl pp re rd co dq bo lc ∧ (tc_bn n = some k) ∧ (tc_put (8, 0, []) Ts = none)) ∨ (∃ (k : Nat), ∃ (iug : Nat → Bool), ∃ (kig : Nat → Nat), ∃ (mug : Nat → Int64), ∃ (fsg : Nat → Option Nat), ∃ (ssg : Nat → Option Nat), ∃ (txg : Nat → Nat), ∃ (usg : Nat), ∃ (teg : Nat → Nat), ∃ (myg : Nat), rv = some (.int (nI (Ts.length + 1))) ∧ ru = tc_wM mm cmm 0 iug kig mug fsg ssg txg usg teg myg mo mz mi iz ma mf mp od ar lw oc sk sa sl pp re rd co dq bo lc ∧ (tc_bn n = some k) ∧ (tc_put (8, 0, []) Ts = some ([(8, 0, [])] :: Ts)) ∧ (tc_RM ([(8, lN k, tc_bts x k)] :: Ts) (iug, kig, mug, fsg, ssg, txg) usg teg myg))) := by
  refine xk_enter (by decide) (Nat.le_of_ble_eq_true rfl) (fun K C T hin => ?_)
  obtain ⟨yu, yv, yn, yc⟩ := tc_RM_us y1
  show xk_Go K D 5 0 0 (tc_wM mm cmm th iu ki mu fs ss tx us te my mo mz mi iz ma mf mp od ar lw oc sk sa sl pp re rd co dq bo lc) [(0, .ref (mm 0)), (1, .long x), (3, .int n)] 0 []
  refine x_aload_n C dM_bytes_0 rfl 0 rfl ?_
  refine x_iload_n C dM_bytes_1 rfl 2 rfl ?_
  refine x_if_lt (tgt := 11) C dM_bytes_2 (by decide) (fun h2 => ?_) (fun h2 => ?_)
  ·
    refine x_iconst (v := nI 1) C dM_bytes_11 (by decide) ?_
    refine x_goto C 30 dM_bytes_12 (by decide) ?_
    refine x_put C fpM_77 0 (tc_wM mm cmm 1 iu ki mu fs ss tx us te my mo mz mi iz ma mf mp od ar lw oc sk sa sl pp re rd co dq bo lc) rfl rfl rfl rfl (Nat.le_of_ble_eq_true rfl) dM_bytes_30 ?_
    refine x_aload_n C dM_bytes_33 rfl 0 rfl ?_
    refine x_get C fgM_77 0 rfl rfl dM_bytes_34 ?_
    refine x_if_le (tgt := 42) C dM_bytes_37 (by decide) (fun h => absurd h (by decide)) (fun _ => ?_)
    refine x_iconst (v := nI 0) C dM_bytes_40 (by decide) ?_
    exact x_iret C T .int rfl rfl dM_bytes_41 (Or.inl (⟨rfl, rfl, (tc_bn_lo h2)⟩))
  ·
    obtain ⟨k, hk, rfl⟩ := nI_of h2
    refine x_iload_n C dM_bytes_5 rfl 2 rfl ?_
    refine x_bipush (v := nI 8) C dM_bytes_6 (by decide) ?_
    refine x_icmp_leN (tgt := 15) C (by omega) (by decide) dM_bytes_8 (by decide) (fun h8 => ?_) (fun h8 => ?_)
    ·
      refine x_aload_n C dM_bytes_15 rfl 0 rfl ?_
      refine x_get C fgM_84 0 rfl rfl dM_bytes_16 ?_
      refine x_sipush (v := nI 200) C dM_bytes_19 (by decide) ?_
      refine x_icmp_neN (tgt := 29) C (by omega) (by decide) dM_bytes_22 (by decide) (fun h22 => ?_) (fun h22 => ?_)
      ·
        refine x_iconst (v := nI 0) C dM_bytes_29 (by decide) ?_
        refine x_put C fpM_77 0 (tc_wM mm cmm 0 iu ki mu fs ss tx us te my mo mz mi iz ma mf mp od ar lw oc sk sa sl pp re rd co dq bo lc) rfl rfl rfl rfl (Nat.le_of_ble_eq_true rfl) dM_bytes_30 ?_
        refine x_aload_n C dM_bytes_33 rfl 0 rfl ?_
        refine x_get C fgM_77 0 rfl rfl dM_bytes_34 ?_
        refine x_if_le (tgt := 42) C dM_bytes_37 (by decide) (fun _ => ?_) (fun h => absurd (by decide) h)
        refine x_aload_n C dM_bytes_42 rfl 0 rfl ?_
        refine x_bipush (v := nI 8) C dM_bytes_43 (by decide) ?_
        refine x_lconst (v := 0) C dM_bytes_45 (by decide) ?_
        obtain ⟨k0, hk0, hk1⟩ := tc_RM_free y1 (by omega)
        refine x_callV C (c_M_make D mm cmm 0 iu ki mu fs ss tx us te my mo mz mi iz ma mf mp od ar lw oc sk sa sl pp re rd co dq bo lc 8 0 k0 hk0 hk1) kbM_115 kcM_115 [0, 1, 2, 3, 4, 5, 6, 7, 8, 9, 10, 11, 12, 13, 14, 15, 16, 17, 18, 19, 20] [] [0, 1, 2, 3, 4, 5, 6, 7, 8, 9, 10, 11, 12, 13, 14, 15, 16, 17, 18, 19] ([]) rfl rfl (by decide) (by decide) (by decide) rfl 0 rfl rfl ⟨Nat.le_of_ble_eq_true rfl, Nat.le_of_ble_eq_true rfl⟩ ⟨Nat.le_of_ble_eq_true rfl, Nat.le_of_ble_eq_true rfl⟩ [] rfl rfl (Nat.le_of_ble_eq_true rfl) dM_bytes_46 (fun rv ru hw => ?_)
        obtain ⟨m, rfl, rfl, g1, g2⟩ := hw
        show xk_Go K D 5 0 0 (tc_wM mm cmm 0 (va_up iu m true) (va_up ki m 8) (vp_updL mu m 0) (va_up fs m none) (va_up ss m none) tx (us + 1) te my mo mz mi iz ma mf mp od ar lw oc sk sa sl pp re rd co dq bo lc) [(0, .ref (mm 0)), (1, .long x), (3, .int (nI k))] 49 [.int (nI m)]
        refine x_istore C [(4, .int (nI m)), (0, .ref (mm 0)), (1, .long x), (3, .int (nI k))] dM_bytes_49 (by decide) rfl ?_
        refine x_aload_n C dM_bytes_51 rfl 1 rfl ?_
        refine x_iload C dM_bytes_52 0 rfl ?_
        refine x_lload_n C dM_bytes_54 rfl 2 rfl ?_
        refine x_iload_n C dM_bytes_55 rfl 3 rfl ?_
        refine x_callV C (c_M_append D mm cmm 0 (va_up iu m true) (va_up ki m 8) (vp_updL mu m 0) (va_up fs m none) (va_up ss m none) tx (us + 1) te my mo mz mi iz ma mf mp od ar lw oc sk sa sl pp re rd co dq bo lc m x k 0 g1 h8 (by rw [pk_uLs]; rfl) (by omega)) kbM_119 kcM_119 [0, 1, 2, 3, 4, 5, 6, 7, 8, 9, 10, 11, 12, 13, 14, 15, 16, 17, 18, 19, 20] [] [0, 1, 2, 3, 4, 5, 6, 7, 8, 9, 10, 11, 12, 13, 14, 15, 16, 17, 18, 19] ([]) rfl rfl (by decide) (by decide) (by decide) rfl 0 rfl rfl ⟨Nat.le_of_ble_eq_true rfl, Nat.le_of_ble_eq_true rfl⟩ ⟨Nat.le_of_ble_eq_true rfl, Nat.le_of_ble_eq_true rfl⟩ [] rfl rfl (Nat.le_of_ble_eq_true rfl) dM_bytes_56 (fun rv ru hw => ?_)
        obtain ⟨mga, tga, rfl, rfl, g1a, g2a, g3a⟩ := hw
        show xk_Go K D 5 0 0 (tc_wM mm cmm 0 (va_up iu m true) (va_up ki m 8) mga (va_up fs m none) (va_up ss m none) tga (us + 1) te my mo mz mi iz ma mf mp od ar lw oc sk sa sl pp re rd co dq bo lc) [(4, .int (nI m)), (0, .ref (mm 0)), (1, .long x), (3, .int (nI k))] 59 []
        refine x_aload_n C dM_bytes_59 rfl 1 rfl ?_
        refine x_get C fgM_31 0 rfl rfl dM_bytes_60 ?_
        refine x_aload_n C dM_bytes_63 rfl 1 rfl ?_
        refine x_get C fgM_94 0 rfl rfl dM_bytes_64 ?_
        refine x_iload C dM_bytes_67 0 rfl ?_
        refine x_ist C 7 6 (tc_wM mm cmm 0 (va_up iu m true) (va_up ki m 8) mga (va_up fs m none) (va_up ss m none) tga (us + 1) (va_up te my m) my mo mz mi iz ma mf mp od ar lw oc sk sa sl pp re rd co dq bo lc) rfl rfl (xk_nA_up te my m) rfl (by omega) (by decide) dM_bytes_69 ?_
        refine x_aload_n C dM_bytes_70 rfl 1 rfl ?_
        refine x_dup C dM_bytes_71 rfl ?_
        refine x_get C fgM_94 0 rfl rfl dM_bytes_72 ?_
        refine x_iconst (v := nI 1) C dM_bytes_75 (by decide) ?_
        refine x_iaddN C dM_bytes_76 ?_
        refine x_put C fpM_94 0 (tc_wM mm cmm 0 (va_up iu m true) (va_up ki m 8) mga (va_up fs m none) (va_up ss m none) tga (us + 1) (va_up te my m) (my + 1) mo mz mi iz ma mf mp od ar lw oc sk sa sl pp re rd co dq bo lc) rfl rfl rfl rfl (Nat.le_of_ble_eq_true rfl) dM_bytes_77 ?_
        refine x_aload_n C dM_bytes_80 rfl 1 rfl ?_
        refine x_get C fgM_94 0 rfl rfl dM_bytes_81 ?_
        exact x_iret C T .int rfl rfl dM_bytes_84 (Or.inr (Or.inr (⟨k, _, _, _, _, _, _, _, _, _, by rw [yn], rfl, (tc_bn_in h8), (tc_put_0 rfl (by omega)), (tc_bytes_RM (tc_RM_put0 (k := 8) (x := 0) y1 g1 g2 (Or.inr rfl) (tc_okn_of (by decide) (tc_fit8 (n := 0) (by decide)) (fun _ => rfl)) rfl) h8 g1a g2a g3a)⟩)))
      ·
        refine x_iconst (v := nI 2) C dM_bytes_25 (by decide) ?_
        refine x_goto C 30 dM_bytes_26 (by decide) ?_
        refine x_put C fpM_77 0 (tc_wM mm cmm 2 iu ki mu fs ss tx us te my mo mz mi iz ma mf mp od ar lw oc sk sa sl pp re rd co dq bo lc) rfl rfl rfl rfl (Nat.le_of_ble_eq_true rfl) dM_bytes_30 ?_
        refine x_aload_n C dM_bytes_33 rfl 0 rfl ?_
        refine x_get C fgM_77 0 rfl rfl dM_bytes_34 ?_
        refine x_if_le (tgt := 42) C dM_bytes_37 (by decide) (fun h => absurd h (by decide)) (fun _ => ?_)
        refine x_iconst (v := nI 0) C dM_bytes_40 (by decide) ?_
        exact x_iret C T .int rfl rfl dM_bytes_41 (Or.inr (Or.inl (⟨k, rfl, rfl, (tc_bn_in h8), (tc_put_none (n := 0) rfl (by omega))⟩)))
    ·
      refine x_iconst (v := nI 1) C dM_bytes_11 (by decide) ?_
      refine x_goto C 30 dM_bytes_12 (by decide) ?_
      refine x_put C fpM_77 0 (tc_wM mm cmm 1 iu ki mu fs ss tx us te my mo mz mi iz ma mf mp od ar lw oc sk sa sl pp re rd co dq bo lc) rfl rfl rfl rfl (Nat.le_of_ble_eq_true rfl) dM_bytes_30 ?_
      refine x_aload_n C dM_bytes_33 rfl 0 rfl ?_
      refine x_get C fgM_77 0 rfl rfl dM_bytes_34 ?_
      refine x_if_le (tgt := 42) C dM_bytes_37 (by decide) (fun h => absurd h (by decide)) (fun _ => ?_)
      refine x_iconst (v := nI 0) C dM_bytes_40 (by decide) ?_
      exact x_iret C T .int rfl rfl dM_bytes_41 (Or.inl (⟨rfl, rfl, (tc_bn_hi (by omega) hk)⟩))
