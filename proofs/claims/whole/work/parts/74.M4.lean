set_option maxHeartbeats 4000000 in
set_option maxRecDepth 100000 in
/-- append -/
theorem c_M_append (D : va_G) (mm : Nat → Nat) (cmm : Nat → ClassId) (th : Nat) (iu : Nat → Bool) (ki : Nat → Nat) (mu : Nat → Int64) (fs : Nat → Option Nat) (ss : Nat → Option Nat) (tx : Nat → Nat) (us : Nat) (te : Nat → Nat) (my : Nat) (mo : Nat → Nat) (mz : Nat) (mi : Nat → Nat) (iz : Nat) (ma : Nat) (mf : Nat) (mp : Option Nat) (od : Nat → Nat) (ar : Nat → Option Nat) (lw : Nat → Nat) (oc : Nat) (sk : Nat → Nat) (sa : Nat → Option Nat) (sl : Nat → Nat) (pp : Nat) (re : Nat → Nat) (rd : Nat) (co : Nat → Nat) (dq : Nat → Nat) (bo : Nat → Nat) (lc : Nat → Nat) (m : Nat) (x : Int64) (n : Nat) (c : Nat) (y1 : m < 200) (y2 : n ≤ 8) (y3 : mu m = lN c) (y4 : c + n ≤ 64) : xk_Ct yM_append cM_append 6 none { frames := 0, cells := 0, slots := 0, locals := 0 } D (tc_tM cmm) [.ref (mm 0), .int (nI m), .long x, .int (nI n)] (tc_wM mm cmm th iu ki mu fs ss tx us te my mo mz mi iz ma mf mp od ar lw oc sk sa sl pp re rd co dq bo lc) (fun rv ru => (∃ (mg : Nat → Int64), ∃ (tg : Nat → Nat), rv = none ∧ ru = tc_wM mm cmm th iu ki mg fs ss tg us te my mo mz mi iz ma mf mp od ar lw oc sk sa sl pp re rd co dq bo lc ∧ (mg m = lN (c + n)) ∧ (∀ i, i ≠ m → mg i = mu i) ∧ (∀ q, tg q % 256 = if 64 * m + c ≤ q ∧ q < 64 * m + c + n then tc_by x (n - 1 - (q - (64 * m + c))) else tx q % 256))) := by
  refine xk_enter (by decide) (Nat.le_of_ble_eq_true rfl) (fun K C T hin => ?_)
  show xk_Go K D 6 0 0 (tc_wM mm cmm th iu ki mu fs ss tx us te my mo mz mi iz ma mf mp od ar lw oc sk sa sl pp re rd co dq bo lc) [(0, .ref (mm 0)), (1, .int (nI m)), (2, .long x), (4, .int (nI n))] 0 []
  refine x_iload C dM_append_0 3 rfl ?_
  refine x_iconst (v := nI 1) C dM_append_2 (by decide) ?_
  refine x_isub C dM_append_3 ?_
  refine x_top (tc_pr_sub n) ?_
  refine x_istore C [(5, .int (xk_oI (tc_pr n))), (0, .ref (mm 0)), (1, .int (nI m)), (2, .long x), (4, .int (nI n))] dM_append_4 (by decide) rfl ?_
  have lp6 : ∀ (zc : Nat) (jn : Nat) (mg : Nat → Int64) (tg : Nat → Nat), jn < zc → (jn ≤ n) → (mg m = lN (c + (n - jn))) → (∀ i, i ≠ m → mg i = mu i) → (∀ q, tg q % 256 = if 64 * m + c ≤ q ∧ q < 64 * m + c + (n - jn) then tc_by x (n - 1 - (q - (64 * m + c))) else tx q % 256) → xk_Go K D 6 0 0 (tc_wM mm cmm th iu ki mg fs ss tg us te my mo mz mi iz ma mf mp od ar lw oc sk sa sl pp re rd co dq bo lc) [(0, .ref (mm 0)), (1, .int (nI m)), (2, .long x), (4, .int (nI n)), (5, .int (xk_oI (tc_pr jn)))] 6 [] := by
    intro zc
    induction zc with
    | zero => intro jn mg tg hm; exact absurd hm (Nat.not_lt_zero _)
    | succ zc ih6 =>
      intro jn mg tg hm e1 e2 e3 e4
      refine x_iload C dM_append_6 4 rfl ?_
      rcases jn with _ | j
      ·
        show xk_Go K D 6 0 0 (tc_wM mm cmm th iu ki mg fs ss tg us te my mo mz mi iz ma mf mp od ar lw oc sk sa sl pp re rd co dq bo lc) [(0, .ref (mm 0)), (1, .int (nI m)), (2, .long x), (4, .int (nI n)), (5, .int (xk_oI none))] 8 [.int (xk_oI none)]
        refine x_if_lt (tgt := 53) C dM_append_8 (by decide) (fun _ => ?_) (fun h => absurd (by decide) h)
        exact x_vret C T rfl dM_append_53 (⟨mg, tg, rfl, rfl, (by rw [Nat.sub_zero] at e2; exact e2), e3, (by rw [Nat.sub_zero] at e4; exact e4)⟩)
      ·
        show xk_Go K D 6 0 0 (tc_wM mm cmm th iu ki mg fs ss tg us te my mo mz mi iz ma mf mp od ar lw oc sk sa sl pp re rd co dq bo lc) [(0, .ref (mm 0)), (1, .int (nI m)), (2, .long x), (4, .int (nI n)), (5, .int (nI j))] 8 [.int (nI j)]
        refine x_if_ltN (tgt := 53) C (by omega) dM_append_8 (by decide) ?_
        refine x_aload_n C dM_append_11 rfl 0 rfl ?_
        refine x_get C fgM_27 0 rfl rfl dM_append_12 ?_
        refine x_bipush (v := nI 64) C dM_append_15 (by decide) ?_
        refine x_iload_n C dM_append_17 rfl 1 rfl ?_
        refine x_imulN C dM_append_18 ?_
        refine x_aload_n C dM_append_19 rfl 0 rfl ?_
        refine x_get C fgM_17 0 rfl rfl dM_append_20 ?_
        refine x_iload_n C dM_append_23 rfl 1 rfl ?_
        refine x_lld C 3 2 rfl rfl (by omega) (by decide) dM_append_24 ?_
        refine x_l2i (v := nI (c + (n - (j + 1)))) C dM_append_25 (by rw [e2]; exact lN_i _) ?_
        refine x_iaddN C dM_append_26 ?_
        refine x_lload_n C dM_append_27 rfl 2 rfl ?_
        refine x_bipush (v := nI 8) C dM_append_28 (by decide) ?_
        refine x_iload C dM_append_30 4 rfl ?_
        refine x_imulN C dM_append_32 ?_
        refine x_lshr (v := x >>> ((nI (8 * j)).toInt64 &&& 63)) C dM_append_33 rfl ?_
        refine x_l2i (v := Int64.toInt32 (x >>> ((nI (8 * j)).toInt64 &&& 63))) C dM_append_34 rfl ?_
        refine x_i2b (v := xk_sb (tc_by x j)) C dM_append_35 (tc_sb_by x (by omega)) ?_
        refine x_bst C 6 5 (tc_wM mm cmm th iu ki mg fs ss (va_up tg (64 * m + (c + (n - (j + 1)))) (tc_by x j)) us te my mo mz mi iz ma mf mp od ar lw oc sk sa sl pp re rd co dq bo lc) rfl rfl ((congrArg _ (xk_sb_nar (tc_by x j))).trans (xk_bA_up tg (64 * m + (c + (n - (j + 1)))) (tc_by x j))) rfl (by omega) (by decide) dM_append_36 ?_
        refine x_aload_n C dM_append_37 rfl 0 rfl ?_
        refine x_get C fgM_17 0 rfl rfl dM_append_38 ?_
        refine x_iload_n C dM_append_41 rfl 1 rfl ?_
        refine x_dup2 C dM_append_42 rfl rfl ?_
        refine x_lld C 3 2 rfl rfl (by omega) (by decide) dM_append_43 ?_
        refine x_lconst (v := 1) C dM_append_44 (by decide) ?_
        refine x_ladd C dM_append_45 ?_
        refine x_lst C 3 2 (tc_wM mm cmm th iu ki (vp_updL mg m ((mg m) + 1)) fs ss (va_up tg (64 * m + (c + (n - (j + 1)))) (tc_by x j)) us te my mo mz mi iz ma mf mp od ar lw oc sk sa sl pp re rd co dq bo lc) rfl rfl rfl rfl (by omega) (by decide) dM_append_46 ?_
        refine x_iinc (q := 4) C (xk_oI (tc_pr j)) [(5, .int (xk_oI (tc_pr j))), (0, .ref (mm 0)), (1, .int (nI m)), (2, .long x), (4, .int (nI n))] dM_append_47 rfl (tc_pr_dec j) (by decide) rfl ?_
        refine x_goto C 6 dM_append_50 (by decide) ?_
        exact x_sub [1, 2, 3, 4, 0] rfl (ih6 j (vp_updL mg m ((mg m) + 1)) (va_up tg (64 * m + (c + (n - (j + 1)))) (tc_by x j)) (by omega) (by omega) (by rw [pk_uLs, e2]; exact tc_ap1 (by omega)) (fun i hi => (pk_uLn hi).trans (e3 i hi)) (tc_ap2 e4 (by omega)))
  exact x_sub [1, 2, 3, 4, 0] rfl (lp6 _ n mu tx (Nat.lt_succ_self _) (Nat.le_refl _) (by rw [Nat.sub_self]; exact y3) (fun _ _ => rfl) (fun q => by rw [Nat.sub_self, if_neg (by omega)]))
set_option maxHeartbeats 4000000 in
set_option maxRecDepth 100000 in
/-- bytes -/
theorem c_M_bytes (D : va_G) (mm : Nat → Nat) (cmm : Nat → ClassId) (th : Nat) (iu : Nat → Bool) (ki : Nat → Nat) (mu : Nat → Int64) (fs : Nat → Option Nat) (ss : Nat → Option Nat) (tx : Nat → Nat) (us : Nat) (te : Nat → Nat) (my : Nat) (mo : Nat → Nat) (mz : Nat) (mi : Nat → Nat) (iz : Nat) (ma : Nat) (mf : Nat) (mp : Option Nat) (od : Nat → Nat) (ar : Nat → Option Nat) (lw : Nat → Nat) (oc : Nat) (sk : Nat → Nat) (sa : Nat → Option Nat) (sl : Nat → Nat) (pp : Nat) (re : Nat → Nat) (rd : Nat) (co : Nat → Nat) (dq : Nat → Nat) (bo : Nat → Nat) (lc : Nat → Nat) (x : Int64) (n : Int32) (Ts : List (List tc_Nd)) (y1 : tc_RM Ts (iu, ki, mu, fs, ss, tx) us te my) : xk_Ct yM_bytes cM_bytes 5 (some .int) { frames := 2, cells := 0, slots := 0, locals := 45 } D (tc_tM cmm) [.ref (mm 0), .long x, .int n] (tc_wM mm cmm th iu ki mu fs ss tx us te my mo mz mi iz ma mf mp od ar lw oc sk sa sl pp re rd co dq bo lc) (fun rv ru => (rv = some (.int (nI 0)) ∧ ru = tc_wM mm cmm 1 iu ki mu fs ss tx us te my mo mz mi iz ma mf mp od ar lw oc sk sa sl pp re rd co dq bo lc ∧ (tc_bn n = none)) ∨ (∃ (k : Nat), rv = some (.int (nI 0)) ∧ ru = tc_wM mm cmm 2 iu ki mu fs ss tx us te my mo mz mi iz ma mf mp od ar lw oc sk sa sl pp re rd co dq bo lc ∧ (tc_bn n = some k) ∧ (tc_put (8, 0, []) Ts = none)) ∨ (∃ (k : Nat), ∃ (iug : Nat → Bool), ∃ (kig : Nat → Nat), ∃ (mug : Nat → Int64), ∃ (fsg : Nat → Option Nat), ∃ (ssg : Nat → Option Nat), ∃ (txg : Nat → Nat), ∃ (usg : Nat), ∃ (teg : Nat → Nat), ∃ (myg : Nat), rv = some (.int (nI (Ts.length + 1))) ∧ ru = tc_wM mm cmm 0 iug kig mug fsg ssg txg usg teg myg mo mz mi iz ma mf mp od ar lw oc sk sa sl pp re rd co dq bo lc ∧ (tc_bn n = some k) ∧ (tc_put (8, 0, []) Ts = some ([(8, 0, [])] :: Ts)) ∧ (tc_RM ([(8, lN k, tc_bts x k)] :: Ts) (iug, kig, mug, fsg, ssg, txg) usg teg myg))) := by
  refine xk_enter (by decide) (Nat.le_of_ble_eq_true rfl) (fun K C T hin => ?_)
  obtain ⟨yu, yv, yn, yc⟩ := tc_RM_us y1
  show xk_Go K D 5 0 0 (tc_wM mm cmm th iu ki mu fs ss tx us te my mo mz mi iz ma mf mp od ar lw oc sk sa sl pp re rd co dq bo lc) [(0, .ref (mm 0)), (1, .long x), (3, .int n)] 0 []
  refine x_aload_n C dM_bytes_0 rfl 0 rfl ?_
  refine x_iload_n C dM_bytes_1 rfl 2 rfl ?_
  refine x_if_lt (tgt := 11) C dM_bytes_2 (by decide) (fun h2 => ?_) (fun h2 => ?_)
  ·
    refine x_iconst (v := nI 1) C dM_bytes_11 (by decide) ?_
    refine x_goto C 30 dM_bytes_12 (by decide) ?_
    refine x_put C fpM_77 0 (tc_wM mm cmm 1 iu ki mu fs ss tx us te my mo mz mi iz ma mf mp od ar lw oc sk sa sl pp re rd co dq bo lc) rfl rfl rfl rfl (Nat.le_of_ble_eq_true rfl) dM_bytes_30 ?_
    refine x_aload_n C dM_bytes_33 rfl 0 rfl ?_
    refine x_get C fgM_77 0 rfl rfl dM_bytes_34 ?_
    refine x_if_le (tgt := 42) C dM_bytes_37 (by decide) (fun h => absurd h (by decide)) (fun _ => ?_)
    refine x_iconst (v := nI 0) C dM_bytes_40 (by decide) ?_
    exact x_iret C T .int rfl rfl dM_bytes_41 (Or.inl (⟨rfl, rfl, (tc_bn_lo h2)⟩))
  ·
    obtain ⟨k, hk, rfl⟩ := nI_of h2
    refine x_iload_n C dM_bytes_5 rfl 2 rfl ?_
    refine x_bipush (v := nI 8) C dM_bytes_6 (by decide) ?_
    refine x_icmp_leN (tgt := 15) C (by omega) (by decide) dM_bytes_8 (by decide) (fun h8 => ?_) (fun h8 => ?_)
    ·
      refine x_aload_n C dM_bytes_15 rfl 0 rfl ?_
      refine x_get C fgM_84 0 rfl rfl dM_bytes_16 ?_
      refine x_sipush (v := nI 200) C dM_bytes_19 (by decide) ?_
      refine x_icmp_neN (tgt := 29) C (by omega) (by decide) dM_bytes_22 (by decide) (fun h22 => ?_) (fun h22 => ?_)
      ·
        refine x_iconst (v := nI 0) C dM_bytes_29 (by decide) ?_
        refine x_put C fpM_77 0 (tc_wM mm cmm 0 iu ki mu fs ss tx us te my mo mz mi iz ma mf mp od ar lw oc sk sa sl pp re rd co dq bo lc) rfl rfl rfl rfl (Nat.le_of_ble_eq_true rfl) dM_bytes_30 ?_
        refine x_aload_n C dM_bytes_33 rfl 0 rfl ?_
        refine x_get C fgM_77 0 rfl rfl dM_bytes_34 ?_
        refine x_if_le (tgt := 42) C dM_bytes_37 (by decide) (fun _ => ?_) (fun h => absurd (by decide) h)
        refine x_aload_n C dM_bytes_42 rfl 0 rfl ?_
        refine x_bipush (v := nI 8) C dM_bytes_43 (by decide) ?_
        refine x_lconst (v := 0) C dM_bytes_45 (by decide) ?_
        obtain ⟨k0, hk0, hk1⟩ := tc_RM_free y1 (by omega)
        refine x_callV C (c_M_make D mm cmm 0 iu ki mu fs ss tx us te my mo mz mi iz ma mf mp od ar lw oc sk sa sl pp re rd co dq bo lc 8 0 k0 hk0 hk1) kbM_115 kcM_115 [0, 1, 2, 3, 4, 5, 6, 7, 8, 9, 10, 11, 12, 13, 14, 15, 16, 17, 18, 19, 20] [] [0, 1, 2, 3, 4, 5, 6, 7, 8, 9, 10, 11, 12, 13, 14, 15, 16, 17, 18, 19] ([]) rfl rfl (by decide) (by decide) (by decide) rfl 0 rfl rfl ⟨Nat.le_of_ble_eq_true rfl, Nat.le_of_ble_eq_true rfl⟩ ⟨Nat.le_of_ble_eq_true rfl, Nat.le_of_ble_eq_true rfl⟩ [] rfl rfl (Nat.le_of_ble_eq_true rfl) dM_bytes_46 (fun rv ru hw => ?_)
        obtain ⟨m, rfl, rfl, g1, g2⟩ := hw
        show xk_Go K D 5 0 0 (tc_wM mm cmm 0 (va_up iu m true) (va_up ki m 8) (vp_updL mu m 0) (va_up fs m none) (va_up ss m none) tx (us + 1) te my mo mz mi iz ma mf mp od ar lw oc sk sa sl pp re rd co dq bo lc) [(0, .ref (mm 0)), (1, .long x), (3, .int (nI k))] 49 [.int (nI m)]
        refine x_istore C [(4, .int (nI m)), (0, .ref (mm 0)), (1, .long x), (3, .int (nI k))] dM_bytes_49 (by decide) rfl ?_
        refine x_aload_n C dM_bytes_51 rfl 1 rfl ?_
        refine x_iload C dM_bytes_52 0 rfl ?_
        refine x_lload_n C dM_bytes_54 rfl 2 rfl ?_
        refine x_iload_n C dM_bytes_55 rfl 3 rfl ?_
        refine x_callV C (c_M_append D mm cmm 0 (va_up iu m true) (va_up ki m 8) (vp_updL mu m 0) (va_up fs m none) (va_up ss m none) tx (us + 1) te my mo mz mi iz ma mf mp od ar lw oc sk sa sl pp re rd co dq bo lc m x k 0 g1 h8 (by rw [pk_uLs]; rfl) (by omega)) kbM_119 kcM_119 [0, 1, 2, 3, 4, 5, 6, 7, 8, 9, 10, 11, 12, 13, 14, 15, 16, 17, 18, 19, 20] [] [0, 1, 2, 3, 4, 5, 6, 7, 8, 9, 10, 11, 12, 13, 14, 15, 16, 17, 18, 19] ([]) rfl rfl (by decide) (by decide) (by decide) rfl 0 rfl rfl ⟨Nat.le_of_ble_eq_true rfl, Nat.le_of_ble_eq_true rfl⟩ ⟨Nat.le_of_ble_eq_true rfl, Nat.le_of_ble_eq_true rfl⟩ [] rfl rfl (Nat.le_of_ble_eq_true rfl) dM_bytes_56 (fun rv ru hw => ?_)
        obtain ⟨mga, tga, rfl, rfl, g1a, g2a, g3a⟩ := hw
        show xk_Go K D 5 0 0 (tc_wM mm cmm 0 (va_up iu m true) (va_up ki m 8) mga (va_up fs m none) (va_up ss m none) tga (us + 1) te my mo mz mi iz ma mf mp od ar lw oc sk sa sl pp re rd co dq bo lc) [(4, .int (nI m)), (0, .ref (mm 0)), (1, .long x), (3, .int (nI k))] 59 []
        refine x_aload_n C dM_bytes_59 rfl 1 rfl ?_
        refine x_get C fgM_31 0 rfl rfl dM_bytes_60 ?_
        refine x_aload_n C dM_bytes_63 rfl 1 rfl ?_
        refine x_get C fgM_94 0 rfl rfl dM_bytes_64 ?_
        refine x_iload C dM_bytes_67 0 rfl ?_
        refine x_ist C 7 6 (tc_wM mm cmm 0 (va_up iu m true) (va_up ki m 8) mga (va_up fs m none) (va_up ss m none) tga (us + 1) (va_up te my m) my mo mz mi iz ma mf mp od ar lw oc sk sa sl pp re rd co dq bo lc) rfl rfl (xk_nA_up te my m) rfl (by omega) (by decide) dM_bytes_69 ?_
        refine x_aload_n C dM_bytes_70 rfl 1 rfl ?_
        refine x_dup C dM_bytes_71 rfl ?_
        refine x_get C fgM_94 0 rfl rfl dM_bytes_72 ?_
        refine x_iconst (v := nI 1) C dM_bytes_75 (by decide) ?_
        refine x_iaddN C dM_bytes_76 ?_
        refine x_put C fpM_94 0 (tc_wM mm cmm 0 (va_up iu m true) (va_up ki m 8) mga (va_up fs m none) (va_up ss m none) tga (us + 1) (va_up te my m) (my + 1) mo mz mi iz ma mf mp od ar lw oc sk sa sl pp re rd co dq bo lc) rfl rfl rfl rfl (Nat.le_of_ble_eq_true rfl) dM_bytes_77 ?_
        refine x_aload_n C dM_bytes_80 rfl 1 rfl ?_
        refine x_get C fgM_94 0 rfl rfl dM_bytes_81 ?_
        exact x_iret C T .int rfl rfl dM_bytes_84 (Or.inr (Or.inr (⟨k, _, _, _, _, _, _, _, _, _, by rw [yn], rfl, (tc_bn_in h8), (tc_put_0 rfl (by omega)), (tc_bytes_RM (tc_RM_put0 (k := 8) (x := 0) y1 g1 g2 (Or.inr rfl) (tc_okn_of (by decide) (tc_fit8 (n := 0) (by decide)) (fun _ => rfl)) rfl) h8 g1a g2a g3a)⟩)))
      ·
        refine x_iconst (v := nI 2) C dM_bytes_25 (by decide) ?_
        refine x_goto C 30 dM_bytes_26 (by decide) ?_
        refine x_put C fpM_77 0 (tc_wM mm cmm 2 iu ki mu fs ss tx us te my mo mz mi iz ma mf mp od ar lw oc sk sa sl pp re rd co dq bo lc) rfl rfl rfl rfl (Nat.le_of_ble_eq_true rfl) dM_bytes_30 ?_
        refine x_aload_n C dM_bytes_33 rfl 0 rfl ?_
        refine x_get C fgM_77 0 rfl rfl dM_bytes_34 ?_
        refine x_if_le (tgt := 42) C dM_bytes_37 (by decide) (fun h => absurd h (by decide)) (fun _ => ?_)
        refine x_iconst (v := nI 0) C dM_bytes_40 (by decide) ?_
        exact x_iret C T .int rfl rfl dM_bytes_41 (Or.inr (Or.inl (⟨k, rfl, rfl, (tc_bn_in h8), (tc_put_none (n := 0) rfl (by omega))⟩)))
    ·
      refine x_iconst (v := nI 1) C dM_bytes_11 (by decide) ?_
      refine x_goto C 30 dM_bytes_12 (by decide) ?_
      refine x_put C fpM_77 0 (tc_wM mm cmm 1 iu ki mu fs ss tx us te my mo mz mi iz ma mf mp od ar lw oc sk sa sl pp re rd co dq bo lc) rfl rfl rfl rfl (Nat.le_of_ble_eq_true rfl) dM_bytes_30 ?_
      refine x_aload_n C dM_bytes_33 rfl 0 rfl ?_
      refine x_get C fgM_77 0 rfl rfl dM_bytes_34 ?_
      refine x_if_le (tgt := 42) C dM_bytes_37 (by decide) (fun h => absurd h (by decide)) (fun _ => ?_)
      refine x_iconst (v := nI 0) C dM_bytes_40 (by decide) ?_
      exact x_iret C T .int rfl rfl dM_bytes_41 (Or.inl (⟨rfl, rfl, (tc_bn_hi (by omega) hk)⟩))
set_option maxHeartbeats 4000000 in
set_option maxRecDepth 100000 in
/-- more -/
theorem c_M_more (D : va_G) (mm : Nat → Nat) (cmm : Nat → ClassId) (th : Nat) (iu : Nat → Bool) (ki : Nat → Nat) (mu : Nat → Int64) (fs : Nat → Option Nat) (ss : Nat → Option Nat) (tx : Nat → Nat) (us : Nat) (te : Nat → Nat) (my : Nat) (mo : Nat → Nat) (mz : Nat) (mi : Nat → Nat) (iz : Nat) (ma : Nat) (mf : Nat) (mp : Option Nat) (od : Nat → Nat) (ar : Nat → Option Nat) (lw : Nat → Nat) (oc : Nat) (sk : Nat → Nat) (sa : Nat → Option Nat) (sl : Nat → Nat) (pp : Nat) (re : Nat → Nat) (rd : Nat) (co : Nat → Nat) (dq : Nat → Nat) (bo : Nat → Nat) (lc : Nat → Nat) (x : Int64) (n : Int32) (Ts : List (List tc_Nd)) (y1 : tc_RM Ts (iu, ki, mu, fs, ss, tx) us te my) : xk_Ct yM_more cM_more 5 (some .boolean) { frames := 1, cells := 0, slots := 0, locals := 25 } D (tc_tM cmm) [.ref (mm 0), .long x, .int n] (tc_wM mm cmm th iu ki mu fs ss tx us te my mo mz mi iz ma mf mp od ar lw oc sk sa sl pp re rd co dq bo lc) (fun rv ru => (rv = some (.int (nI 0)) ∧ ru = tc_wM mm cmm 0 iu ki mu fs ss tx us te my mo mz mi iz ma mf mp od ar lw oc sk sa sl pp re rd co dq bo lc ∧ (tc_more x n Ts = none)) ∨ (∃ (iug : Nat → Bool), ∃ (kig : Nat → Nat), ∃ (mug : Nat → Int64), ∃ (fsg : Nat → Option Nat), ∃ (ssg : Nat → Option Nat), ∃ (txg : Nat → Nat), ∃ (usg : Nat), ∃ (teg : Nat → Nat), ∃ (myg : Nat), ∃ (Tn : List (List tc_Nd)), rv = some (.int (nI 1)) ∧ ru = tc_wM mm cmm 0 iug kig mug fsg ssg txg usg teg myg mo mz mi iz ma mf mp od ar lw oc sk sa sl pp re rd co dq bo lc ∧ (tc_more x n Ts = some Tn) ∧ (tc_RM Tn (iug, kig, mug, fsg, ssg, txg) usg teg myg))) := by
  refine xk_enter (by decide) (Nat.le_of_ble_eq_true rfl) (fun K C T hin => ?_)
  obtain ⟨yu, yv, yn, yc⟩ := tc_RM_us y1
  show xk_Go K D 5 0 0 (tc_wM mm cmm th iu ki mu fs ss tx us te my mo mz mi iz ma mf mp od ar lw oc sk sa sl pp re rd co dq bo lc) [(0, .ref (mm 0)), (1, .long x), (3, .int n)] 0 []
  refine x_aload_n C dM_more_0 rfl 0 rfl ?_
  refine x_iconst (v := nI 0) C dM_more_1 (by decide) ?_
  refine x_put C fpM_77 0 (tc_wM mm cmm 0 iu ki mu fs ss tx us te my mo mz mi iz ma mf mp od ar lw oc sk sa sl pp re rd co dq bo lc) rfl rfl rfl rfl (Nat.le_of_ble_eq_true rfl) dM_more_2 ?_
  refine x_aload_n C dM_more_5 rfl 0 rfl ?_
  refine x_get C fgM_94 0 rfl rfl dM_more_6 ?_
  refine x_if_neN (tgt := 16) C (by omega) dM_more_9 (by decide) (fun h9 => ?_) (fun h9 => ?_)
  ·
    refine x_aload_n C dM_more_16 rfl 0 rfl ?_
    refine x_get C fgM_31 0 rfl rfl dM_more_17 ?_
    refine x_aload_n C dM_more_20 rfl 0 rfl ?_
    refine x_get C fgM_94 0 rfl rfl dM_more_21 ?_
    refine x_iconst (v := nI 1) C dM_more_24 (by decide) ?_
    refine x_isubN C (by omega) dM_more_25 ?_
    refine x_ild C 7 6 rfl rfl (by omega) (by decide) dM_more_26 ?_
    show xk_Go K D 5 0 0 (tc_wM mm cmm 0 iu ki mu fs ss tx us te my mo mz mi iz ma mf mp od ar lw oc sk sa sl pp re rd co dq bo lc) [(0, .ref (mm 0)), (1, .long x), (3, .int n)] 27 [.int (nI (te (my - 1)))]
    obtain ⟨ids, I, R, rfl, yI, yg, ym⟩ := tc_RM_top y1 (by omega)
    obtain ⟨F, hF, hFo⟩ := tc_Fo_hd yg.1
    have yk11 := yg.2.2.2.2.2 (te (my - 1)) (by rw [hF]; exact List.mem_cons_self)
    have yr2 := yg.2.2.1 (te (my - 1)) (by rw [hF]; exact List.mem_cons_self)
    subst hF
    refine x_istore C [(4, .int (nI (te (my - 1)))), (0, .ref (mm 0)), (1, .long x), (3, .int n)] dM_more_27 (by decide) rfl ?_
    refine x_aload_n C dM_more_29 rfl 1 rfl ?_
    refine x_get C fgM_94 0 rfl rfl dM_more_30 ?_
    refine x_if_eqN (tgt := 76) C (by omega) dM_more_33 (by decide) (fun h33 => ?_) (fun h33 => ?_)
    ·
      exact absurd h33 (by omega)
    ·
      refine x_aload_n C dM_more_36 rfl 1 rfl ?_
      refine x_get C fgM_13 0 rfl rfl dM_more_37 ?_
      refine x_iload C dM_more_40 0 rfl ?_
      refine x_ild C 2 1 rfl rfl (by omega) (by decide) dM_more_42 ?_
      show xk_Go K D 5 0 0 (tc_wM mm cmm 0 iu ki mu fs ss tx us te my mo mz mi iz ma mf mp od ar lw oc sk sa sl pp re rd co dq bo lc) [(4, .int (nI (te (my - 1)))), (0, .ref (mm 0)), (1, .long x), (3, .int n)] 43 [.int (nI (ki (te (my - 1))))]
      refine x_bipush (v := nI 8) C dM_more_43 (by decide) ?_
      refine x_icmp_neN (tgt := 76) C (by omega) (by decide) dM_more_45 (by decide) (fun h45 => ?_) (fun h45 => ?_)
      ·
        refine x_iconst (v := nI 0) C dM_more_76 (by decide) ?_
        exact x_iret C T .boolean rfl rfl dM_more_77 (Or.inl (⟨rfl, rfl, (by first | (rw [tc_RM_nil y1 (by omega)]; exact tc_more_nil) | exact tc_more_n8 h45 | exact tc_more_lo h50 | exact tc_more_hi h56 | exact (tc_more_in hk1 hk8).trans (tc_ext_none (Or.inr (by rw [hc4]; have z : ¬ (c + k ≤ 64) := fun q => h73 ((tc_le64 (by omega)).mpr q); omega))))⟩))
      ·
        have hok8 : tc_okn (tc_mn ki mu tx (te (my - 1))) := tc_RI_okn yI _ (List.mem_append_left _ List.mem_cons_self)
        obtain ⟨c, hc1, hc2, hc3, hc4⟩ := tc_mn_cnt hok8 h45
        have hF0 : F.map (tc_mn ki mu tx) = [] := tc_leaf (x := tc_mn ki mu tx (te (my - 1))) (tc_Hg_wf yg) (by show tc_tk (ki (te (my - 1))) = 0; rw [h45]; rfl)
        obtain rfl : F = [] := List.map_eq_nil_iff.mp hF0
        refine x_iload_n C dM_more_48 rfl 3 rfl ?_
        refine x_iconst (v := nI 1) C dM_more_49 (by decide) ?_
        refine x_icmp_lt (tgt := 76) C dM_more_50 (by decide) (fun h50 => ?_) (fun h50 => ?_)
        ·
          refine x_iconst (v := nI 0) C dM_more_76 (by decide) ?_
          exact x_iret C T .boolean rfl rfl dM_more_77 (Or.inl (⟨rfl, rfl, (by first | (rw [tc_RM_nil y1 (by omega)]; exact tc_more_nil) | exact tc_more_n8 h45 | exact tc_more_lo h50 | exact tc_more_hi h56 | exact (tc_more_in hk1 hk8).trans (tc_ext_none (Or.inr (by rw [hc4]; have z : ¬ (c + k ≤ 64) := fun q => h73 ((tc_le64 (by omega)).mpr q); omega))))⟩))
        ·
          refine x_iload_n C dM_more_53 rfl 3 rfl ?_
          refine x_bipush (v := nI 8) C dM_more_54 (by decide) ?_
          refine x_icmp_gt (tgt := 76) C dM_more_56 (by decide) (fun h56 => ?_) (fun h56 => ?_)
          ·
            refine x_iconst (v := nI 0) C dM_more_76 (by decide) ?_
            exact x_iret C T .boolean rfl rfl dM_more_77 (Or.inl (⟨rfl, rfl, (by first | (rw [tc_RM_nil y1 (by omega)]; exact tc_more_nil) | exact tc_more_n8 h45 | exact tc_more_lo h50 | exact tc_more_hi h56 | exact (tc_more_in hk1 hk8).trans (tc_ext_none (Or.inr (by rw [hc4]; have z : ¬ (c + k ≤ 64) := fun q => h73 ((tc_le64 (by omega)).mpr q); omega))))⟩))
          ·
            obtain ⟨k, hk1, hk8, rfl⟩ := tc_rng18 h50 h56
            refine x_aload_n C dM_more_59 rfl 1 rfl ?_
            refine x_get C fgM_17 0 rfl rfl dM_more_60 ?_
            refine x_iload C dM_more_63 0 rfl ?_
            refine x_lld C 3 2 rfl rfl (by omega) (by decide) dM_more_65 ?_
            rw [hc1]
            refine x_iload_n C dM_more_66 rfl 3 rfl ?_
            refine x_i2l (v := lN k) C dM_more_67 (nI_l (by omega)) ?_
            refine x_ladd C dM_more_68 ?_
            rw [lN_add]
            refine x_ldc2 (v := 64) C dM_more_69 klM_123 ?_
            refine x_lcmp C dM_more_72 ?_
            refine x_if_leC (tgt := 78) C dM_more_73 (by decide) (fun h73 => ?_) (fun h73 => ?_)
            ·
              refine x_aload_n C dM_more_78 rfl 1 rfl ?_
              refine x_iload C dM_more_79 0 rfl ?_
              refine x_lload_n C dM_more_81 rfl 2 rfl ?_
              refine x_iload_n C dM_more_82 rfl 3 rfl ?_
              refine x_callV C (c_M_append D mm cmm 0 iu ki mu fs ss tx us te my mo mz mi iz ma mf mp od ar lw oc sk sa sl pp re rd co dq bo lc (te (my - 1)) x k c yr2 hk8 hc1 ((tc_le64 (by omega)).mp h73)) kbM_119 kcM_119 [0, 1, 2, 3, 4, 5, 6, 7, 8, 9, 10, 11, 12, 13, 14, 15, 16, 17, 18, 19, 20] [] [0, 1, 2, 3, 4, 5, 6, 7, 8, 9, 10, 11, 12, 13, 14, 15, 16, 17, 18, 19] ([]) rfl rfl (by decide) (by decide) (by decide) rfl 0 rfl rfl ⟨Nat.le_of_ble_eq_true rfl, Nat.le_of_ble_eq_true rfl⟩ ⟨Nat.le_of_ble_eq_true rfl, Nat.le_of_ble_eq_true rfl⟩ [] rfl rfl (Nat.le_of_ble_eq_true rfl) dM_more_83 (fun rv ru hw => ?_)
              obtain ⟨mga, tga, rfl, rfl, g1a, g2a, g3a⟩ := hw
              show xk_Go K D 5 0 0 (tc_wM mm cmm 0 iu ki mga fs ss tga us te my mo mz mi iz ma mf mp od ar lw oc sk sa sl pp re rd co dq bo lc) [(4, .int (nI (te (my - 1)))), (0, .ref (mm 0)), (1, .long x), (3, .int (nI k))] 86 []
              refine x_iconst (v := nI 1) C dM_more_86 (by decide) ?_
              have h73 := (tc_le64 (by omega)).mp h73
              exact x_iret C T .boolean rfl rfl dM_more_87 (Or.inr (⟨_, _, _, _, _, _, _, _, _, ([(8, lN (c + k), (tc_mn ki mu tx (te (my - 1))).2.2 ++ tc_bts x k)] :: R), rfl, rfl, ((tc_more_in hk1 hk8).trans (by have z := tc_ext_some (p := x) (n := k) (R := R) (x := tc_mn ki mu tx (te (my - 1))) h45 (by rw [hc4]; exact h73); rw [hc4] at z; exact z)), (tc_RM_ext y1 rfl h45 hc4.symm h73 g1a g2a g3a)⟩))
            ·
              refine x_iconst (v := nI 0) C dM_more_76 (by decide) ?_
              exact x_iret C T .boolean rfl rfl dM_more_77 (Or.inl (⟨rfl, rfl, (by first | (rw [tc_RM_nil y1 (by omega)]; exact tc_more_nil) | exact tc_more_n8 h45 | exact tc_more_lo h50 | exact tc_more_hi h56 | exact (tc_more_in hk1 hk8).trans (tc_ext_none (Or.inr (by rw [hc4]; have z : ¬ (c + k ≤ 64) := fun q => h73 ((tc_le64 (by omega)).mpr q); omega))))⟩))
  ·
    refine x_iconst (v := nI 0) C dM_more_12 (by decide) ?_
    refine x_goto C 27 dM_more_13 (by decide) ?_
    refine x_istore C [(4, .int (nI 0)), (0, .ref (mm 0)), (1, .long x), (3, .int n)] dM_more_27 (by decide) rfl ?_
    refine x_aload_n C dM_more_29 rfl 1 rfl ?_
    refine x_get C fgM_94 0 rfl rfl dM_more_30 ?_
    refine x_if_eqN (tgt := 76) C (by omega) dM_more_33 (by decide) (fun h33 => ?_) (fun h33 => ?_)
    ·
      refine x_iconst (v := nI 0) C dM_more_76 (by decide) ?_
      exact x_iret C T .boolean rfl rfl dM_more_77 (Or.inl (⟨rfl, rfl, (by first | (rw [tc_RM_nil y1 (by omega)]; exact tc_more_nil) | exact tc_more_n8 h45 | exact tc_more_lo h50 | exact tc_more_hi h56 | exact (tc_more_in hk1 hk8).trans (tc_ext_none (Or.inr (by rw [hc4]; have z : ¬ (c + k ≤ 64) := fun q => h73 ((tc_le64 (by omega)).mpr q); omega))))⟩))
    ·
      exact absurd h33 (by omega)
set_option maxHeartbeats 4000000 in
set_option maxRecDepth 100000 in
/-- drop -/
theorem c_M_drop (D : va_G) (mm : Nat → Nat) (cmm : Nat → ClassId) (th : Nat) (iu : Nat → Bool) (ki : Nat → Nat) (mu : Nat → Int64) (fs : Nat → Option Nat) (ss : Nat → Option Nat) (tx : Nat → Nat) (us : Nat) (te : Nat → Nat) (my : Nat) (mo : Nat → Nat) (mz : Nat) (mi : Nat → Nat) (iz : Nat) (ma : Nat) (mf : Nat) (mp : Option Nat) (od : Nat → Nat) (ar : Nat → Option Nat) (lw : Nat → Nat) (oc : Nat) (sk : Nat → Nat) (sa : Nat → Option Nat) (sl : Nat → Nat) (pp : Nat) (re : Nat → Nat) (rd : Nat) (co : Nat → Nat) (dq : Nat → Nat) (bo : Nat → Nat) (lc : Nat → Nat) (Ts : List (List tc_Nd)) (y1 : tc_RM Ts (iu, ki, mu, fs, ss, tx) us te my) : xk_Ct yM_drop cM_drop 2 (some .boolean) { frames := 1, cells := 0, slots := 0, locals := 27 } D (tc_tM cmm) [.ref (mm 0)] (tc_wM mm cmm th iu ki mu fs ss tx us te my mo mz mi iz ma mf mp od ar lw oc sk sa sl pp re rd co dq bo lc) (fun rv ru => (rv = some (.int (nI 0)) ∧ ru = tc_wM mm cmm 0 iu ki mu fs ss tx us te my mo mz mi iz ma mf mp od ar lw oc sk sa sl pp re rd co dq bo lc ∧ (Ts = [])) ∨ (∃ (t : List tc_Nd), ∃ (R : List (List tc_Nd)), ∃ (iug : Nat → Bool), ∃ (kig : Nat → Nat), ∃ (mug : Nat → Int64), ∃ (fsg : Nat → Option Nat), ∃ (ssg : Nat → Option Nat), ∃ (txg : Nat → Nat), ∃ (usg : Nat), ∃ (teg : Nat → Nat), ∃ (myg : Nat), ∃ (odg : Nat → Nat), ∃ (arg : Nat → Option Nat), ∃ (lwg : Nat → Nat), ∃ (skg : Nat → Nat), ∃ (sag : Nat → Option Nat), ∃ (slg : Nat → Nat), ∃ (ocg : Nat), rv = some (.int (nI 1)) ∧ ru = tc_wM mm cmm 0 iug kig mug fsg ssg txg usg teg myg mo mz mi iz ma mf mp odg arg lwg ocg skg sag slg pp re rd co dq bo lc ∧ (Ts = t :: R) ∧ (tc_RM R (iug, kig, mug, fsg, ssg, txg) usg teg myg))) := by
  refine xk_enter (by decide) (Nat.le_of_ble_eq_true rfl) (fun K C T hin => ?_)
  obtain ⟨yu, yv, yn, yc⟩ := tc_RM_us y1
  show xk_Go K D 2 0 0 (tc_wM mm cmm th iu ki mu fs ss tx us te my mo mz mi iz ma mf mp od ar lw oc sk sa sl pp re rd co dq bo lc) [(0, .ref (mm 0))] 0 []
  refine x_aload_n C dM_drop_0 rfl 0 rfl ?_
  refine x_iconst (v := nI 0) C dM_drop_1 (by decide) ?_
  refine x_put C fpM_77 0 (tc_wM mm cmm 0 iu ki mu fs ss tx us te my mo mz mi iz ma mf mp od ar lw oc sk sa sl pp re rd co dq bo lc) rfl rfl rfl rfl (Nat.le_of_ble_eq_true rfl) dM_drop_2 ?_
  refine x_aload_n C dM_drop_5 rfl 0 rfl ?_
  refine x_get C fgM_94 0 rfl rfl dM_drop_6 ?_
  refine x_if_neN (tgt := 14) C (by omega) dM_drop_9 (by decide) (fun h9 => ?_) (fun h9 => ?_)
  ·
    obtain ⟨ids, I, R, rfl, yI, yg, ym⟩ := tc_RM_top y1 (by omega)
    have ylen : ids.length ≤ us := by have z := yI.2.2.2.2.2.1; rw [List.flatten_cons, List.length_append] at z; omega
    refine x_aload_n C dM_drop_14 rfl 0 rfl ?_
    refine x_dup C dM_drop_15 rfl ?_
    refine x_get C fgM_94 0 rfl rfl dM_drop_16 ?_
    refine x_iconst (v := nI 1) C dM_drop_19 (by decide) ?_
    refine x_isubN C (by omega) dM_drop_20 ?_
    refine x_put C fpM_94 0 (tc_wM mm cmm 0 iu ki mu fs ss tx us te (my - 1) mo mz mi iz ma mf mp od ar lw oc sk sa sl pp re rd co dq bo lc) rfl rfl rfl rfl (Nat.le_of_ble_eq_true rfl) dM_drop_21 ?_
    refine x_aload_n C dM_drop_24 rfl 0 rfl ?_
    refine x_aload_n C dM_drop_25 rfl 0 rfl ?_
    refine x_get C fgM_31 0 rfl rfl dM_drop_26 ?_
    refine x_aload_n C dM_drop_29 rfl 0 rfl ?_
    refine x_get C fgM_94 0 rfl rfl dM_drop_30 ?_
    refine x_ild C 7 6 rfl rfl (by omega) (by decide) dM_drop_33 ?_
    show xk_Go K D 2 0 0 (tc_wM mm cmm 0 iu ki mu fs ss tx us te (my - 1) mo mz mi iz ma mf mp od ar lw oc sk sa sl pp re rd co dq bo lc) [(0, .ref (mm 0))] 34 [.int (nI (te (my - 1))), .ref (mm 0)]
    refine x_callV C (c_M_go D mm cmm 0 iu ki mu fs ss tx us te (my - 1) mo mz mi iz ma mf mp od ar lw oc sk sa sl pp re rd co dq bo lc (te (my - 1)) ids yg.1 yg.2.1 yg.2.2.1 yg.2.2.2.1 yg.2.2.2.2.1) kbM_90 kcM_90 [0, 1, 2, 3, 4, 5, 6, 7, 8, 9, 10, 11, 12, 13, 14, 15, 16, 17, 18, 19, 20] [] [0, 1, 2, 3, 4, 5, 6, 7, 8, 9, 10, 11, 12, 13, 14, 15, 16, 17, 18, 19] ([]) rfl rfl (by decide) (by decide) (by decide) rfl 0 rfl rfl ⟨Nat.le_of_ble_eq_true rfl, Nat.le_of_ble_eq_true rfl⟩ ⟨Nat.le_of_ble_eq_true rfl, Nat.le_of_ble_eq_true rfl⟩ [] rfl rfl (Nat.le_of_ble_eq_true rfl) dM_drop_34 (fun rv ru hw => ?_)
    obtain ⟨odg, arg, lwg, skg, sag, slg, rfl, rfl, g1⟩ := hw
    show xk_Go K D 2 0 0 (tc_wM mm cmm 0 iu ki mu fs ss tx us te (my - 1) mo mz mi iz ma mf mp odg arg lwg ids.length skg sag slg pp re rd co dq bo lc) [(0, .ref (mm 0))] 37 []
    refine x_iconst (v := nI 0) C dM_drop_37 (by decide) ?_
    refine x_istore_n C [(1, .int (nI 0)), (0, .ref (mm 0))] dM_drop_38 rfl (by decide) rfl ?_
    have lp39 : ∀ (zc : Nat) (k : Nat) (iug : Nat → Bool) (usg : Nat), (ids.length - k) < zc → (k ≤ ids.length) → (∀ i, i ∈ ids.take k → iug i = false) → (∀ i, i ∉ ids.take k → iug i = iu i) → (usg + k = us) → xk_Go K D 2 0 0 (tc_wM mm cmm 0 iug ki mu fs ss tx usg te (my - 1) mo mz mi iz ma mf mp odg arg lwg ids.length skg sag slg pp re rd co dq bo lc) [(0, .ref (mm 0)), (1, .int (nI k))] 39 [] := by
      intro zc
      induction zc with
      | zero => intro k iug usg hm; exact absurd hm (Nat.not_lt_zero _)
      | succ zc ih39 =>
        intro k iug usg hm e1 e2 e3 e4
        refine x_iload_n C dM_drop_39 rfl 1 rfl ?_
        refine x_aload_n C dM_drop_40 rfl 0 rfl ?_
        refine x_get C fgM_87 0 rfl rfl dM_drop_41 ?_
        refine x_icmp_geN (tgt := 63) C (by omega) (by omega) dM_drop_44 (by decide) (fun h44 => ?_) (fun h44 => ?_)
        ·
          refine x_iconst (v := nI 1) C dM_drop_63 (by decide) ?_
          obtain rfl : k = ids.length := by omega
          rw [List.take_length] at e2 e3
          exact x_iret C T .boolean rfl rfl dM_drop_64 (Or.inr (⟨(ids.map (tc_mn ki mu tx)), R, _, _, _, _, _, _, _, _, _, _, _, _, _, _, _, _, rfl, rfl, rfl, (⟨_, tc_RI_drop yI e2 e3 e4⟩)⟩))
        ·
          obtain ⟨i, hi⟩ : ∃ i, ids[k]? = some i := ⟨_, List.getElem?_eq_getElem (by omega)⟩
          have hod := g1.1 k i hi
          have hi2 := yg.2.2.1 i (List.mem_of_getElem? hi)
          refine x_aload_n C dM_drop_47 rfl 0 rfl ?_
          refine x_aload_n C dM_drop_48 rfl 0 rfl ?_
          refine x_get C fgM_44 0 rfl rfl dM_drop_49 ?_
          refine x_iload_n C dM_drop_52 rfl 1 rfl ?_
          refine x_ild C 10 9 rfl rfl (by omega) (by decide) dM_drop_53 ?_
          show xk_Go K D 2 0 0 (tc_wM mm cmm 0 iug ki mu fs ss tx usg te (my - 1) mo mz mi iz ma mf mp odg arg lwg ids.length skg sag slg pp re rd co dq bo lc) [(0, .ref (mm 0)), (1, .int (nI k))] 54 [.int (nI (odg k)), .ref (mm 0)]
          refine x_callV C (c_M_release D mm cmm 0 iug ki mu fs ss tx usg te (my - 1) mo mz mi iz ma mf mp odg arg lwg ids.length skg sag slg pp re rd co dq bo lc (odg k) (by omega) (by omega)) kbM_125 kcM_125 [0, 1, 2, 3, 4, 5, 6, 7, 8, 9, 10, 11, 12, 13, 14, 15, 16, 17, 18, 19, 20] [] [0, 1, 2, 3, 4, 5, 6, 7, 8, 9, 10, 11, 12, 13, 14, 15, 16, 17, 18, 19] ([]) rfl rfl (by decide) (by decide) (by decide) rfl 0 rfl rfl ⟨Nat.le_of_ble_eq_true rfl, Nat.le_of_ble_eq_true rfl⟩ ⟨Nat.le_of_ble_eq_true rfl, Nat.le_of_ble_eq_true rfl⟩ [] rfl rfl (Nat.le_of_ble_eq_true rfl) dM_drop_54 (fun rv ru hw => ?_)
          obtain ⟨rfl, rfl⟩ := hw
          show xk_Go K D 2 0 0 (tc_wM mm cmm 0 (va_up iug (odg k) false) ki mu fs ss tx (usg - 1) te (my - 1) mo mz mi iz ma mf mp odg arg lwg ids.length skg sag slg pp re rd co dq bo lc) [(0, .ref (mm 0)), (1, .int (nI k))] 57 []
          refine x_iinc (q := 1) C (nI (k + 1)) [(1, .int (nI (k + 1))), (0, .ref (mm 0))] dM_drop_57 rfl (nI_add k 1) (by decide) rfl ?_
          refine x_goto C 39 dM_drop_60 (by decide) ?_
          exact x_sub [1, 0] rfl (ih39 (k + 1) (va_up iug (odg k) false) (usg - 1) (by omega) (by omega) (tc_rel1 hi hod e2) (tc_rel2 hi hod e3) (by omega))
    exact x_sub [1, 0] rfl (lp39 _ 0 iu us (Nat.lt_succ_self _) (Nat.zero_le _) (fun i hi => by rw [List.take_zero] at hi; cases hi) (fun _ _ => rfl) rfl)
  ·
    refine x_iconst (v := nI 0) C dM_drop_12 (by decide) ?_
    exact x_iret C T .boolean rfl rfl dM_drop_13 (Or.inl (⟨rfl, rfl, (tc_RM_nil y1 h9)⟩))
set_option maxHeartbeats 4000000 in
set_option maxRecDepth 100000 in
/-- split -/
theorem c_M_split (D : va_G) (mm : Nat → Nat) (cmm : Nat → ClassId) (th : Nat) (iu : Nat → Bool) (ki : Nat → Nat) (mu : Nat → Int64) (fs : Nat → Option Nat) (ss : Nat → Option Nat) (tx : Nat → Nat) (us : Nat) (te : Nat → Nat) (my : Nat) (mo : Nat → Nat) (mz : Nat) (mi : Nat → Nat) (iz : Nat) (ma : Nat) (mf : Nat) (mp : Option Nat) (od : Nat → Nat) (ar : Nat → Option Nat) (lw : Nat → Nat) (oc : Nat) (sk : Nat → Nat) (sa : Nat → Option Nat) (sl : Nat → Nat) (pp : Nat) (re : Nat → Nat) (rd : Nat) (co : Nat → Nat) (dq : Nat → Nat) (bo : Nat → Nat) (lc : Nat → Nat) (Ts : List (List tc_Nd)) (y1 : tc_RM Ts (iu, ki, mu, fs, ss, tx) us te my) : xk_Ct yM_split cM_split 3 (some .int) { frames := 1, cells := 0, slots := 0, locals := 21 } D (tc_tM cmm) [.ref (mm 0)] (tc_wM mm cmm th iu ki mu fs ss tx us te my mo mz mi iz ma mf mp od ar lw oc sk sa sl pp re rd co dq bo lc) (fun rv ru => (rv = some (.int (xk_oI none)) ∧ ru = tc_wM mm cmm 0 iu ki mu fs ss tx us te my mo mz mi iz ma mf mp od ar lw oc sk sa sl pp re rd co dq bo lc ∧ (tc_opn Ts = none)) ∨ (∃ (n : Nat), ∃ (iug : Nat → Bool), ∃ (kig : Nat → Nat), ∃ (mug : Nat → Int64), ∃ (fsg : Nat → Option Nat), ∃ (ssg : Nat → Option Nat), ∃ (txg : Nat → Nat), ∃ (usg : Nat), ∃ (teg : Nat → Nat), ∃ (myg : Nat), ∃ (Tn : List (List tc_Nd)), rv = some (.int (nI n)) ∧ ru = tc_wM mm cmm 0 iug kig mug fsg ssg txg usg teg myg mo mz mi iz ma mf mp od ar lw oc sk sa sl pp re rd co dq bo lc ∧ (tc_opn Ts = some (n, Tn)) ∧ (tc_RM Tn (iug, kig, mug, fsg, ssg, txg) usg teg myg))) := by
  refine xk_enter (by decide) (Nat.le_of_ble_eq_true rfl) (fun K C T hin => ?_)
  obtain ⟨yu, yv, yn, yc⟩ := tc_RM_us y1
  show xk_Go K D 3 0 0 (tc_wM mm cmm th iu ki mu fs ss tx us te my mo mz mi iz ma mf mp od ar lw oc sk sa sl pp re rd co dq bo lc) [(0, .ref (mm 0))] 0 []
  refine x_aload_n C dM_split_0 rfl 0 rfl ?_
  refine x_iconst (v := nI 0) C dM_split_1 (by decide) ?_
  refine x_put C fpM_77 0 (tc_wM mm cmm 0 iu ki mu fs ss tx us te my mo mz mi iz ma mf mp od ar lw oc sk sa sl pp re rd co dq bo lc) rfl rfl rfl rfl (Nat.le_of_ble_eq_true rfl) dM_split_2 ?_
  refine x_aload_n C dM_split_5 rfl 0 rfl ?_
  refine x_get C fgM_94 0 rfl rfl dM_split_6 ?_
  refine x_if_neN (tgt := 16) C (by omega) dM_split_9 (by decide) (fun h9 => ?_) (fun h9 => ?_)
  ·
    refine x_aload_n C dM_split_16 rfl 0 rfl ?_
    refine x_get C fgM_31 0 rfl rfl dM_split_17 ?_
    refine x_aload_n C dM_split_20 rfl 0 rfl ?_
    refine x_get C fgM_94 0 rfl rfl dM_split_21 ?_
    refine x_iconst (v := nI 1) C dM_split_24 (by decide) ?_
    refine x_isubN C (by omega) dM_split_25 ?_
    refine x_ild C 7 6 rfl rfl (by omega) (by decide) dM_split_26 ?_
    show xk_Go K D 3 0 0 (tc_wM mm cmm 0 iu ki mu fs ss tx us te my mo mz mi iz ma mf mp od ar lw oc sk sa sl pp re rd co dq bo lc) [(0, .ref (mm 0))] 27 [.int (nI (te (my - 1)))]
    obtain ⟨ids, I, R, rfl, yI, yg, ym⟩ := tc_RM_top y1 (by omega)
    obtain ⟨F, hF, hFo⟩ := tc_Fo_hd yg.1
    have yk11 := yg.2.2.2.2.2 (te (my - 1)) (by rw [hF]; exact List.mem_cons_self)
    have yr2 := yg.2.2.1 (te (my - 1)) (by rw [hF]; exact List.mem_cons_self)
    subst hF
    refine x_istore_n C [(1, .int (nI (te (my - 1)))), (0, .ref (mm 0))] dM_split_27 rfl (by decide) rfl ?_
    refine x_aload_n C dM_split_28 rfl 1 rfl ?_
    refine x_get C fgM_94 0 rfl rfl dM_split_29 ?_
    refine x_if_eqN (tgt := 47) C (by omega) dM_split_32 (by decide) (fun h32 => ?_) (fun h32 => ?_)
    ·
      exact absurd h32 (by omega)
    ·
      have ykl := (yI.2.2.1 (te (my - 1)) (List.mem_append_left _ List.mem_cons_self)).2.2
      have ytk := tc_tk_le (ki (te (my - 1)))
      refine x_aload_n C dM_split_35 rfl 1 rfl ?_
      refine x_get C fgM_13 0 rfl rfl dM_split_36 ?_
      refine x_iload_n C dM_split_39 rfl 0 rfl ?_
      refine x_ild C 2 1 rfl rfl (by omega) (by decide) dM_split_40 ?_
      show xk_Go K D 3 0 0 (tc_wM mm cmm 0 iu ki mu fs ss tx us te my mo mz mi iz ma mf mp od ar lw oc sk sa sl pp re rd co dq bo lc) [(1, .int (nI (te (my - 1)))), (0, .ref (mm 0))] 41 [.int (nI (ki (te (my - 1))))]
      refine x_callS C (c_M_takes D (ki (te (my - 1))) (by omega)) kbM_109 kcM_109 [] [0, 1, 2, 3, 4, 5, 6, 7, 8, 9, 10, 11, 12, 13, 14, 15, 16, 17, 18, 19, 20] [] (tc_wM mm cmm 0 iu ki mu fs ss tx us te my mo mz mi iz ma mf mp od ar lw oc sk sa sl pp re rd co dq bo lc) rfl rfl (by decide) (by decide) (by decide) rfl ⟨Nat.le_of_ble_eq_true rfl, Nat.le_of_ble_eq_true rfl⟩ ⟨Nat.le_of_ble_eq_true rfl, Nat.le_of_ble_eq_true rfl⟩ [] rfl rfl (Nat.le_of_ble_eq_true rfl) dM_split_41 (fun rv ru hw => ?_)
      obtain ⟨rfl, rfl⟩ := hw
      show xk_Go K D 3 0 0 (tc_wM mm cmm 0 iu ki mu fs ss tx us te my mo mz mi iz ma mf mp od ar lw oc sk sa sl pp re rd co dq bo lc) [(1, .int (nI (te (my - 1)))), (0, .ref (mm 0))] 44 [.int (nI (tc_tk (ki (te (my - 1)))))]
      refine x_if_neN (tgt := 49) C (by omega) dM_split_44 (by decide) (fun h44 => ?_) (fun h44 => ?_)
      ·
        refine x_aload_n C dM_split_49 rfl 1 rfl ?_
        refine x_get C fgM_13 0 rfl rfl dM_split_50 ?_
        refine x_iload_n C dM_split_53 rfl 0 rfl ?_
        refine x_ild C 2 1 rfl rfl (by omega) (by decide) dM_split_54 ?_
        show xk_Go K D 3 0 0 (tc_wM mm cmm 0 iu ki mu fs ss tx us te my mo mz mi iz ma mf mp od ar lw oc sk sa sl pp re rd co dq bo lc) [(1, .int (nI (te (my - 1)))), (0, .ref (mm 0))] 55 [.int (nI (ki (te (my - 1))))]
        refine x_callS C (c_M_takes D (ki (te (my - 1))) (by omega)) kbM_109 kcM_109 [] [0, 1, 2, 3, 4, 5, 6, 7, 8, 9, 10, 11, 12, 13, 14, 15, 16, 17, 18, 19, 20] [] (tc_wM mm cmm 0 iu ki mu fs ss tx us te my mo mz mi iz ma mf mp od ar lw oc sk sa sl pp re rd co dq bo lc) rfl rfl (by decide) (by decide) (by decide) rfl ⟨Nat.le_of_ble_eq_true rfl, Nat.le_of_ble_eq_true rfl⟩ ⟨Nat.le_of_ble_eq_true rfl, Nat.le_of_ble_eq_true rfl⟩ [] rfl rfl (Nat.le_of_ble_eq_true rfl) dM_split_55 (fun rv ru hw => ?_)
        obtain ⟨rfl, rfl⟩ := hw
        show xk_Go K D 3 0 0 (tc_wM mm cmm 0 iu ki mu fs ss tx us te my mo mz mi iz ma mf mp od ar lw oc sk sa sl pp re rd co dq bo lc) [(1, .int (nI (te (my - 1)))), (0, .ref (mm 0))] 58 [.int (nI (tc_tk (ki (te (my - 1)))))]
        refine x_istore_n C [(2, .int (nI (tc_tk (ki (te (my - 1)))))), (1, .int (nI (te (my - 1)))), (0, .ref (mm 0))] dM_split_58 rfl (by decide) rfl ?_
        refine x_aload_n C dM_split_59 rfl 2 rfl ?_
        refine x_get C fgM_31 0 rfl rfl dM_split_60 ?_
        refine x_aload_n C dM_split_63 rfl 2 rfl ?_
        refine x_get C fgM_94 0 rfl rfl dM_split_64 ?_
        refine x_iconst (v := nI 1) C dM_split_67 (by decide) ?_
        refine x_isubN C (by omega) dM_split_68 ?_
        refine x_aload_n C dM_split_69 rfl 2 rfl ?_
        refine x_get C fgM_21 0 rfl rfl dM_split_70 ?_
        refine x_iload_n C dM_split_73 rfl 1 rfl ?_
        refine x_ild C 4 3 rfl rfl (by omega) (by decide) dM_split_74 ?_
        show xk_Go K D 3 0 0 (tc_wM mm cmm 0 iu ki mu fs ss tx us te my mo mz mi iz ma mf mp od ar lw oc sk sa sl pp re rd co dq bo lc) [(2, .int (nI (tc_tk (ki (te (my - 1)))))), (1, .int (nI (te (my - 1)))), (0, .ref (mm 0))] 75 [.int (xk_oI (fs (te (my - 1)))), .int (nI (my - 1)), .ref (mm 7)]
        obtain ⟨f, hf⟩ := tc_kd_f (by rw [ykl.1]; exact h44) ykl.2
        rw [hf]
        refine x_ist C 7 6 (tc_wM mm cmm 0 iu ki mu fs ss tx us (va_up te (my - 1) f) my mo mz mi iz ma mf mp od ar lw oc sk sa sl pp re rd co dq bo lc) rfl rfl (xk_nA_up te (my - 1) f) rfl (by omega) (by decide) dM_split_75 ?_
        refine x_iload_n C dM_split_76 rfl 0 rfl ?_
        refine x_iconst (v := nI 2) C dM_split_77 (by decide) ?_
        refine x_icmp_neN (tgt := 106) C (by omega) (by decide) dM_split_78 (by decide) (fun h78 => ?_) (fun h78 => ?_)
        ·
          refine x_aload_n C dM_split_106 rfl 2 rfl ?_
          refine x_iload_n C dM_split_107 rfl 1 rfl ?_
          refine x_callV C (c_M_release D mm cmm 0 iu ki mu fs ss tx us (va_up te (my - 1) f) my mo mz mi iz ma mf mp od ar lw oc sk sa sl pp re rd co dq bo lc (te (my - 1)) yr2 (by omega)) kbM_125 kcM_125 [0, 1, 2, 3, 4, 5, 6, 7, 8, 9, 10, 11, 12, 13, 14, 15, 16, 17, 18, 19, 20] [] [0, 1, 2, 3, 4, 5, 6, 7, 8, 9, 10, 11, 12, 13, 14, 15, 16, 17, 18, 19] ([]) rfl rfl (by decide) (by decide) (by decide) rfl 0 rfl rfl ⟨Nat.le_of_ble_eq_true rfl, Nat.le_of_ble_eq_true rfl⟩ ⟨Nat.le_of_ble_eq_true rfl, Nat.le_of_ble_eq_true rfl⟩ [] rfl rfl (Nat.le_of_ble_eq_true rfl) dM_split_108 (fun rv ru hw => ?_)
          obtain ⟨rfl, rfl⟩ := hw
          show xk_Go K D 3 0 0 (tc_wM mm cmm 0 (va_up iu (te (my - 1)) false) ki mu fs ss tx (us - 1) (va_up te (my - 1) f) my mo mz mi iz ma mf mp od ar lw oc sk sa sl pp re rd co dq bo lc) [(2, .int (nI (tc_tk (ki (te (my - 1)))))), (1, .int (nI (te (my - 1)))), (0, .ref (mm 0))] 111 []
          refine x_iload_n C dM_split_111 rfl 0 rfl ?_
          have z := tc_RM_open1 yI (show tc_tk (ki (te (my - 1))) = 1 by omega) hf hFo
          exact x_iret C T .int rfl rfl dM_split_112 (Or.inr (⟨(tc_tk (ki (te (my - 1)))), _, _, _, _, _, _, _, _, _, (F.map (tc_mn ki mu tx) :: R), rfl, rfl, (by rw [show tc_tk (ki (te (my - 1))) = 1 by omega]; exact z.1), z.2⟩))
        ·
          refine x_aload_n C dM_split_81 rfl 2 rfl ?_
          refine x_get C fgM_31 0 rfl rfl dM_split_82 ?_
          refine x_aload_n C dM_split_85 rfl 2 rfl ?_
          refine x_get C fgM_94 0 rfl rfl dM_split_86 ?_
          refine x_aload_n C dM_split_89 rfl 2 rfl ?_
          refine x_get C fgM_24 0 rfl rfl dM_split_90 ?_
          refine x_iload_n C dM_split_93 rfl 1 rfl ?_
          refine x_ild C 5 4 rfl rfl (by omega) (by decide) dM_split_94 ?_
          show xk_Go K D 3 0 0 (tc_wM mm cmm 0 iu ki mu fs ss tx us (va_up te (my - 1) f) my mo mz mi iz ma mf mp od ar lw oc sk sa sl pp re rd co dq bo lc) [(2, .int (nI (tc_tk (ki (te (my - 1)))))), (1, .int (nI (te (my - 1)))), (0, .ref (mm 0))] 95 [.int (xk_oI (ss (te (my - 1)))), .int (nI my), .ref (mm 7)]
          obtain ⟨f2, s, _, hs⟩ := tc_kd2 (by rw [ykl.1]; exact h78)
          obtain ⟨Tn, z1, z2⟩ := tc_RM_open2 yI h78 hf hs hFo
          have zu := tc_RM_us z2
          rw [hs]
          refine x_ist C 7 6 (tc_wM mm cmm 0 iu ki mu fs ss tx us (va_up (va_up te (my - 1) f) my s) my mo mz mi iz ma mf mp od ar lw oc sk sa sl pp re rd co dq bo lc) rfl rfl (xk_nA_up (va_up te (my - 1) f) my s) rfl (by omega) (by decide) dM_split_95 ?_
          refine x_aload_n C dM_split_96 rfl 2 rfl ?_
          refine x_dup C dM_split_97 rfl ?_
          refine x_get C fgM_94 0 rfl rfl dM_split_98 ?_
          refine x_iconst (v := nI 1) C dM_split_101 (by decide) ?_
          refine x_iaddN C dM_split_102 ?_
          refine x_put C fpM_94 0 (tc_wM mm cmm 0 iu ki mu fs ss tx us (va_up (va_up te (my - 1) f) my s) (my + 1) mo mz mi iz ma mf mp od ar lw oc sk sa sl pp re rd co dq bo lc) rfl rfl rfl rfl (Nat.le_of_ble_eq_true rfl) dM_split_103 ?_
          refine x_aload_n C dM_split_106 rfl 2 rfl ?_
          refine x_iload_n C dM_split_107 rfl 1 rfl ?_
          refine x_callV C (c_M_release D mm cmm 0 iu ki mu fs ss tx us (va_up (va_up te (my - 1) f) my s) (my + 1) mo mz mi iz ma mf mp od ar lw oc sk sa sl pp re rd co dq bo lc (te (my - 1)) yr2 (by omega)) kbM_125 kcM_125 [0, 1, 2, 3, 4, 5, 6, 7, 8, 9, 10, 11, 12, 13, 14, 15, 16, 17, 18, 19, 20] [] [0, 1, 2, 3, 4, 5, 6, 7, 8, 9, 10, 11, 12, 13, 14, 15, 16, 17, 18, 19] ([]) rfl rfl (by decide) (by decide) (by decide) rfl 0 rfl rfl ⟨Nat.le_of_ble_eq_true rfl, Nat.le_of_ble_eq_true rfl⟩ ⟨Nat.le_of_ble_eq_true rfl, Nat.le_of_ble_eq_true rfl⟩ [] rfl rfl (Nat.le_of_ble_eq_true rfl) dM_split_108 (fun rv ru hw => ?_)
          obtain ⟨rfl, rfl⟩ := hw
          show xk_Go K D 3 0 0 (tc_wM mm cmm 0 (va_up iu (te (my - 1)) false) ki mu fs ss tx (us - 1) (va_up (va_up te (my - 1) f) my s) (my + 1) mo mz mi iz ma mf mp od ar lw oc sk sa sl pp re rd co dq bo lc) [(2, .int (nI (tc_tk (ki (te (my - 1)))))), (1, .int (nI (te (my - 1)))), (0, .ref (mm 0))] 111 []
          refine x_iload_n C dM_split_111 rfl 0 rfl ?_
          exact x_iret C T .int rfl rfl dM_split_112 (Or.inr (⟨(tc_tk (ki (te (my - 1)))), _, _, _, _, _, _, _, _, _, Tn, rfl, rfl, (by rw [h78]; exact z1), z2⟩))
      ·
        refine x_iconst (v := xk_oI none) C dM_split_47 (by decide) ?_
        exact x_iret C T .int rfl rfl dM_split_48 (Or.inl (⟨rfl, rfl, (by first | (rw [tc_RM_nil y1 (by omega)]; rfl) | exact tc_opn_0 h44)⟩))
  ·
    refine x_iconst (v := nI 0) C dM_split_12 (by decide) ?_
    refine x_goto C 27 dM_split_13 (by decide) ?_
    refine x_istore_n C [(1, .int (nI 0)), (0, .ref (mm 0))] dM_split_27 rfl (by decide) rfl ?_
    refine x_aload_n C dM_split_28 rfl 1 rfl ?_
    refine x_get C fgM_94 0 rfl rfl dM_split_29 ?_
    refine x_if_eqN (tgt := 47) C (by omega) dM_split_32 (by decide) (fun h32 => ?_) (fun h32 => ?_)
    ·
      refine x_iconst (v := xk_oI none) C dM_split_47 (by decide) ?_
      exact x_iret C T .int rfl rfl dM_split_48 (Or.inl (⟨rfl, rfl, (by first | (rw [tc_RM_nil y1 (by omega)]; rfl) | exact tc_opn_0 h44)⟩))
    ·
      exact absurd h32 (by omega)
