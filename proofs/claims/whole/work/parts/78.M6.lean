set_option maxHeartbeats 4000000 in
set_option maxRecDepth 100000 in
/-- lengthU -/
theorem c_M_lengthU (D : va_G) (mm : Nat → Nat) (cmm : Nat → ClassId) (th : Nat) (iu : Nat → Bool) (ki : Nat → Nat) (mu : Nat → Int64) (fs : Nat → Option Nat) (ss : Nat → Option Nat) (tx : Nat → Nat) (us : Nat) (te : Nat → Nat) (my : Nat) (mo : Nat → Nat) (mz : Nat) (mi : Nat → Nat) (iz : Nat) (ma : Nat) (mf : Nat) (mp : Option Nat) (od : Nat → Nat) (ar : Nat → Option Nat) (lw : Nat → Nat) (oc : Nat) (sk : Nat → Nat) (sa : Nat → Option Nat) (sl : Nat → Nat) (pp : Nat) (re : Nat → Nat) (rd : Nat) (co : Nat → Nat) (dq : Nat → Nat) (bo : Nat → Nat) (lc : Nat → Nat) (v : Nat) (y1 : v ≤ 200) : xk_Ct yM_lengthU cM_lengthU 6 (some .int) { frames := 0, cells := 0, slots := 0, locals := 0 } D (tc_tM cmm) [.ref (mm 0), .long (lN v)] (tc_wM mm cmm th iu ki mu fs ss tx us te my mo mz mi iz ma mf mp od ar lw oc sk sa sl pp re rd co dq bo lc) (fun rv ru => (rv = some (.int (nI (tc_gU v))) ∧ ru = tc_wM mm cmm th iu ki mu fs ss tx us te my mo mz mi iz ma mf mp od ar lw oc sk sa sl pp re rd co dq bo lc)) := by
  refine xk_enter (by decide) (Nat.le_of_ble_eq_true rfl) (fun K C T hin => ?_)
  show xk_Go K D 6 0 0 (tc_wM mm cmm th iu ki mu fs ss tx us te my mo mz mi iz ma mf mp od ar lw oc sk sa sl pp re rd co dq bo lc) [(0, .ref (mm 0)), (1, .long (lN v))] 0 []
  refine x_iconst (v := nI 1) C dM_lengthU_0 (by decide) ?_
  refine x_istore_n C [(3, .int (nI 1)), (0, .ref (mm 0)), (1, .long (lN v))] dM_lengthU_1 rfl (by decide) rfl ?_
  refine x_lload_n C dM_lengthU_2 rfl 2 rfl ?_
  refine x_lstore C [(4, .long (lN v)), (3, .int (nI 1)), (0, .ref (mm 0)), (1, .long (lN v))] dM_lengthU_3 (by decide) rfl ?_
  refine x_lload C dM_lengthU_5 0 rfl ?_
  refine x_ldc2 (v := 127) C dM_lengthU_7 klM_128 ?_
  refine x_lcmp C dM_lengthU_10 ?_
  refine x_if_leC (tgt := 28) C dM_lengthU_11 (by decide) (fun h11 => ?_) (fun h11 => ?_)
  ·
    refine x_iload_n C dM_lengthU_28 rfl 1 rfl ?_
    exact x_iret C T .int rfl rfl dM_lengthU_29 (⟨by rw [show tc_gU v = 1 from if_pos (by have := (pk_lLE (a := v) (b := 127) (by omega) (by decide)).mp h11; omega)], rfl⟩)
  ·
    have hv1 : ¬ v ≤ 127 := fun q => h11 ((pk_lLE (a := v) (b := 127) (by omega) (by decide)).mpr q)
    refine x_iinc (q := 1) C (nI 2) [(3, .int (nI 2)), (4, .long (lN v)), (0, .ref (mm 0)), (1, .long (lN v))] dM_lengthU_14 rfl (by decide) (by decide) rfl ?_
    refine x_lload C dM_lengthU_17 1 rfl ?_
    refine x_ldc2 (v := 128) C dM_lengthU_19 klM_130 ?_
    refine x_ldiv C dM_lengthU_22 (by decide) ?_
    refine x_topl (show lN v / 128 = lN (v / 128) from pk_lDiv (by omega) (by decide) (by decide)) ?_
    refine x_lstore C [(4, .long (lN (v / 128))), (3, .int (nI 2)), (0, .ref (mm 0)), (1, .long (lN v))] dM_lengthU_23 (by decide) rfl ?_
    refine x_goto C 5 dM_lengthU_25 (by decide) ?_
    refine x_lload C dM_lengthU_5 0 rfl ?_
    refine x_ldc2 (v := 127) C dM_lengthU_7 klM_128 ?_
    refine x_lcmp C dM_lengthU_10 ?_
    refine x_if_leC (tgt := 28) C dM_lengthU_11 (by decide) (fun h11 => ?_) (fun h11 => ?_)
    ·
      refine x_iload_n C dM_lengthU_28 rfl 1 rfl ?_
      exact x_iret C T .int rfl rfl dM_lengthU_29 (⟨by rw [show tc_gU v = 2 by unfold tc_gU; rw [if_neg (by omega), if_pos (by omega)]], rfl⟩)
    ·
      exact absurd ((pk_lLE (a := v / 128) (b := 127) (by omega) (by decide)).mpr (by omega)) h11
set_option maxHeartbeats 4000000 in
set_option maxRecDepth 100000 in
/-- lengthS -/
theorem c_M_lengthS (D : va_G) (mm : Nat → Nat) (cmm : Nat → ClassId) (th : Nat) (iu : Nat → Bool) (ki : Nat → Nat) (mu : Nat → Int64) (fs : Nat → Option Nat) (ss : Nat → Option Nat) (tx : Nat → Nat) (us : Nat) (te : Nat → Nat) (my : Nat) (mo : Nat → Nat) (mz : Nat) (mi : Nat → Nat) (iz : Nat) (ma : Nat) (mf : Nat) (mp : Option Nat) (od : Nat → Nat) (ar : Nat → Option Nat) (lw : Nat → Nat) (oc : Nat) (sk : Nat → Nat) (sa : Nat → Option Nat) (sl : Nat → Nat) (pp : Nat) (re : Nat → Nat) (rd : Nat) (co : Nat → Nat) (dq : Nat → Nat) (bo : Nat → Nat) (lc : Nat → Nat) (x : Int64) : xk_Ct yM_lengthS cM_lengthS 6 (some .int) { frames := 0, cells := 0, slots := 0, locals := 0 } D (tc_tM cmm) [.ref (mm 0), .long x] (tc_wM mm cmm th iu ki mu fs ss tx us te my mo mz mi iz ma mf mp od ar lw oc sk sa sl pp re rd co dq bo lc) (fun rv ru => (rv = some (.int (nI (tc_gS x.toInt))) ∧ ru = tc_wM mm cmm th iu ki mu fs ss tx us te my mo mz mi iz ma mf mp od ar lw oc sk sa sl pp re rd co dq bo lc)) := by
  refine xk_enter (by decide) (Nat.le_of_ble_eq_true rfl) (fun K C T hin => ?_)
  have hg0 : 0 < tc_gS x.toInt := tc_gS_pos _
  show xk_Go K D 6 0 0 (tc_wM mm cmm th iu ki mu fs ss tx us te my mo mz mi iz ma mf mp od ar lw oc sk sa sl pp re rd co dq bo lc) [(0, .ref (mm 0)), (1, .long x)] 0 []
  refine x_iconst (v := nI 1) C dM_lengthS_0 (by decide) ?_
  refine x_istore_n C [(3, .int (nI 1)), (0, .ref (mm 0)), (1, .long x)] dM_lengthS_1 rfl (by decide) rfl ?_
  refine x_lload_n C dM_lengthS_2 rfl 2 rfl ?_
  refine x_lstore C [(4, .long x), (3, .int (nI 1)), (0, .ref (mm 0)), (1, .long x)] dM_lengthS_3 (by decide) rfl ?_
  have lp5 : ∀ (zc : Nat) (i : Nat) (y : Int64), (10 - i) < zc → (i ≤ 9) → (y.toInt = x.toInt / ((2 ^ (7 * i) : Nat) : Int)) → (i < tc_gS x.toInt) → xk_Go K D 6 0 0 (tc_wM mm cmm th iu ki mu fs ss tx us te my mo mz mi iz ma mf mp od ar lw oc sk sa sl pp re rd co dq bo lc) [(0, .ref (mm 0)), (1, .long x), (3, .int (nI (i + 1))), (4, .long y)] 5 [] := by
    intro zc
    induction zc with
    | zero => intro i y hm; exact absurd hm (Nat.not_lt_zero _)
    | succ zc ih5 =>
      intro i y hm e1 e2 e3
      refine x_lload C dM_lengthS_5 3 rfl ?_
      refine x_ldc2 (v := (-64)) C dM_lengthS_7 klM_132 ?_
      refine x_lcmp C dM_lengthS_10 ?_
      refine x_if_ltC (tgt := 23) C dM_lengthS_11 (by decide) (fun h11 => ?_) (fun h11 => ?_)
      ·
        refine x_iinc (q := 2) C (nI (i + 1 + 1)) [(3, .int (nI (i + 1 + 1))), (0, .ref (mm 0)), (1, .long x), (4, .long y)] dM_lengthS_23 rfl (nI_add (i + 1) 1) (by decide) rfl ?_
        refine x_lload C dM_lengthS_26 3 rfl ?_
        refine x_bipush (v := nI 7) C dM_lengthS_28 (by decide) ?_
        refine x_lshr (v := y >>> ((nI 7).toInt64 &&& 63)) C dM_lengthS_30 rfl ?_
        refine x_lstore C [(4, .long (y >>> ((nI 7).toInt64 &&& 63))), (3, .int (nI (i + 1 + 1))), (0, .ref (mm 0)), (1, .long x)] dM_lengthS_31 (by decide) rfl ?_
        refine x_goto C 5 dM_lengthS_33 (by decide) ?_
        have hin := tc_gS_in e1 e2 e3 (Or.inl h11)
        exact x_sub [2, 3, 1, 0] rfl (ih5 (i + 1) (y >>> ((nI 7).toInt64 &&& 63)) (by omega) hin.2 (tc_sar7 e2) hin.1)
      ·
        refine x_lload C dM_lengthS_14 3 rfl ?_
        refine x_ldc2 (v := 63) C dM_lengthS_16 klM_134 ?_
        refine x_lcmp C dM_lengthS_19 ?_
        refine x_if_leC (tgt := 36) C dM_lengthS_20 (by decide) (fun h20 => ?_) (fun h20 => ?_)
        ·
          refine x_iload_n C dM_lengthS_36 rfl 2 rfl ?_
          exact x_iret C T .int rfl rfl dM_lengthS_37 (⟨by rw [tc_gS_out e1 e2 e3 h11 h20], rfl⟩)
        ·
          refine x_iinc (q := 2) C (nI (i + 1 + 1)) [(3, .int (nI (i + 1 + 1))), (0, .ref (mm 0)), (1, .long x), (4, .long y)] dM_lengthS_23 rfl (nI_add (i + 1) 1) (by decide) rfl ?_
          refine x_lload C dM_lengthS_26 3 rfl ?_
          refine x_bipush (v := nI 7) C dM_lengthS_28 (by decide) ?_
          refine x_lshr (v := y >>> ((nI 7).toInt64 &&& 63)) C dM_lengthS_30 rfl ?_
          refine x_lstore C [(4, .long (y >>> ((nI 7).toInt64 &&& 63))), (3, .int (nI (i + 1 + 1))), (0, .ref (mm 0)), (1, .long x)] dM_lengthS_31 (by decide) rfl ?_
          refine x_goto C 5 dM_lengthS_33 (by decide) ?_
          have hin := tc_gS_in e1 e2 e3 (Or.inr h20)
          exact x_sub [2, 3, 1, 0] rfl (ih5 (i + 1) (y >>> ((nI 7).toInt64 &&& 63)) (by omega) hin.2 (tc_sar7 e2) hin.1)
  exact x_sub [2, 3, 1, 0] rfl (lp5 _ 0 x (Nat.lt_succ_self _) (by decide) (by simp) hg0)
set_option maxHeartbeats 4000000 in
set_option maxRecDepth 100000 in
/-- lengthOf -/
theorem c_M_lengthOf (D : va_G) (mm : Nat → Nat) (cmm : Nat → ClassId) (th : Nat) (iu : Nat → Bool) (ki : Nat → Nat) (mu : Nat → Int64) (fs : Nat → Option Nat) (ss : Nat → Option Nat) (tx : Nat → Nat) (us : Nat) (te : Nat → Nat) (my : Nat) (mo : Nat → Nat) (mz : Nat) (mi : Nat → Nat) (iz : Nat) (ma : Nat) (mf : Nat) (mp : Option Nat) (od : Nat → Nat) (ar : Nat → Option Nat) (lw : Nat → Nat) (oc : Nat) (sk : Nat → Nat) (sa : Nat → Option Nat) (sl : Nat → Nat) (pp : Nat) (re : Nat → Nat) (rd : Nat) (co : Nat → Nat) (dq : Nat → Nat) (bo : Nat → Nat) (lc : Nat → Nat) (i : Nat) (y1 : i < 200) (y2 : tc_okn (tc_mn ki mu tx i)) : xk_Ct yM_lengthOf cM_lengthOf 3 (some .int) { frames := 1, cells := 0, slots := 0, locals := 25 } D (tc_tM cmm) [.ref (mm 0), .int (nI i)] (tc_wM mm cmm th iu ki mu fs ss tx us te my mo mz mi iz ma mf mp od ar lw oc sk sa sl pp re rd co dq bo lc) (fun rv ru => (rv = some (.int (nI (tc_ol (ki i) (mu i)))) ∧ ru = tc_wM mm cmm th iu ki mu fs ss tx us te my mo mz mi iz ma mf mp od ar lw oc sk sa sl pp re rd co dq bo lc)) := by
  refine xk_enter (by decide) (Nat.le_of_ble_eq_true rfl) (fun K C T hin => ?_)
  have y11 : ki i ≤ 11 := y2.1
  show xk_Go K D 3 0 0 (tc_wM mm cmm th iu ki mu fs ss tx us te my mo mz mi iz ma mf mp od ar lw oc sk sa sl pp re rd co dq bo lc) [(0, .ref (mm 0)), (1, .int (nI i))] 0 []
  refine x_aload_n C dM_lengthOf_0 rfl 0 rfl ?_
  refine x_get C fgM_13 0 rfl rfl dM_lengthOf_1 ?_
  refine x_iload_n C dM_lengthOf_4 rfl 1 rfl ?_
  refine x_ild C 2 1 rfl rfl (by omega) (by decide) dM_lengthOf_5 ?_
  show xk_Go K D 3 0 0 (tc_wM mm cmm th iu ki mu fs ss tx us te my mo mz mi iz ma mf mp od ar lw oc sk sa sl pp re rd co dq bo lc) [(0, .ref (mm 0)), (1, .int (nI i))] 6 [.int (nI (ki i))]
  refine x_istore_n C [(2, .int (nI (ki i))), (0, .ref (mm 0)), (1, .int (nI i))] dM_lengthOf_6 rfl (by decide) rfl ?_
  refine x_iconst (v := nI 1) C dM_lengthOf_7 (by decide) ?_
  refine x_iload_n C dM_lengthOf_8 rfl 0 rfl ?_
  refine x_if_neN (tgt := 25) C (by omega) dM_lengthOf_9 (by decide) (fun h9 => ?_) (fun h9 => ?_)
  ·
    refine x_iload_n C dM_lengthOf_25 rfl 0 rfl ?_
    refine x_bipush (v := nI 7) C dM_lengthOf_26 (by decide) ?_
    refine x_icmp_neN (tgt := 44) C (by omega) (by decide) dM_lengthOf_28 (by decide) (fun h28 => ?_) (fun h28 => ?_)
    ·
      refine x_iload_n C dM_lengthOf_44 rfl 0 rfl ?_
      refine x_bipush (v := nI 6) C dM_lengthOf_45 (by decide) ?_
      refine x_icmp_eqN (tgt := 56) C (by omega) (by decide) dM_lengthOf_47 (by decide) (fun h47 => ?_) (fun h47 => ?_)
      ·
        refine x_iconst (v := nI 1) C dM_lengthOf_56 (by decide) ?_
        refine x_goto C 79 dM_lengthOf_57 (by decide) ?_
        refine x_iadd C dM_lengthOf_79 ?_
        refine x_top (y := nI 2) (by decide) ?_
        exact x_iret C T .int rfl rfl dM_lengthOf_80 (⟨by first | rw [tc_ol_6 (Or.inl h47)] | rw [tc_ol_6 (Or.inr h53)], rfl⟩)
      ·
        refine x_iload_n C dM_lengthOf_50 rfl 0 rfl ?_
        refine x_bipush (v := nI 9) C dM_lengthOf_51 (by decide) ?_
        refine x_icmp_neN (tgt := 60) C (by omega) (by decide) dM_lengthOf_53 (by decide) (fun h53 => ?_) (fun h53 => ?_)
        ·
          refine x_iload_n C dM_lengthOf_60 rfl 0 rfl ?_
          refine x_bipush (v := nI 8) C dM_lengthOf_61 (by decide) ?_
          refine x_icmp_neN (tgt := 78) C (by omega) (by decide) dM_lengthOf_63 (by decide) (fun h63 => ?_) (fun h63 => ?_)
          ·
            refine x_iconst (v := nI 0) C dM_lengthOf_78 (by decide) ?_
            refine x_iadd C dM_lengthOf_79 ?_
            refine x_top (y := nI 1) (by decide) ?_
            exact x_iret C T .int rfl rfl dM_lengthOf_80 (⟨by rw [tc_ol_o h9 h28 h47 h53 h63], rfl⟩)
          ·
            refine x_iconst (v := nI 1) C dM_lengthOf_66 (by decide) ?_
            refine x_aload_n C dM_lengthOf_67 rfl 1 rfl ?_
            refine x_get C fgM_17 0 rfl rfl dM_lengthOf_68 ?_
            refine x_iload_n C dM_lengthOf_71 rfl 2 rfl ?_
            refine x_lld C 3 2 rfl rfl (by omega) (by decide) dM_lengthOf_72 ?_
            obtain ⟨c, hc1, hc2, hc3, hc4⟩ := tc_mn_cnt y2 h63
            rw [hc1]
            refine x_l2i (v := nI c) C dM_lengthOf_73 (lN_i _) ?_
            refine x_iaddN C dM_lengthOf_74 ?_
            refine x_goto C 79 dM_lengthOf_75 (by decide) ?_
            refine x_iaddN C dM_lengthOf_79 ?_
            exact x_iret C T .int rfl rfl dM_lengthOf_80 (⟨by rw [h63, hc1, tc_ol_8 (by omega), show 2 + c = 1 + (1 + c) by omega], rfl⟩)
        ·
          refine x_iconst (v := nI 1) C dM_lengthOf_56 (by decide) ?_
          refine x_goto C 79 dM_lengthOf_57 (by decide) ?_
          refine x_iadd C dM_lengthOf_79 ?_
          refine x_top (y := nI 2) (by decide) ?_
          exact x_iret C T .int rfl rfl dM_lengthOf_80 (⟨by first | rw [tc_ol_6 (Or.inl h47)] | rw [tc_ol_6 (Or.inr h53)], rfl⟩)
    ·
      refine x_aload_n C dM_lengthOf_31 rfl 1 rfl ?_
      refine x_aload_n C dM_lengthOf_32 rfl 1 rfl ?_
      refine x_get C fgM_17 0 rfl rfl dM_lengthOf_33 ?_
      refine x_iload_n C dM_lengthOf_36 rfl 2 rfl ?_
      refine x_lld C 3 2 rfl rfl (by omega) (by decide) dM_lengthOf_37 ?_
      refine x_callV C (c_M_lengthS D mm cmm th iu ki mu fs ss tx us te my mo mz mi iz ma mf mp od ar lw oc sk sa sl pp re rd co dq bo lc (mu i)) kbM_140 kcM_140 [0, 1, 2, 3, 4, 5, 6, 7, 8, 9, 10, 11, 12, 13, 14, 15, 16, 17, 18, 19, 20] [] [0, 1, 2, 3, 4, 5, 6, 7, 8, 9, 10, 11, 12, 13, 14, 15, 16, 17, 18, 19] ([]) rfl rfl (by decide) (by decide) (by decide) rfl 0 rfl rfl ⟨Nat.le_of_ble_eq_true rfl, Nat.le_of_ble_eq_true rfl⟩ ⟨Nat.le_of_ble_eq_true rfl, Nat.le_of_ble_eq_true rfl⟩ [.int (nI 1)] rfl rfl (Nat.le_of_ble_eq_true rfl) dM_lengthOf_38 (fun rv ru hw => ?_)
      obtain ⟨rfl, rfl⟩ := hw
      show xk_Go K D 3 0 0 (tc_wM mm cmm th iu ki mu fs ss tx us te my mo mz mi iz ma mf mp od ar lw oc sk sa sl pp re rd co dq bo lc) [(2, .int (nI (ki i))), (0, .ref (mm 0)), (1, .int (nI i))] 41 [.int (nI (tc_gS (mu i).toInt)), .int (nI 1)]
      refine x_goto C 79 dM_lengthOf_41 (by decide) ?_
      refine x_iaddN C dM_lengthOf_79 ?_
      exact x_iret C T .int rfl rfl dM_lengthOf_80 (⟨by rw [tc_ol_7 h28], rfl⟩)
  ·
    refine x_aload_n C dM_lengthOf_12 rfl 1 rfl ?_
    refine x_aload_n C dM_lengthOf_13 rfl 1 rfl ?_
    refine x_get C fgM_17 0 rfl rfl dM_lengthOf_14 ?_
    refine x_iload_n C dM_lengthOf_17 rfl 2 rfl ?_
    refine x_lld C 3 2 rfl rfl (by omega) (by decide) dM_lengthOf_18 ?_
    obtain ⟨hv, hv2⟩ := tc_okn_w y2 (Or.inl h9)
    have hv : mu i = lN (mu i).toInt.toNat := hv
    have hv2 : (mu i).toInt.toNat ≤ 200 := hv2
    obtain ⟨v, hve⟩ : ∃ v, v = (mu i).toInt.toNat := ⟨_, rfl⟩
    rw [← hve] at hv hv2
    rw [hv]
    show xk_Go K D 3 0 0 (tc_wM mm cmm th iu ki mu fs ss tx us te my mo mz mi iz ma mf mp od ar lw oc sk sa sl pp re rd co dq bo lc) [(2, .int (nI (ki i))), (0, .ref (mm 0)), (1, .int (nI i))] 19 [.long (lN v), .ref (mm 0), .int (nI 1)]
    refine x_callV C (c_M_lengthU D mm cmm th iu ki mu fs ss tx us te my mo mz mi iz ma mf mp od ar lw oc sk sa sl pp re rd co dq bo lc v hv2) kbM_136 kcM_136 [0, 1, 2, 3, 4, 5, 6, 7, 8, 9, 10, 11, 12, 13, 14, 15, 16, 17, 18, 19, 20] [] [0, 1, 2, 3, 4, 5, 6, 7, 8, 9, 10, 11, 12, 13, 14, 15, 16, 17, 18, 19] ([]) rfl rfl (by decide) (by decide) (by decide) rfl 0 rfl rfl ⟨Nat.le_of_ble_eq_true rfl, Nat.le_of_ble_eq_true rfl⟩ ⟨Nat.le_of_ble_eq_true rfl, Nat.le_of_ble_eq_true rfl⟩ [.int (nI 1)] rfl rfl (Nat.le_of_ble_eq_true rfl) dM_lengthOf_19 (fun rv ru hw => ?_)
    obtain ⟨rfl, rfl⟩ := hw
    show xk_Go K D 3 0 0 (tc_wM mm cmm th iu ki mu fs ss tx us te my mo mz mi iz ma mf mp od ar lw oc sk sa sl pp re rd co dq bo lc) [(2, .int (nI (ki i))), (0, .ref (mm 0)), (1, .int (nI i))] 22 [.int (nI (tc_gU v)), .int (nI 1)]
    refine x_goto C 79 dM_lengthOf_22 (by decide) ?_
    refine x_iaddN C dM_lengthOf_79 ?_
    exact x_iret C T .int rfl rfl dM_lengthOf_80 (⟨by rw [h9, hv, tc_ol_0 (by omega)], rfl⟩)
set_option maxHeartbeats 4000000 in
set_option maxRecDepth 100000 in
/-- lengthOfTerm -/
theorem c_M_lengthOfTerm (D : va_G) (mm : Nat → Nat) (cmm : Nat → ClassId) (th : Nat) (iu : Nat → Bool) (ki : Nat → Nat) (mu : Nat → Int64) (fs : Nat → Option Nat) (ss : Nat → Option Nat) (tx : Nat → Nat) (us : Nat) (te : Nat → Nat) (my : Nat) (mo : Nat → Nat) (mz : Nat) (mi : Nat → Nat) (iz : Nat) (ma : Nat) (mf : Nat) (mp : Option Nat) (od : Nat → Nat) (ar : Nat → Option Nat) (lw : Nat → Nat) (oc : Nat) (sk : Nat → Nat) (sa : Nat → Option Nat) (sl : Nat → Nat) (pp : Nat) (re : Nat → Nat) (rd : Nat) (co : Nat → Nat) (dq : Nat → Nat) (bo : Nat → Nat) (lc : Nat → Nat) (r : Nat) (ids : List Nat) (y1 : tc_Hg fs ss ki r ids) (y2 : ∀ i ∈ ids, tc_okn (tc_mn ki mu tx i)) : xk_Ct yM_lengthOfTerm cM_lengthOfTerm 4 (some .int) { frames := 2, cells := 0, slots := 0, locals := 47 } D (tc_tM cmm) [.ref (mm 0), .int (nI r)] (tc_wM mm cmm th iu ki mu fs ss tx us te my mo mz mi iz ma mf mp od ar lw oc sk sa sl pp re rd co dq bo lc) (fun rv ru => (∃ (odg : Nat → Nat), ∃ (arg : Nat → Option Nat), ∃ (lwg : Nat → Nat), ∃ (skg : Nat → Nat), ∃ (sag : Nat → Option Nat), ∃ (slg : Nat → Nat), rv = some (.int (nI ((tc_tb (ids.map (tc_mn ki mu tx))).length))) ∧ ru = tc_wM mm cmm th iu ki mu fs ss tx us te my mo mz mi iz ma mf mp odg arg lwg ids.length skg sag slg pp re rd co dq bo lc ∧ (tc_go ids (tc_E (ids.map (tc_mn ki mu tx))) odg arg lwg))) := by
  refine xk_enter (by decide) (Nat.le_of_ble_eq_true rfl) (fun K C T hin => ?_)
  have yl : (ids.map (tc_mn ki mu tx)).length = ids.length := List.length_map _
  have y200 := y1.2.1
  have yok : ∀ x ∈ ids.map (tc_mn ki mu tx), tc_okn x := (fun x hx => by obtain ⟨i, hi, rfl⟩ := List.mem_map.mp hx; exact y2 i hi)
  have ysm := tc_ev_sum_n (ids.map (tc_mn ki mu tx)) yok
  rw [tc_tb_sum _ yok, yl] at ysm
  show xk_Go K D 4 0 0 (tc_wM mm cmm th iu ki mu fs ss tx us te my mo mz mi iz ma mf mp od ar lw oc sk sa sl pp re rd co dq bo lc) [(0, .ref (mm 0)), (1, .int (nI r))] 0 []
  refine x_aload_n C dM_lengthOfTerm_0 rfl 0 rfl ?_
  refine x_iload_n C dM_lengthOfTerm_1 rfl 1 rfl ?_
  refine x_callV C (c_M_go D mm cmm th iu ki mu fs ss tx us te my mo mz mi iz ma mf mp od ar lw oc sk sa sl pp re rd co dq bo lc r ids y1.1 y1.2.1 y1.2.2.1 y1.2.2.2.1 y1.2.2.2.2.1) kbM_90 kcM_90 [0, 1, 2, 3, 4, 5, 6, 7, 8, 9, 10, 11, 12, 13, 14, 15, 16, 17, 18, 19, 20] [] [0, 1, 2, 3, 4, 5, 6, 7, 8, 9, 10, 11, 12, 13, 14, 15, 16, 17, 18, 19] ([]) rfl rfl (by decide) (by decide) (by decide) rfl 0 rfl rfl ⟨Nat.le_of_ble_eq_true rfl, Nat.le_of_ble_eq_true rfl⟩ ⟨Nat.le_of_ble_eq_true rfl, Nat.le_of_ble_eq_true rfl⟩ [] rfl rfl (Nat.le_of_ble_eq_true rfl) dM_lengthOfTerm_2 (fun rv ru hw => ?_)
  obtain ⟨odg, arg, lwg, skg, sag, slg, rfl, rfl, g1⟩ := hw
  show xk_Go K D 4 0 0 (tc_wM mm cmm th iu ki mu fs ss tx us te my mo mz mi iz ma mf mp odg arg lwg ids.length skg sag slg pp re rd co dq bo lc) [(0, .ref (mm 0)), (1, .int (nI r))] 5 []
  refine x_iconst (v := nI 0) C dM_lengthOfTerm_5 (by decide) ?_
  refine x_istore_n C [(2, .int (nI 0)), (0, .ref (mm 0)), (1, .int (nI r))] dM_lengthOfTerm_6 rfl (by decide) rfl ?_
  refine x_iconst (v := nI 0) C dM_lengthOfTerm_7 (by decide) ?_
  refine x_istore_n C [(3, .int (nI 0)), (2, .int (nI 0)), (0, .ref (mm 0)), (1, .int (nI r))] dM_lengthOfTerm_8 rfl (by decide) rfl ?_
  have lp9 : ∀ (zc : Nat) (k : Nat), (ids.length - k) < zc → (k ≤ ids.length) → xk_Go K D 4 0 0 (tc_wM mm cmm th iu ki mu fs ss tx us te my mo mz mi iz ma mf mp odg arg lwg ids.length skg sag slg pp re rd co dq bo lc) [(0, .ref (mm 0)), (1, .int (nI r)), (2, .int (nI ((tc_tb ((ids.map (tc_mn ki mu tx)).take k)).length))), (3, .int (nI k))] 9 [] := by
    intro zc
    induction zc with
    | zero => intro k hm; exact absurd hm (Nat.not_lt_zero _)
    | succ zc ih9 =>
      intro k hm e1
      have elt := tc_tb_le (t := ids.map (tc_mn ki mu tx)) k
      refine x_iload_n C dM_lengthOfTerm_9 rfl 3 rfl ?_
      refine x_aload_n C dM_lengthOfTerm_10 rfl 0 rfl ?_
      refine x_get C fgM_87 0 rfl rfl dM_lengthOfTerm_11 ?_
      refine x_icmp_geN (tgt := 36) C (by omega) (by omega) dM_lengthOfTerm_14 (by decide) (fun h14 => ?_) (fun h14 => ?_)
      ·
        refine x_iload_n C dM_lengthOfTerm_36 rfl 2 rfl ?_
        obtain rfl : k = ids.length := by omega
        exact x_iret C T .int rfl rfl dM_lengthOfTerm_37 (⟨_, _, _, _, _, _, by rw [List.take_of_length_le (by omega)], rfl, g1⟩)
      ·
        obtain ⟨i, hi⟩ : ∃ i, ids[k]? = some i := ⟨_, List.getElem?_eq_getElem (by omega)⟩
        have hod := g1.1 k i hi
        have him := List.mem_of_getElem? hi
        have hi2 := y1.2.2.1 i him
        have hxi : (ids.map (tc_mn ki mu tx))[k]? = some (tc_mn ki mu tx i) := by rw [List.getElem?_map, hi]; rfl
        refine x_iload_n C dM_lengthOfTerm_17 rfl 2 rfl ?_
        refine x_aload_n C dM_lengthOfTerm_18 rfl 0 rfl ?_
        refine x_aload_n C dM_lengthOfTerm_19 rfl 0 rfl ?_
        refine x_get C fgM_44 0 rfl rfl dM_lengthOfTerm_20 ?_
        refine x_iload_n C dM_lengthOfTerm_23 rfl 3 rfl ?_
        refine x_ild C 10 9 rfl rfl (by omega) (by decide) dM_lengthOfTerm_24 ?_
        show xk_Go K D 4 0 0 (tc_wM mm cmm th iu ki mu fs ss tx us te my mo mz mi iz ma mf mp odg arg lwg ids.length skg sag slg pp re rd co dq bo lc) [(0, .ref (mm 0)), (1, .int (nI r)), (2, .int (nI ((tc_tb ((ids.map (tc_mn ki mu tx)).take k)).length))), (3, .int (nI k))] 25 [.int (nI (odg k)), .ref (mm 0), .int (nI ((tc_tb ((ids.map (tc_mn ki mu tx)).take k)).length))]
        rw [hod]
        refine x_callV C (c_M_lengthOf D mm cmm th iu ki mu fs ss tx us te my mo mz mi iz ma mf mp odg arg lwg ids.length skg sag slg pp re rd co dq bo lc i hi2 (y2 i him)) kbM_143 kcM_143 [0, 1, 2, 3, 4, 5, 6, 7, 8, 9, 10, 11, 12, 13, 14, 15, 16, 17, 18, 19, 20] [] [0, 1, 2, 3, 4, 5, 6, 7, 8, 9, 10, 11, 12, 13, 14, 15, 16, 17, 18, 19] ([]) rfl rfl (by decide) (by decide) (by decide) rfl 0 rfl rfl ⟨Nat.le_of_ble_eq_true rfl, Nat.le_of_ble_eq_true rfl⟩ ⟨Nat.le_of_ble_eq_true rfl, Nat.le_of_ble_eq_true rfl⟩ [.int (nI ((tc_tb ((ids.map (tc_mn ki mu tx)).take k)).length))] rfl rfl (Nat.le_of_ble_eq_true rfl) dM_lengthOfTerm_25 (fun rv ru hw => ?_)
        obtain ⟨rfl, rfl⟩ := hw
        show xk_Go K D 4 0 0 (tc_wM mm cmm th iu ki mu fs ss tx us te my mo mz mi iz ma mf mp odg arg lwg ids.length skg sag slg pp re rd co dq bo lc) [(0, .ref (mm 0)), (1, .int (nI r)), (2, .int (nI ((tc_tb ((ids.map (tc_mn ki mu tx)).take k)).length))), (3, .int (nI k))] 28 [.int (nI (tc_ol (ki i) (mu i))), .int (nI ((tc_tb ((ids.map (tc_mn ki mu tx)).take k)).length))]
        refine x_iaddN C dM_lengthOfTerm_28 ?_
        refine x_istore_n C [(2, .int (nI ((tc_tb ((ids.map (tc_mn ki mu tx)).take k)).length + (tc_ol (ki i) (mu i))))), (0, .ref (mm 0)), (1, .int (nI r)), (3, .int (nI k))] dM_lengthOfTerm_29 rfl (by decide) rfl ?_
        refine x_iinc (q := 3) C (nI (k + 1)) [(3, .int (nI (k + 1))), (2, .int (nI ((tc_tb ((ids.map (tc_mn ki mu tx)).take k)).length + (tc_ol (ki i) (mu i))))), (0, .ref (mm 0)), (1, .int (nI r))] dM_lengthOfTerm_30 rfl (nI_add k 1) (by decide) rfl ?_
        refine x_goto C 9 dM_lengthOfTerm_33 (by decide) ?_
        rw [show (tc_tb ((ids.map (tc_mn ki mu tx)).take k)).length + tc_ol (ki i) (mu i) = (tc_tb ((ids.map (tc_mn ki mu tx)).take (k + 1))).length by rw [tc_tb_take hxi, List.length_append, tc_nb_len (y2 i him)]; rfl]
        exact x_sub [2, 3, 1, 0] rfl (ih9 (k + 1) (by omega) (by omega))
  exact x_sub [2, 3, 1, 0] rfl (lp9 _ 0 (Nat.lt_succ_self _) (Nat.zero_le _))
set_option maxHeartbeats 4000000 in
set_option maxRecDepth 100000 in
/-- lay -/
theorem c_M_lay (D : va_G) (mm : Nat → Nat) (cmm : Nat → ClassId) (th : Nat) (iu : Nat → Bool) (ki : Nat → Nat) (mu : Nat → Int64) (fs : Nat → Option Nat) (ss : Nat → Option Nat) (tx : Nat → Nat) (us : Nat) (te : Nat → Nat) (my : Nat) (mo : Nat → Nat) (mz : Nat) (mi : Nat → Nat) (iz : Nat) (ma : Nat) (mf : Nat) (mp : Option Nat) (od : Nat → Nat) (ar : Nat → Option Nat) (lw : Nat → Nat) (oc : Nat) (sk : Nat → Nat) (sa : Nat → Option Nat) (sl : Nat → Nat) (pp : Nat) (re : Nat → Nat) (rd : Nat) (co : Nat → Nat) (dq : Nat → Nat) (bo : Nat → Nat) (lc : Nat → Nat) (y : Int64) (y1 : mz < 4096) : xk_Ct yM_lay cM_lay 3 none { frames := 0, cells := 0, slots := 0, locals := 0 } D (tc_tM cmm) [.ref (mm 0), .long y] (tc_wM mm cmm th iu ki mu fs ss tx us te my mo mz mi iz ma mf mp od ar lw oc sk sa sl pp re rd co dq bo lc) (fun rv ru => (rv = none ∧ ru = tc_wM mm cmm th iu ki mu fs ss tx us te my (va_up mo mz (uN y % 256)) (mz + 1) mi iz ma mf mp od ar lw oc sk sa sl pp re rd co dq bo lc)) := by
  refine xk_enter (by decide) (Nat.le_of_ble_eq_true rfl) (fun K C T hin => ?_)
  show xk_Go K D 3 0 0 (tc_wM mm cmm th iu ki mu fs ss tx us te my mo mz mi iz ma mf mp od ar lw oc sk sa sl pp re rd co dq bo lc) [(0, .ref (mm 0)), (1, .long y)] 0 []
  refine x_aload_n C dM_lay_0 rfl 0 rfl ?_
  refine x_get C fgM_34 0 rfl rfl dM_lay_1 ?_
  refine x_aload_n C dM_lay_4 rfl 0 rfl ?_
  refine x_get C fgM_146 0 rfl rfl dM_lay_5 ?_
  refine x_lload_n C dM_lay_8 rfl 1 rfl ?_
  refine x_l2i (v := Int64.toInt32 y) C dM_lay_9 rfl ?_
  refine x_i2b (v := xk_sb (uN y % 256)) C dM_lay_10 (tc_sb_l y) ?_
  refine x_bst C 8 7 (tc_wM mm cmm th iu ki mu fs ss tx us te my (va_up mo mz (uN y % 256)) mz mi iz ma mf mp od ar lw oc sk sa sl pp re rd co dq bo lc) rfl rfl ((congrArg _ (xk_sb_nar (uN y % 256))).trans (xk_bA_up mo mz (uN y % 256))) rfl (by omega) (by decide) dM_lay_11 ?_
  refine x_aload_n C dM_lay_12 rfl 0 rfl ?_
  refine x_dup C dM_lay_13 rfl ?_
  refine x_get C fgM_146 0 rfl rfl dM_lay_14 ?_
  refine x_iconst (v := nI 1) C dM_lay_17 (by decide) ?_
  refine x_iaddN C dM_lay_18 ?_
  refine x_put C fpM_146 0 (tc_wM mm cmm th iu ki mu fs ss tx us te my (va_up mo mz (uN y % 256)) (mz + 1) mi iz ma mf mp od ar lw oc sk sa sl pp re rd co dq bo lc) rfl rfl rfl rfl (Nat.le_of_ble_eq_true rfl) dM_lay_19 ?_
  exact x_vret C T rfl dM_lay_22 (⟨rfl, rfl⟩)
