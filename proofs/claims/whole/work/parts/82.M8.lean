set_option maxHeartbeats 4000000 in
set_option maxRecDepth 100000 in
/-- wrong -/
theorem c_M_wrong (D : va_G) (mm : Nat → Nat) (cmm : Nat → ClassId) (th : Nat) (iu : Nat → Bool) (ki : Nat → Nat) (mu : Nat → Int64) (fs : Nat → Option Nat) (ss : Nat → Option Nat) (tx : Nat → Nat) (us : Nat) (te : Nat → Nat) (my : Nat) (mo : Nat → Nat) (mz : Nat) (mi : Nat → Nat) (iz : Nat) (ma : Nat) (mf : Nat) (mp : Option Nat) (od : Nat → Nat) (ar : Nat → Option Nat) (lw : Nat → Nat) (oc : Nat) (sk : Nat → Nat) (sa : Nat → Option Nat) (sl : Nat → Nat) (pp : Nat) (re : Nat → Nat) (rd : Nat) (co : Nat → Nat) (dq : Nat → Nat) (bo : Nat → Nat) (lc : Nat → Nat) (f : Nat) (w : Nat) (y1 : mf < 10) : xk_Ct yM_wrong cM_wrong 3 (some .int) { frames := 0, cells := 0, slots := 0, locals := 0 } D (tc_tM cmm) [.ref (mm 0), .int (nI f), .int (nI w)] (tc_wM mm cmm th iu ki mu fs ss tx us te my mo mz mi iz ma mf mp od ar lw oc sk sa sl pp re rd co dq bo lc) (fun rv ru => (rv = some (.int (nI 0)) ∧ ru = tc_wM mm cmm th iu ki mu fs ss tx us te my mo mz mi iz ma (tc_f1 mf f) (tc_f2 mf mp w) od ar lw oc sk sa sl pp re rd co dq bo lc)) := by
  refine xk_enter (by decide) (Nat.le_of_ble_eq_true rfl) (fun K C T hin => ?_)
  show xk_Go K D 3 0 0 (tc_wM mm cmm th iu ki mu fs ss tx us te my mo mz mi iz ma mf mp od ar lw oc sk sa sl pp re rd co dq bo lc) [(0, .ref (mm 0)), (1, .int (nI f)), (2, .int (nI w))] 0 []
  refine x_aload_n C dM_wrong_0 rfl 0 rfl ?_
  refine x_get C fgM_165 0 rfl rfl dM_wrong_1 ?_
  refine x_if_neN (tgt := 17) C (by omega) dM_wrong_4 (by decide) (fun h4 => ?_) (fun h4 => ?_)
  ·
    refine x_iconst (v := nI 0) C dM_wrong_17 (by decide) ?_
    exact x_iret C T .int rfl rfl dM_wrong_18 (⟨rfl, by rw [tc_f1_n h4, tc_f2_n h4]⟩)
  ·
    refine x_aload_n C dM_wrong_7 rfl 0 rfl ?_
    refine x_iload_n C dM_wrong_8 rfl 1 rfl ?_
    refine x_put C fpM_165 0 (tc_wM mm cmm th iu ki mu fs ss tx us te my mo mz mi iz ma f mp od ar lw oc sk sa sl pp re rd co dq bo lc) rfl rfl rfl rfl (Nat.le_of_ble_eq_true rfl) dM_wrong_9 ?_
    refine x_aload_n C dM_wrong_12 rfl 0 rfl ?_
    refine x_iload_n C dM_wrong_13 rfl 2 rfl ?_
    refine x_put C fpM_40 0 (tc_wM mm cmm th iu ki mu fs ss tx us te my mo mz mi iz ma f (some w) od ar lw oc sk sa sl pp re rd co dq bo lc) rfl rfl rfl rfl (Nat.le_of_ble_eq_true rfl) dM_wrong_14 ?_
    refine x_iconst (v := nI 0) C dM_wrong_17 (by decide) ?_
    exact x_iret C T .int rfl rfl dM_wrong_18 (⟨rfl, by rw [tc_f1_0 h4, tc_f2_0 h4]⟩)
set_option maxHeartbeats 4000000 in
set_option maxRecDepth 100000 in
/-- next -/
theorem c_M_next (D : va_G) (mm : Nat → Nat) (cmm : Nat → ClassId) (th : Nat) (iu : Nat → Bool) (ki : Nat → Nat) (mu : Nat → Int64) (fs : Nat → Option Nat) (ss : Nat → Option Nat) (tx : Nat → Nat) (us : Nat) (te : Nat → Nat) (my : Nat) (mo : Nat → Nat) (mz : Nat) (mi : Nat → Nat) (iz : Nat) (ma : Nat) (mf : Nat) (mp : Option Nat) (od : Nat → Nat) (ar : Nat → Option Nat) (lw : Nat → Nat) (oc : Nat) (sk : Nat → Nat) (sa : Nat → Option Nat) (sl : Nat → Nat) (pp : Nat) (re : Nat → Nat) (rd : Nat) (co : Nat → Nat) (dq : Nat → Nat) (bo : Nat → Nat) (lc : Nat → Nat) (y1 : pp ≤ iz) (y2 : iz ≤ 4096) (y3 : mf < 10) : xk_Ct yM_next cM_next 1 (some .int) { frames := 1, cells := 0, slots := 0, locals := 22 } D (tc_tM cmm) [.ref (mm 0)] (tc_wM mm cmm th iu ki mu fs ss tx us te my mo mz mi iz ma mf mp od ar lw oc sk sa sl pp re rd co dq bo lc) (fun rv ru => (rv = some (.int (nI 0)) ∧ ru = tc_wM mm cmm th iu ki mu fs ss tx us te my mo mz mi iz ma mf mp od ar lw oc sk sa sl pp re rd co dq bo lc ∧ (0 < mf)) ∨ (rv = some (.int (nI 0)) ∧ ru = tc_wM mm cmm th iu ki mu fs ss tx us te my mo mz mi iz ma 1 (some iz) od ar lw oc sk sa sl pp re rd co dq bo lc ∧ (mf = 0) ∧ (iz ≤ pp)) ∨ (rv = some (.int (nI (mi pp % 256))) ∧ ru = tc_wM mm cmm th iu ki mu fs ss tx us te my mo mz mi iz ma mf mp od ar lw oc sk sa sl (pp + 1) re rd co dq bo lc ∧ (mf = 0) ∧ (pp < iz))) := by
  refine xk_enter (by decide) (Nat.le_of_ble_eq_true rfl) (fun K C T hin => ?_)
  show xk_Go K D 1 0 0 (tc_wM mm cmm th iu ki mu fs ss tx us te my mo mz mi iz ma mf mp od ar lw oc sk sa sl pp re rd co dq bo lc) [(0, .ref (mm 0))] 0 []
  refine x_aload_n C dM_next_0 rfl 0 rfl ?_
  refine x_get C fgM_165 0 rfl rfl dM_next_1 ?_
  refine x_if_leN (tgt := 9) C (by omega) dM_next_4 (by decide) (fun h4 => ?_) (fun h4 => ?_)
  ·
    refine x_aload_n C dM_next_9 rfl 0 rfl ?_
    refine x_get C fgM_168 0 rfl rfl dM_next_10 ?_
    refine x_aload_n C dM_next_13 rfl 0 rfl ?_
    refine x_get C fgM_159 0 rfl rfl dM_next_14 ?_
    refine x_icmp_neN (tgt := 30) C (by omega) (by omega) dM_next_17 (by decide) (fun h17 => ?_) (fun h17 => ?_)
    ·
      refine x_aload_n C dM_next_30 rfl 0 rfl ?_
      refine x_dup C dM_next_31 rfl ?_
      refine x_get C fgM_168 0 rfl rfl dM_next_32 ?_
      refine x_iconst (v := nI 1) C dM_next_35 (by decide) ?_
      refine x_iaddN C dM_next_36 ?_
      refine x_put C fpM_168 0 (tc_wM mm cmm th iu ki mu fs ss tx us te my mo mz mi iz ma mf mp od ar lw oc sk sa sl (pp + 1) re rd co dq bo lc) rfl rfl rfl rfl (Nat.le_of_ble_eq_true rfl) dM_next_37 ?_
      refine x_aload_n C dM_next_40 rfl 0 rfl ?_
      refine x_get C fgM_37 0 rfl rfl dM_next_41 ?_
      refine x_aload_n C dM_next_44 rfl 0 rfl ?_
      refine x_get C fgM_168 0 rfl rfl dM_next_45 ?_
      refine x_iconst (v := nI 1) C dM_next_48 (by decide) ?_
      refine x_isubN C (by omega) dM_next_49 ?_
      refine x_bld C 9 8 rfl rfl (by omega) (by decide) dM_next_50 ?_
      show xk_Go K D 1 0 0 (tc_wM mm cmm th iu ki mu fs ss tx us te my mo mz mi iz ma mf mp od ar lw oc sk sa sl (pp + 1) re rd co dq bo lc) [(0, .ref (mm 0))] 51 [.int (xk_sb (mi (pp + 1 - 1)))]
      refine x_sipush (v := nI 255) C dM_next_51 (by decide) ?_
      refine x_iand C dM_next_54 ?_
      refine x_top (xk_sb_and (mi (pp + 1 - 1))) ?_
      exact x_iret C T .int rfl rfl dM_next_55 (Or.inr (Or.inr (⟨by rw [Nat.add_sub_cancel], rfl, (by omega), (by omega)⟩)))
    ·
      refine x_aload_n C dM_next_20 rfl 0 rfl ?_
      refine x_iconst (v := nI 1) C dM_next_21 (by decide) ?_
      refine x_aload_n C dM_next_22 rfl 0 rfl ?_
      refine x_get C fgM_159 0 rfl rfl dM_next_23 ?_
      refine x_callV C (c_M_wrong D mm cmm th iu ki mu fs ss tx us te my mo mz mi iz ma mf mp od ar lw oc sk sa sl pp re rd co dq bo lc 1 iz y3) kbM_171 kcM_171 [0, 1, 2, 3, 4, 5, 6, 7, 8, 9, 10, 11, 12, 13, 14, 15, 16, 17, 18, 19, 20] [] [0, 1, 2, 3, 4, 5, 6, 7, 8, 9, 10, 11, 12, 13, 14, 15, 16, 17, 18, 19] ([]) rfl rfl (by decide) (by decide) (by decide) rfl 0 rfl rfl ⟨Nat.le_of_ble_eq_true rfl, Nat.le_of_ble_eq_true rfl⟩ ⟨Nat.le_of_ble_eq_true rfl, Nat.le_of_ble_eq_true rfl⟩ [] rfl rfl (Nat.le_of_ble_eq_true rfl) dM_next_26 (fun rv ru hw => ?_)
      obtain ⟨rfl, rfl⟩ := hw
      show xk_Go K D 1 0 0 (tc_wM mm cmm th iu ki mu fs ss tx us te my mo mz mi iz ma (tc_f1 mf 1) (tc_f2 mf mp iz) od ar lw oc sk sa sl pp re rd co dq bo lc) [(0, .ref (mm 0))] 29 [.int (nI 0)]
      rw [tc_f1_0 (show mf = 0 by omega), tc_f2_0 (show mf = 0 by omega)]
      exact x_iret C T .int rfl rfl dM_next_29 (Or.inr (Or.inl (⟨rfl, rfl, (by omega), (by omega)⟩)))
  ·
    refine x_iconst (v := nI 0) C dM_next_7 (by decide) ?_
    exact x_iret C T .int rfl rfl dM_next_8 (Or.inl (⟨rfl, rfl, (by omega)⟩))
set_option maxHeartbeats 4000000 in
set_option maxRecDepth 100000 in
/-- must -/
theorem c_M_must (D : va_G) (mm : Nat → Nat) (cmm : Nat → ClassId) (th : Nat) (iu : Nat → Bool) (ki : Nat → Nat) (mu : Nat → Int64) (fs : Nat → Option Nat) (ss : Nat → Option Nat) (tx : Nat → Nat) (us : Nat) (te : Nat → Nat) (my : Nat) (mo : Nat → Nat) (mz : Nat) (mi : Nat → Nat) (iz : Nat) (ma : Nat) (mf : Nat) (mp : Option Nat) (od : Nat → Nat) (ar : Nat → Option Nat) (lw : Nat → Nat) (oc : Nat) (sk : Nat → Nat) (sa : Nat → Option Nat) (sl : Nat → Nat) (pp : Nat) (re : Nat → Nat) (rd : Nat) (co : Nat → Nat) (dq : Nat → Nat) (bo : Nat → Nat) (lc : Nat → Nat) (gd : Bool) (y1 : mf < 10) (y2 : gd = false → 0 < pp) : xk_Ct yM_must cM_must 3 none { frames := 1, cells := 0, slots := 0, locals := 22 } D (tc_tM cmm) [.ref (mm 0), .int (xk_bZ gd)] (tc_wM mm cmm th iu ki mu fs ss tx us te my mo mz mi iz ma mf mp od ar lw oc sk sa sl pp re rd co dq bo lc) (fun rv ru => (rv = none ∧ ru = tc_wM mm cmm th iu ki mu fs ss tx us te my mo mz mi iz ma mf mp od ar lw oc sk sa sl pp re rd co dq bo lc ∧ (gd = true)) ∨ (rv = none ∧ ru = tc_wM mm cmm th iu ki mu fs ss tx us te my mo mz mi iz ma (tc_f1 mf 3) (tc_f2 mf mp (pp - 1)) od ar lw oc sk sa sl pp re rd co dq bo lc ∧ (gd = false))) := by
  refine xk_enter (by decide) (Nat.le_of_ble_eq_true rfl) (fun K C T hin => ?_)
  show xk_Go K D 3 0 0 (tc_wM mm cmm th iu ki mu fs ss tx us te my mo mz mi iz ma mf mp od ar lw oc sk sa sl pp re rd co dq bo lc) [(0, .ref (mm 0)), (1, .int (xk_bZ gd))] 0 []
  refine x_iload_n C dM_must_0 rfl 1 rfl ?_
  refine x_if_neB (tgt := 16) C dM_must_1 (by decide) (fun h1 => ?_) (fun h1 => ?_)
  ·
    exact x_vret C T rfl dM_must_16 (Or.inl (⟨rfl, rfl, h1⟩))
  ·
    refine x_aload_n C dM_must_4 rfl 0 rfl ?_
    refine x_iconst (v := nI 3) C dM_must_5 (by decide) ?_
    refine x_aload_n C dM_must_6 rfl 0 rfl ?_
    refine x_get C fgM_168 0 rfl rfl dM_must_7 ?_
    refine x_iconst (v := nI 1) C dM_must_10 (by decide) ?_
    refine x_isubN C (y2 h1) dM_must_11 ?_
    refine x_callV C (c_M_wrong D mm cmm th iu ki mu fs ss tx us te my mo mz mi iz ma mf mp od ar lw oc sk sa sl pp re rd co dq bo lc 3 (pp - 1) y1) kbM_171 kcM_171 [0, 1, 2, 3, 4, 5, 6, 7, 8, 9, 10, 11, 12, 13, 14, 15, 16, 17, 18, 19, 20] [] [0, 1, 2, 3, 4, 5, 6, 7, 8, 9, 10, 11, 12, 13, 14, 15, 16, 17, 18, 19] ([]) rfl rfl (by decide) (by decide) (by decide) rfl 0 rfl rfl ⟨Nat.le_of_ble_eq_true rfl, Nat.le_of_ble_eq_true rfl⟩ ⟨Nat.le_of_ble_eq_true rfl, Nat.le_of_ble_eq_true rfl⟩ [] rfl rfl (Nat.le_of_ble_eq_true rfl) dM_must_12 (fun rv ru hw => ?_)
    obtain ⟨rfl, rfl⟩ := hw
    show xk_Go K D 3 0 0 (tc_wM mm cmm th iu ki mu fs ss tx us te my mo mz mi iz ma (tc_f1 mf 3) (tc_f2 mf mp (pp - 1)) od ar lw oc sk sa sl pp re rd co dq bo lc) [(0, .ref (mm 0)), (1, .int (xk_bZ gd))] 15 [.int (nI 0)]
    refine x_istore_n C [(2, .int (nI 0)), (0, .ref (mm 0)), (1, .int (xk_bZ gd))] dM_must_15 rfl (by decide) rfl ?_
    exact x_vret C T rfl dM_must_16 (Or.inr (⟨rfl, rfl, h1⟩))
set_option maxHeartbeats 4000000 in
set_option maxRecDepth 100000 in
/-- readU -/
theorem c_M_readU (D : va_G) (mm : Nat → Nat) (cmm : Nat → ClassId) (th : Nat) (iu : Nat → Bool) (ki : Nat → Nat) (mu : Nat → Int64) (fs : Nat → Option Nat) (ss : Nat → Option Nat) (tx : Nat → Nat) (us : Nat) (te : Nat → Nat) (my : Nat) (mo : Nat → Nat) (mz : Nat) (mi : Nat → Nat) (iz : Nat) (ma : Nat) (od : Nat → Nat) (ar : Nat → Option Nat) (lw : Nat → Nat) (oc : Nat) (sk : Nat → Nat) (sa : Nat → Option Nat) (sl : Nat → Nat) (pp : Nat) (re : Nat → Nat) (rd : Nat) (co : Nat → Nat) (dq : Nat → Nat) (bo : Nat → Nat) (lc : Nat → Nat) (y1 : pp ≤ iz) (y2 : iz ≤ 4096) (y4 : 0 < pp) : xk_Ct yM_readU cM_readU 5 (some .long) { frames := 2, cells := 0, slots := 0, locals := 42 } D (tc_tM cmm) [.ref (mm 0)] (tc_wM mm cmm th iu ki mu fs ss tx us te my mo mz mi iz ma 0 none od ar lw oc sk sa sl pp re rd co dq bo lc) (fun rv ru => (∃ (xv : Int64), ∃ (nw : Nat), rv = some (.long xv) ∧ ru = tc_wM mm cmm th iu ki mu fs ss tx us te my mo mz mi iz ma 0 none od ar lw oc sk sa sl nw re rd co dq bo lc ∧ (tc_rU (tc_B mi) iz pp = .inr (xv, nw)) ∧ (pp ≤ nw) ∧ (nw ≤ iz)) ∨ (∃ (xv : Int64), ∃ (nw : Nat), ∃ (f : Nat), ∃ (q : Nat), rv = some (.long xv) ∧ ru = tc_wM mm cmm th iu ki mu fs ss tx us te my mo mz mi iz ma f (some q) od ar lw oc sk sa sl nw re rd co dq bo lc ∧ (tc_rU (tc_B mi) iz pp = .inl (f, q)) ∧ (0 < f ∧ f < 10) ∧ (pp ≤ nw) ∧ (nw ≤ iz))) := by
  refine xk_enter (by decide) (Nat.le_of_ble_eq_true rfl) (fun K C T hin => ?_)
  show xk_Go K D 5 0 0 (tc_wM mm cmm th iu ki mu fs ss tx us te my mo mz mi iz ma 0 none od ar lw oc sk sa sl pp re rd co dq bo lc) [(0, .ref (mm 0))] 0 []
  have jn47 : ∀ (w : Nat) (kk : Nat) (b : Nat) (nw : Nat) (fv : Nat) (pv : Option Nat) (bb : Nat) (e : Bool), (tc_scan (tc_B mi) iz 5 pp 0 0 = (w, kk, bb, e)) → ((e = true ∧ fv = 1 ∧ pv = some iz) ∨ (e = false ∧ fv = 0 ∧ pv = none ∧ nw = pp + kk ∧ ((bb = b ∧ b < 128) ∨ (128 ≤ b ∧ bb = 128 ∧ kk = 5)))) → (b < 256 ∧ pp ≤ nw ∧ nw ≤ iz ∧ 0 < kk ∧ kk ≤ 5) → (w < 2 ^ (7 * kk)) → (e = false → b < 128 → b * 2 ^ (7 * (kk - 1)) ≤ w ∧ w < (b + 1) * 2 ^ (7 * (kk - 1))) → xk_Go K D 5 0 0 (tc_wM mm cmm th iu ki mu fs ss tx us te my mo mz mi iz ma fv pv od ar lw oc sk sa sl nw re rd co dq bo lc) [(0, .ref (mm 0)), (1, .long (lN w)), (3, .int (nI kk)), (4, .int (nI b))] 47 [] := by
    intro w kk b nw fv pv bb e j1 j2 j3 j5 j11
    obtain ⟨j6, j7, j8, j9, j10⟩ := j3
    refine x_aload_n C dM_readU_47 rfl 0 rfl ?_
    rcases j2 with ⟨rfl, rfl, rfl⟩ | ⟨rfl, rfl, rfl, rfl, j4⟩
    ·
      refine x_get C fgM_165 0 rfl rfl dM_readU_48 ?_
      refine x_if_ne (tgt := 94) C dM_readU_51 (by decide) (fun _ => ?_) (fun h => absurd h (by decide))
      refine x_lload_n C dM_readU_94 rfl 1 rfl ?_
      exact x_lret C T rfl dM_readU_95 (Or.inr (⟨_, _, 1, iz, rfl, rfl, (tc_rU_e j1), (by decide), j7, j8⟩))
    ·
      refine x_get C fgM_165 0 rfl rfl dM_readU_48 ?_
      refine x_if_ne (tgt := 94) C dM_readU_51 (by decide) (fun h => absurd (by decide) h) (fun _ => ?_)
      refine x_iload C dM_readU_54 3 rfl ?_
      refine x_bipush (v := nI 127) C dM_readU_56 (by decide) ?_
      refine x_icmp_gtN (tgt := 79) C (by omega) (by decide) dM_readU_58 (by decide) (fun h58 => ?_) (fun h58 => ?_)
      ·
        refine x_aload_n C dM_readU_79 rfl 0 rfl ?_
        refine x_iconst (v := nI 2) C dM_readU_80 (by decide) ?_
        refine x_aload_n C dM_readU_81 rfl 0 rfl ?_
        refine x_get C fgM_168 0 rfl rfl dM_readU_82 ?_
        refine x_iconst (v := nI 1) C dM_readU_85 (by decide) ?_
        refine x_isubN C (by omega) dM_readU_86 ?_
        refine x_callV C (c_M_wrong D mm cmm th iu ki mu fs ss tx us te my mo mz mi iz ma 0 none od ar lw oc sk sa sl (pp + kk) re rd co dq bo lc 2 (pp + kk - 1) (by decide)) kbM_171 kcM_171 [0, 1, 2, 3, 4, 5, 6, 7, 8, 9, 10, 11, 12, 13, 14, 15, 16, 17, 18, 19, 20] [] [0, 1, 2, 3, 4, 5, 6, 7, 8, 9, 10, 11, 12, 13, 14, 15, 16, 17, 18, 19] ([]) rfl rfl (by decide) (by decide) (by decide) rfl 0 rfl rfl ⟨Nat.le_of_ble_eq_true rfl, Nat.le_of_ble_eq_true rfl⟩ ⟨Nat.le_of_ble_eq_true rfl, Nat.le_of_ble_eq_true rfl⟩ [] rfl rfl (Nat.le_of_ble_eq_true rfl) dM_readU_87 (fun rv ru hw => ?_)
        obtain ⟨rfl, rfl⟩ := hw
        show xk_Go K D 5 0 0 (tc_wM mm cmm th iu ki mu fs ss tx us te my mo mz mi iz ma (tc_f1 0 2) (tc_f2 0 none (pp + kk - 1)) od ar lw oc sk sa sl (pp + kk) re rd co dq bo lc) [(0, .ref (mm 0)), (1, .long (lN w)), (3, .int (nI kk)), (4, .int (nI b))] 90 [.int (nI 0)]
        show xk_Go K D 5 0 0 (tc_wM mm cmm th iu ki mu fs ss tx us te my mo mz mi iz ma 2 (some (pp + kk - 1)) od ar lw oc sk sa sl (pp + kk) re rd co dq bo lc) [(0, .ref (mm 0)), (1, .long (lN w)), (3, .int (nI kk)), (4, .int (nI b))] 90 [.int (nI 0)]
        refine x_i2l (v := 0) C dM_readU_90 (by decide) ?_
        refine x_goto C 95 dM_readU_91 (by decide) ?_
        exact x_lret C T rfl dM_readU_95 (Or.inr (⟨_, _, 2, (pp + kk - 1), rfl, rfl, (tc_rU_f j1 (by first | exact Or.inl (by omega) | exact Or.inr (Or.inl ((pk_lLT (by decide) (by omega)).mp h66)) | exact Or.inr (Or.inr (fun z => by have q := (tc_gU_grp (by omega) j10 (by omega) (j11 rfl (by omega)).1 (j11 rfl (by omega)).2).mp z; omega)))), (by decide), j7, j8⟩))
      ·
        have j35 := tc_p35 j5 j10
        refine x_lload_n C dM_readU_61 rfl 1 rfl ?_
        refine x_ldc2 (v := 2147483647) C dM_readU_62 klM_178 ?_
        refine x_lcmp C dM_readU_65 ?_
        refine x_if_gtC (tgt := 79) C dM_readU_66 (by decide) (fun h66 => ?_) (fun h66 => ?_)
        ·
          refine x_aload_n C dM_readU_79 rfl 0 rfl ?_
          refine x_iconst (v := nI 2) C dM_readU_80 (by decide) ?_
          refine x_aload_n C dM_readU_81 rfl 0 rfl ?_
          refine x_get C fgM_168 0 rfl rfl dM_readU_82 ?_
          refine x_iconst (v := nI 1) C dM_readU_85 (by decide) ?_
          refine x_isubN C (by omega) dM_readU_86 ?_
          refine x_callV C (c_M_wrong D mm cmm th iu ki mu fs ss tx us te my mo mz mi iz ma 0 none od ar lw oc sk sa sl (pp + kk) re rd co dq bo lc 2 (pp + kk - 1) (by decide)) kbM_171 kcM_171 [0, 1, 2, 3, 4, 5, 6, 7, 8, 9, 10, 11, 12, 13, 14, 15, 16, 17, 18, 19, 20] [] [0, 1, 2, 3, 4, 5, 6, 7, 8, 9, 10, 11, 12, 13, 14, 15, 16, 17, 18, 19] ([]) rfl rfl (by decide) (by decide) (by decide) rfl 0 rfl rfl ⟨Nat.le_of_ble_eq_true rfl, Nat.le_of_ble_eq_true rfl⟩ ⟨Nat.le_of_ble_eq_true rfl, Nat.le_of_ble_eq_true rfl⟩ [] rfl rfl (Nat.le_of_ble_eq_true rfl) dM_readU_87 (fun rv ru hw => ?_)
          obtain ⟨rfl, rfl⟩ := hw
          show xk_Go K D 5 0 0 (tc_wM mm cmm th iu ki mu fs ss tx us te my mo mz mi iz ma (tc_f1 0 2) (tc_f2 0 none (pp + kk - 1)) od ar lw oc sk sa sl (pp + kk) re rd co dq bo lc) [(0, .ref (mm 0)), (1, .long (lN w)), (3, .int (nI kk)), (4, .int (nI b))] 90 [.int (nI 0)]
          show xk_Go K D 5 0 0 (tc_wM mm cmm th iu ki mu fs ss tx us te my mo mz mi iz ma 2 (some (pp + kk - 1)) od ar lw oc sk sa sl (pp + kk) re rd co dq bo lc) [(0, .ref (mm 0)), (1, .long (lN w)), (3, .int (nI kk)), (4, .int (nI b))] 90 [.int (nI 0)]
          refine x_i2l (v := 0) C dM_readU_90 (by decide) ?_
          refine x_goto C 95 dM_readU_91 (by decide) ?_
          exact x_lret C T rfl dM_readU_95 (Or.inr (⟨_, _, 2, (pp + kk - 1), rfl, rfl, (tc_rU_f j1 (by first | exact Or.inl (by omega) | exact Or.inr (Or.inl ((pk_lLT (by decide) (by omega)).mp h66)) | exact Or.inr (Or.inr (fun z => by have q := (tc_gU_grp (by omega) j10 (by omega) (j11 rfl (by omega)).1 (j11 rfl (by omega)).2).mp z; omega)))), (by decide), j7, j8⟩))
        ·
          refine x_iload_n C dM_readU_69 rfl 2 rfl ?_
          refine x_iconst (v := nI 1) C dM_readU_70 (by decide) ?_
          refine x_icmp_leN (tgt := 94) C (by omega) (by decide) dM_readU_71 (by decide) (fun h71 => ?_) (fun h71 => ?_)
          ·
            refine x_lload_n C dM_readU_94 rfl 1 rfl ?_
            exact x_lret C T rfl dM_readU_95 (Or.inl (⟨_, _, rfl, rfl, (tc_rU_o j1 (by have z2 : ¬ 2147483647 < w := fun q => h66 ((pk_lLT (by decide) (by omega)).mpr q); have z3 := (tc_gU_grp (by omega) j10 (by omega) (j11 rfl (by omega)).1 (j11 rfl (by omega)).2).mpr (by omega); omega)), j7, j8⟩))
          ·
            refine x_iload C dM_readU_74 3 rfl ?_
            refine x_if_neN (tgt := 94) C (by omega) dM_readU_76 (by decide) (fun h76 => ?_) (fun h76 => ?_)
            ·
              refine x_lload_n C dM_readU_94 rfl 1 rfl ?_
              exact x_lret C T rfl dM_readU_95 (Or.inl (⟨_, _, rfl, rfl, (tc_rU_o j1 (by have z2 : ¬ 2147483647 < w := fun q => h66 ((pk_lLT (by decide) (by omega)).mpr q); have z3 := (tc_gU_grp (by omega) j10 (by omega) (j11 rfl (by omega)).1 (j11 rfl (by omega)).2).mpr (by omega); omega)), j7, j8⟩))
            ·
              refine x_aload_n C dM_readU_79 rfl 0 rfl ?_
              refine x_iconst (v := nI 2) C dM_readU_80 (by decide) ?_
              refine x_aload_n C dM_readU_81 rfl 0 rfl ?_
              refine x_get C fgM_168 0 rfl rfl dM_readU_82 ?_
              refine x_iconst (v := nI 1) C dM_readU_85 (by decide) ?_
              refine x_isubN C (by omega) dM_readU_86 ?_
              refine x_callV C (c_M_wrong D mm cmm th iu ki mu fs ss tx us te my mo mz mi iz ma 0 none od ar lw oc sk sa sl (pp + kk) re rd co dq bo lc 2 (pp + kk - 1) (by decide)) kbM_171 kcM_171 [0, 1, 2, 3, 4, 5, 6, 7, 8, 9, 10, 11, 12, 13, 14, 15, 16, 17, 18, 19, 20] [] [0, 1, 2, 3, 4, 5, 6, 7, 8, 9, 10, 11, 12, 13, 14, 15, 16, 17, 18, 19] ([]) rfl rfl (by decide) (by decide) (by decide) rfl 0 rfl rfl ⟨Nat.le_of_ble_eq_true rfl, Nat.le_of_ble_eq_true rfl⟩ ⟨Nat.le_of_ble_eq_true rfl, Nat.le_of_ble_eq_true rfl⟩ [] rfl rfl (Nat.le_of_ble_eq_true rfl) dM_readU_87 (fun rv ru hw => ?_)
              obtain ⟨rfl, rfl⟩ := hw
              show xk_Go K D 5 0 0 (tc_wM mm cmm th iu ki mu fs ss tx us te my mo mz mi iz ma (tc_f1 0 2) (tc_f2 0 none (pp + kk - 1)) od ar lw oc sk sa sl (pp + kk) re rd co dq bo lc) [(0, .ref (mm 0)), (1, .long (lN w)), (3, .int (nI kk)), (4, .int (nI b))] 90 [.int (nI 0)]
              show xk_Go K D 5 0 0 (tc_wM mm cmm th iu ki mu fs ss tx us te my mo mz mi iz ma 2 (some (pp + kk - 1)) od ar lw oc sk sa sl (pp + kk) re rd co dq bo lc) [(0, .ref (mm 0)), (1, .long (lN w)), (3, .int (nI kk)), (4, .int (nI b))] 90 [.int (nI 0)]
              refine x_i2l (v := 0) C dM_readU_90 (by decide) ?_
              refine x_goto C 95 dM_readU_91 (by decide) ?_
              exact x_lret C T rfl dM_readU_95 (Or.inr (⟨_, _, 2, (pp + kk - 1), rfl, rfl, (tc_rU_f j1 (by first | exact Or.inl (by omega) | exact Or.inr (Or.inl ((pk_lLT (by decide) (by omega)).mp h66)) | exact Or.inr (Or.inr (fun z => by have q := (tc_gU_grp (by omega) j10 (by omega) (j11 rfl (by omega)).1 (j11 rfl (by omega)).2).mp z; omega)))), (by decide), j7, j8⟩))
  refine x_lconst (v := 0) C dM_readU_0 (by decide) ?_
  refine x_lstore_n C [(1, .long 0), (0, .ref (mm 0))] dM_readU_1 rfl (by decide) rfl ?_
  refine x_iconst (v := nI 0) C dM_readU_2 (by decide) ?_
  refine x_istore_n C [(3, .int (nI 0)), (1, .long 0), (0, .ref (mm 0))] dM_readU_3 rfl (by decide) rfl ?_
  refine x_sipush (v := nI 128) C dM_readU_4 (by decide) ?_
  refine x_istore C [(4, .int (nI 128)), (3, .int (nI 0)), (1, .long 0), (0, .ref (mm 0))] dM_readU_7 (by decide) rfl ?_
  refine x_iload C dM_readU_9 0 rfl ?_
  refine x_bipush (v := nI 127) C dM_readU_11 (by decide) ?_
  refine x_icmp_le (tgt := 47) C dM_readU_13 (by decide) (fun h => absurd h (by decide)) (fun _ => ?_)
  refine x_iload_n C dM_readU_16 rfl 1 rfl ?_
  refine x_iconst (v := nI 5) C dM_readU_17 (by decide) ?_
  refine x_icmp_ge (tgt := 47) C dM_readU_18 (by decide) (fun h => absurd h (by decide)) (fun _ => ?_)
  have lp21 : ∀ (zc : Nat) (v : Nat) (k : Nat), (5 - k) < zc → (k < 5) → (tc_scan (tc_B mi) iz 5 pp 0 0 = tc_scan (tc_B mi) iz (5 - k) (pp + k) v k) → (v < 2 ^ (7 * k)) → (pp + k ≤ iz) → xk_Go K D 5 0 0 (tc_wM mm cmm th iu ki mu fs ss tx us te my mo mz mi iz ma 0 none od ar lw oc sk sa sl (pp + k) re rd co dq bo lc) [(0, .ref (mm 0)), (1, .long (lN v)), (3, .int (nI k))] 21 [] := by
    intro zc
    induction zc with
    | zero => intro v k hm; exact absurd hm (Nat.not_lt_zero _)
    | succ zc ih21 =>
      intro v k hm e1 e2 e3 e4
      have hm : 5 - k = (4 - k) + 1 := by omega
      refine x_aload_n C dM_readU_21 rfl 0 rfl ?_
      refine x_callV C (c_M_next D mm cmm th iu ki mu fs ss tx us te my mo mz mi iz ma 0 none od ar lw oc sk sa sl (pp + k) re rd co dq bo lc (by omega) y2 (by decide)) kbM_175 kcM_175 [0, 1, 2, 3, 4, 5, 6, 7, 8, 9, 10, 11, 12, 13, 14, 15, 16, 17, 18, 19, 20] [] [0, 1, 2, 3, 4, 5, 6, 7, 8, 9, 10, 11, 12, 13, 14, 15, 16, 17, 18, 19] ([]) rfl rfl (by decide) (by decide) (by decide) rfl 0 rfl rfl ⟨Nat.le_of_ble_eq_true rfl, Nat.le_of_ble_eq_true rfl⟩ ⟨Nat.le_of_ble_eq_true rfl, Nat.le_of_ble_eq_true rfl⟩ [] rfl rfl (Nat.le_of_ble_eq_true rfl) dM_readU_22 (fun rv ru hw => ?_)
      rcases hw with ⟨rfl, rfl, g1t⟩ | ⟨rfl, rfl, g1t, g2t⟩ | ⟨rfl, rfl, g1t, g2t⟩
      ·
        show xk_Go K D 5 0 0 (tc_wM mm cmm th iu ki mu fs ss tx us te my mo mz mi iz ma 0 none od ar lw oc sk sa sl (pp + k) re rd co dq bo lc) [(0, .ref (mm 0)), (1, .long (lN v)), (3, .int (nI k))] 25 [.int (nI 0)]
        exact absurd g1t (by decide)
      ·
        show xk_Go K D 5 0 0 (tc_wM mm cmm th iu ki mu fs ss tx us te my mo mz mi iz ma 1 (some iz) od ar lw oc sk sa sl (pp + k) re rd co dq bo lc) [(0, .ref (mm 0)), (1, .long (lN v)), (3, .int (nI k))] 25 [.int (nI 0)]
        refine x_istore C [(4, .int (nI 0)), (0, .ref (mm 0)), (1, .long (lN v)), (3, .int (nI k))] dM_readU_25 (by decide) rfl ?_
        refine x_lload_n C dM_readU_27 rfl 2 rfl ?_
        refine x_iload C dM_readU_28 0 rfl ?_
        refine x_bipush (v := nI 127) C dM_readU_30 (by decide) ?_
        refine x_iand C dM_readU_32 ?_
        refine x_top (y := nI 0) (by decide) ?_
        refine x_i2l (v := 0) C dM_readU_33 (by decide) ?_
        refine x_bipush (v := nI 7) C dM_readU_34 (by decide) ?_
        refine x_iload_n C dM_readU_36 rfl 3 rfl ?_
        refine x_imulN C dM_readU_37 ?_
        refine x_lshl (v := 0 <<< ((nI (7 * k)).toInt64 &&& 63)) C dM_readU_38 rfl ?_
        refine x_ladd C dM_readU_39 ?_
        refine x_topl (tc_grp_add (g := 0) (by omega)) ?_
        have e3b := tc_grp_lt (g := 0) e3 (by omega)
        refine x_lstore_n C [(1, .long (lN (v + (0) * 2 ^ (7 * k)))), (4, .int (nI 0)), (0, .ref (mm 0)), (3, .int (nI k))] dM_readU_40 rfl (by decide) rfl ?_
        refine x_iinc (q := 3) C (nI (k + 1)) [(3, .int (nI (k + 1))), (1, .long (lN (v + (0) * 2 ^ (7 * k)))), (4, .int (nI 0)), (0, .ref (mm 0))] dM_readU_41 rfl (nI_add k 1) (by decide) rfl ?_
        refine x_goto C 9 dM_readU_44 (by decide) ?_
        refine x_iload C dM_readU_9 2 rfl ?_
        refine x_bipush (v := nI 127) C dM_readU_11 (by decide) ?_
        refine x_icmp_le (tgt := 47) C dM_readU_13 (by decide) (fun _ => ?_) (fun h => absurd (by decide) h)
        exact x_sub [3, 1, 0, 2] rfl (jn47 (v + (0) * 2 ^ (7 * k)) (k + 1) 0 (pp + k) 1 (some iz) 0 true (e2.trans (by rw [hm, tc_scan_e g2t]; simp)) (Or.inl ⟨rfl, rfl, rfl⟩) (by omega) e3b (fun z => by cases z))
      ·
        show xk_Go K D 5 0 0 (tc_wM mm cmm th iu ki mu fs ss tx us te my mo mz mi iz ma 0 none od ar lw oc sk sa sl ((pp + k) + 1) re rd co dq bo lc) [(0, .ref (mm 0)), (1, .long (lN v)), (3, .int (nI k))] 25 [.int (nI (mi (pp + k) % 256))]
        refine x_istore C [(4, .int (nI (mi (pp + k) % 256))), (0, .ref (mm 0)), (1, .long (lN v)), (3, .int (nI k))] dM_readU_25 (by decide) rfl ?_
        refine x_lload_n C dM_readU_27 rfl 2 rfl ?_
        refine x_iload C dM_readU_28 0 rfl ?_
        refine x_bipush (v := nI 127) C dM_readU_30 (by decide) ?_
        refine x_iand C dM_readU_32 ?_
        refine x_top (tc_and127N (by omega)) ?_
        refine x_i2l (v := lN ((mi (pp + k) % 256) % 128)) C dM_readU_33 (nI_l (by omega)) ?_
        refine x_bipush (v := nI 7) C dM_readU_34 (by decide) ?_
        refine x_iload_n C dM_readU_36 rfl 3 rfl ?_
        refine x_imulN C dM_readU_37 ?_
        refine x_lshl (v := (lN ((mi (pp + k) % 256) % 128)) <<< ((nI (7 * k)).toInt64 &&& 63)) C dM_readU_38 rfl ?_
        refine x_ladd C dM_readU_39 ?_
        refine x_topl (tc_grp_add (g := (mi (pp + k) % 256) % 128) (by omega)) ?_
        have e3b := tc_grp_lt (g := (mi (pp + k) % 256) % 128) e3 (by omega)
        refine x_lstore_n C [(1, .long (lN (v + ((mi (pp + k) % 256) % 128) * 2 ^ (7 * k)))), (4, .int (nI (mi (pp + k) % 256))), (0, .ref (mm 0)), (3, .int (nI k))] dM_readU_40 rfl (by decide) rfl ?_
        refine x_iinc (q := 3) C (nI (k + 1)) [(3, .int (nI (k + 1))), (1, .long (lN (v + ((mi (pp + k) % 256) % 128) * 2 ^ (7 * k)))), (4, .int (nI (mi (pp + k) % 256))), (0, .ref (mm 0))] dM_readU_41 rfl (nI_add k 1) (by decide) rfl ?_
        refine x_goto C 9 dM_readU_44 (by decide) ?_
        refine x_iload C dM_readU_9 2 rfl ?_
        refine x_bipush (v := nI 127) C dM_readU_11 (by decide) ?_
        refine x_icmp_leN (tgt := 47) C (by omega) (by decide) dM_readU_13 (by decide) (fun h13 => ?_) (fun h13 => ?_)
        ·
          have hbb : mi (pp + k) % 256 < 128 := by omega
          exact x_sub [3, 1, 0, 2] rfl (jn47 (v + ((mi (pp + k) % 256) % 128) * 2 ^ (7 * k)) (k + 1) (mi (pp + k) % 256) ((pp + k) + 1) 0 none (mi (pp + k) % 256) false (e2.trans (by rw [hm, tc_scan_l (Nat.not_le.mpr g2t) hbb]; simp only [tc_B]; rw [Nat.mod_eq_of_lt hbb])) (Or.inr ⟨rfl, rfl, rfl, rfl, Or.inl ⟨rfl, hbb⟩⟩) (by omega) e3b (fun _ _ => by rw [Nat.mod_eq_of_lt hbb]; exact tc_grp_lo e3))
        ·
          refine x_iload_n C dM_readU_16 rfl 0 rfl ?_
          refine x_iconst (v := nI 5) C dM_readU_17 (by decide) ?_
          refine x_icmp_geN (tgt := 47) C (by omega) (by decide) dM_readU_18 (by decide) (fun h18 => ?_) (fun h18 => ?_)
          ·
            have hbb : ¬ mi (pp + k) % 256 < 128 := by omega
            exact x_sub [3, 1, 0, 2] rfl (jn47 (v + ((mi (pp + k) % 256) % 128) * 2 ^ (7 * k)) (k + 1) (mi (pp + k) % 256) ((pp + k) + 1) 0 none 128 false (e2.trans (by rw [hm, tc_scan_m (Nat.not_le.mpr g2t) hbb, show 4 - k = 0 by omega]; rfl)) (Or.inr ⟨rfl, rfl, rfl, rfl, Or.inr ⟨by omega, rfl, by omega⟩⟩) (by omega) e3b (fun _ z => absurd z hbb))
          ·
            have hbb : ¬ mi (pp + k) % 256 < 128 := by omega
            exact x_sub [3, 1, 0] rfl (ih21 (v + (mi (pp + k) % 256) % 128 * 2 ^ (7 * k)) (k + 1) (by omega) (by omega) (e2.trans (by rw [hm, tc_scan_m (Nat.not_le.mpr g2t) hbb, show 5 - (k + 1) = 4 - k by omega]; rfl)) e3b (by omega))
  exact x_sub [3, 2, 1] rfl (lp21 _ 0 0 (Nat.lt_succ_self _) (by decide) rfl (by decide) (by omega))
set_option maxHeartbeats 4000000 in
set_option maxRecDepth 100000 in
/-- readS -/
theorem c_M_readS (D : va_G) (mm : Nat → Nat) (cmm : Nat → ClassId) (th : Nat) (iu : Nat → Bool) (ki : Nat → Nat) (mu : Nat → Int64) (fs : Nat → Option Nat) (ss : Nat → Option Nat) (tx : Nat → Nat) (us : Nat) (te : Nat → Nat) (my : Nat) (mo : Nat → Nat) (mz : Nat) (mi : Nat → Nat) (iz : Nat) (ma : Nat) (od : Nat → Nat) (ar : Nat → Option Nat) (lw : Nat → Nat) (oc : Nat) (sk : Nat → Nat) (sa : Nat → Option Nat) (sl : Nat → Nat) (pp : Nat) (re : Nat → Nat) (rd : Nat) (co : Nat → Nat) (dq : Nat → Nat) (bo : Nat → Nat) (lc : Nat → Nat) (y1 : pp ≤ iz) (y2 : iz ≤ 4096) (y4 : 0 < pp) : xk_Ct yM_readS cM_readS 8 (some .long) { frames := 2, cells := 0, slots := 0, locals := 42 } D (tc_tM cmm) [.ref (mm 0)] (tc_wM mm cmm th iu ki mu fs ss tx us te my mo mz mi iz ma 0 none od ar lw oc sk sa sl pp re rd co dq bo lc) (fun rv ru => (∃ (xv : Int64), ∃ (nw : Nat), rv = some (.long xv) ∧ ru = tc_wM mm cmm th iu ki mu fs ss tx us te my mo mz mi iz ma 0 none od ar lw oc sk sa sl nw re rd co dq bo lc ∧ (tc_rS (tc_B mi) iz pp = .inr (xv, nw)) ∧ (pp ≤ nw) ∧ (nw ≤ iz)) ∨ (∃ (xv : Int64), ∃ (nw : Nat), ∃ (f : Nat), ∃ (q : Nat), rv = some (.long xv) ∧ ru = tc_wM mm cmm th iu ki mu fs ss tx us te my mo mz mi iz ma f (some q) od ar lw oc sk sa sl nw re rd co dq bo lc ∧ (tc_rS (tc_B mi) iz pp = .inl (f, q)) ∧ (0 < f ∧ f < 10) ∧ (pp ≤ nw) ∧ (nw ≤ iz))) := by
  refine xk_enter (by decide) (Nat.le_of_ble_eq_true rfl) (fun K C T hin => ?_)
  show xk_Go K D 8 0 0 (tc_wM mm cmm th iu ki mu fs ss tx us te my mo mz mi iz ma 0 none od ar lw oc sk sa sl pp re rd co dq bo lc) [(0, .ref (mm 0))] 0 []
  have jn65 : ∀ (w : Nat) (kk : Nat) (b : Nat) (nw : Nat) (fv : Nat) (pv : Option Nat) (bb : Nat) (e : Bool) (bf : Nat), (tc_scan (tc_B mi) iz 10 pp 0 0 = (w, kk, bb, e)) → ((e = true ∧ fv = 1 ∧ pv = some iz) ∨ (e = false ∧ fv = 0 ∧ pv = none ∧ nw = pp + kk ∧ ((bb = b ∧ b < 128) ∨ (128 ≤ b ∧ bb = 128 ∧ kk = 10)))) → (b < 256 ∧ pp ≤ nw ∧ nw ≤ iz ∧ 0 < kk ∧ kk ≤ 10) → (w < 2 ^ (7 * kk)) → (e = false → b < 128 → ∃ v, v < 2 ^ (7 * (kk - 1)) ∧ w = v + b * 2 ^ (7 * (kk - 1)) ∧ (1 < kk → (bf % 128 / 64 * 64 = 64 ↔ 2 ^ (7 * (kk - 1) - 1) ≤ v))) → (bf < 256) → xk_Go K D 8 0 0 (tc_wM mm cmm th iu ki mu fs ss tx us te my mo mz mi iz ma fv pv od ar lw oc sk sa sl nw re rd co dq bo lc) [(0, .ref (mm 0)), (1, .long (lN w)), (3, .int (nI kk)), (4, .int (nI b)), (5, .int (nI bf))] 65 [] := by
    intro w kk b nw fv pv bb e bf j1 j2 j3 j5 j11 j12
    obtain ⟨j6, j7, j8, j9, j10⟩ := j3
    refine x_iload_n C dM_readS_65 rfl 2 rfl ?_
    refine x_iconst (v := nI 1) C dM_readS_66 (by decide) ?_
    have jn105 : ∀ (idl : Bool), (idl = true ↔ (1 < kk ∧ ((b = 0 ∧ bf % 128 / 64 * 64 = 0) ∨ (b = 127 ∧ bf % 128 / 64 * 64 = 64)))) → xk_Go K D 8 0 0 (tc_wM mm cmm th iu ki mu fs ss tx us te my mo mz mi iz ma fv pv od ar lw oc sk sa sl nw re rd co dq bo lc) [(0, .ref (mm 0)), (1, .long (lN w)), (3, .int (nI kk)), (4, .int (nI b)), (5, .int (nI bf)), (6, .int (xk_bZ idl))] 105 [] := by
      intro idl k1
      refine x_iload_n C dM_readS_105 rfl 2 rfl ?_
      refine x_bipush (v := nI 10) C dM_readS_106 (by decide) ?_
      have jn130 : ∀ (bey : Bool), (bey = true ↔ (kk = 10 ∧ ¬ b = 0 ∧ ¬ b = 127)) → xk_Go K D 8 0 0 (tc_wM mm cmm th iu ki mu fs ss tx us te my mo mz mi iz ma fv pv od ar lw oc sk sa sl nw re rd co dq bo lc) [(0, .ref (mm 0)), (1, .long (lN w)), (3, .int (nI kk)), (4, .int (nI b)), (5, .int (nI bf)), (6, .int (xk_bZ idl)), (7, .int (xk_bZ bey))] 130 [] := by
        intro bey k2
        refine x_aload_n C dM_readS_130 rfl 0 rfl ?_
        rcases j2 with ⟨rfl, rfl, rfl⟩ | ⟨rfl, rfl, rfl, rfl, j4⟩
        ·
          refine x_get C fgM_165 0 rfl rfl dM_readS_131 ?_
          refine x_if_ne (tgt := 167) C dM_readS_134 (by decide) (fun _ => ?_) (fun h => absurd h (by decide))
          refine x_iload_n C dM_readS_167 rfl 2 rfl ?_
          refine x_bipush (v := nI 10) C dM_readS_168 (by decide) ?_
          refine x_icmp_geN (tgt := 194) C (by omega) (by decide) dM_readS_170 (by decide) (fun h170 => ?_) (fun h170 => ?_)
          ·
            refine x_lload_n C dM_readS_194 rfl 1 rfl ?_
            exact x_lret C T rfl dM_readS_195 (Or.inr (⟨_, _, 1, iz, rfl, rfl, (tc_rS_e j1), (by decide), j7, j8⟩))
          ·
            refine x_iload C dM_readS_173 3 rfl ?_
            refine x_bipush (v := nI 64) C dM_readS_175 (by decide) ?_
            refine x_iand C dM_readS_177 ?_
            refine x_top (tc_and64N (by omega)) ?_
            refine x_if_leN (tgt := 194) C (by omega) dM_readS_178 (by decide) (fun h178 => ?_) (fun h178 => ?_)
            ·
              refine x_lload_n C dM_readS_194 rfl 1 rfl ?_
              exact x_lret C T rfl dM_readS_195 (Or.inr (⟨_, _, 1, iz, rfl, rfl, (tc_rS_e j1), (by decide), j7, j8⟩))
            ·
              refine x_lload_n C dM_readS_181 rfl 1 rfl ?_
              refine x_ldc2 (v := (-1)) C dM_readS_182 klM_180 ?_
              refine x_bipush (v := nI 7) C dM_readS_185 (by decide) ?_
              refine x_iload_n C dM_readS_187 rfl 2 rfl ?_
              refine x_imulN C dM_readS_188 ?_
              refine x_lshl (v := (-1) <<< ((nI (7 * kk)).toInt64 &&& 63)) C dM_readS_189 rfl ?_
              refine x_lor C dM_readS_190 ?_
              refine x_goto C 195 dM_readS_191 (by decide) ?_
              exact x_lret C T rfl dM_readS_195 (Or.inr (⟨_, _, 1, iz, rfl, rfl, (tc_rS_e j1), (by decide), j7, j8⟩))
        ·
          have ms1 : b < 128 → ¬ (kk = 10 ∧ ¬ b = 0 ∧ ¬ b = 127) → (tc_gS (tc_sgn w kk b).toInt = kk ↔ ¬ (1 < kk ∧ ((b = 0 ∧ bf % 128 / 64 * 64 = 0) ∨ (b = 127 ∧ bf % 128 / 64 * 64 = 64)))) := fun z1 z2 => tc_rS_idl (by omega) j10 z1 (j11 rfl z1) z2
          refine x_get C fgM_165 0 rfl rfl dM_readS_131 ?_
          refine x_if_ne (tgt := 167) C dM_readS_134 (by decide) (fun h => absurd (by decide) h) (fun _ => ?_)
          refine x_iload C dM_readS_137 3 rfl ?_
          refine x_bipush (v := nI 127) C dM_readS_139 (by decide) ?_
          refine x_icmp_gtN (tgt := 154) C (by omega) (by decide) dM_readS_141 (by decide) (fun h141 => ?_) (fun h141 => ?_)
          ·
            refine x_aload_n C dM_readS_154 rfl 0 rfl ?_
            refine x_iconst (v := nI 2) C dM_readS_155 (by decide) ?_
            refine x_aload_n C dM_readS_156 rfl 0 rfl ?_
            refine x_get C fgM_168 0 rfl rfl dM_readS_157 ?_
            refine x_iconst (v := nI 1) C dM_readS_160 (by decide) ?_
            refine x_isubN C (by omega) dM_readS_161 ?_
            refine x_callV C (c_M_wrong D mm cmm th iu ki mu fs ss tx us te my mo mz mi iz ma 0 none od ar lw oc sk sa sl (pp + kk) re rd co dq bo lc 2 (pp + kk - 1) (by decide)) kbM_171 kcM_171 [0, 1, 2, 3, 4, 5, 6, 7, 8, 9, 10, 11, 12, 13, 14, 15, 16, 17, 18, 19, 20] [] [0, 1, 2, 3, 4, 5, 6, 7, 8, 9, 10, 11, 12, 13, 14, 15, 16, 17, 18, 19] ([]) rfl rfl (by decide) (by decide) (by decide) rfl 0 rfl rfl ⟨Nat.le_of_ble_eq_true rfl, Nat.le_of_ble_eq_true rfl⟩ ⟨Nat.le_of_ble_eq_true rfl, Nat.le_of_ble_eq_true rfl⟩ [] rfl rfl (Nat.le_of_ble_eq_true rfl) dM_readS_162 (fun rv ru hw => ?_)
            obtain ⟨rfl, rfl⟩ := hw
            show xk_Go K D 8 0 0 (tc_wM mm cmm th iu ki mu fs ss tx us te my mo mz mi iz ma (tc_f1 0 2) (tc_f2 0 none (pp + kk - 1)) od ar lw oc sk sa sl (pp + kk) re rd co dq bo lc) [(0, .ref (mm 0)), (1, .long (lN w)), (3, .int (nI kk)), (4, .int (nI b)), (5, .int (nI bf)), (6, .int (xk_bZ idl)), (7, .int (xk_bZ bey))] 165 [.int (nI 0)]
            show xk_Go K D 8 0 0 (tc_wM mm cmm th iu ki mu fs ss tx us te my mo mz mi iz ma 2 (some (pp + kk - 1)) od ar lw oc sk sa sl (pp + kk) re rd co dq bo lc) [(0, .ref (mm 0)), (1, .long (lN w)), (3, .int (nI kk)), (4, .int (nI b)), (5, .int (nI bf)), (6, .int (xk_bZ idl)), (7, .int (xk_bZ bey))] 165 [.int (nI 0)]
            refine x_i2l (v := 0) C dM_readS_165 (by decide) ?_
            exact x_lret C T rfl dM_readS_166 (Or.inr (⟨_, _, 2, (pp + kk - 1), rfl, rfl, (tc_rS_f j1 (by first | exact Or.inl (by omega) | (have zi := k1.mp h146; have zb : bb = b := (by omega); rw [zb]; by_cases z : (kk = 10 ∧ ¬ b = 0 ∧ ¬ b = 127); exact Or.inr (Or.inl z); exact Or.inr (Or.inr (fun q => (ms1 (by omega) z).mp q zi))) | (have zi := k2.mp h151; have zb : bb = b := (by omega); rw [zb]; exact Or.inr (Or.inl zi)))), (by decide), j7, j8⟩))
          ·
            refine x_iload C dM_readS_144 5 rfl ?_
            refine x_if_neB (tgt := 154) C dM_readS_146 (by decide) (fun h146 => ?_) (fun h146 => ?_)
            ·
              refine x_aload_n C dM_readS_154 rfl 0 rfl ?_
              refine x_iconst (v := nI 2) C dM_readS_155 (by decide) ?_
              refine x_aload_n C dM_readS_156 rfl 0 rfl ?_
              refine x_get C fgM_168 0 rfl rfl dM_readS_157 ?_
              refine x_iconst (v := nI 1) C dM_readS_160 (by decide) ?_
              refine x_isubN C (by omega) dM_readS_161 ?_
              refine x_callV C (c_M_wrong D mm cmm th iu ki mu fs ss tx us te my mo mz mi iz ma 0 none od ar lw oc sk sa sl (pp + kk) re rd co dq bo lc 2 (pp + kk - 1) (by decide)) kbM_171 kcM_171 [0, 1, 2, 3, 4, 5, 6, 7, 8, 9, 10, 11, 12, 13, 14, 15, 16, 17, 18, 19, 20] [] [0, 1, 2, 3, 4, 5, 6, 7, 8, 9, 10, 11, 12, 13, 14, 15, 16, 17, 18, 19] ([]) rfl rfl (by decide) (by decide) (by decide) rfl 0 rfl rfl ⟨Nat.le_of_ble_eq_true rfl, Nat.le_of_ble_eq_true rfl⟩ ⟨Nat.le_of_ble_eq_true rfl, Nat.le_of_ble_eq_true rfl⟩ [] rfl rfl (Nat.le_of_ble_eq_true rfl) dM_readS_162 (fun rv ru hw => ?_)
              obtain ⟨rfl, rfl⟩ := hw
              show xk_Go K D 8 0 0 (tc_wM mm cmm th iu ki mu fs ss tx us te my mo mz mi iz ma (tc_f1 0 2) (tc_f2 0 none (pp + kk - 1)) od ar lw oc sk sa sl (pp + kk) re rd co dq bo lc) [(0, .ref (mm 0)), (1, .long (lN w)), (3, .int (nI kk)), (4, .int (nI b)), (5, .int (nI bf)), (6, .int (xk_bZ idl)), (7, .int (xk_bZ bey))] 165 [.int (nI 0)]
              show xk_Go K D 8 0 0 (tc_wM mm cmm th iu ki mu fs ss tx us te my mo mz mi iz ma 2 (some (pp + kk - 1)) od ar lw oc sk sa sl (pp + kk) re rd co dq bo lc) [(0, .ref (mm 0)), (1, .long (lN w)), (3, .int (nI kk)), (4, .int (nI b)), (5, .int (nI bf)), (6, .int (xk_bZ idl)), (7, .int (xk_bZ bey))] 165 [.int (nI 0)]
              refine x_i2l (v := 0) C dM_readS_165 (by decide) ?_
              exact x_lret C T rfl dM_readS_166 (Or.inr (⟨_, _, 2, (pp + kk - 1), rfl, rfl, (tc_rS_f j1 (by first | exact Or.inl (by omega) | (have zi := k1.mp h146; have zb : bb = b := (by omega); rw [zb]; by_cases z : (kk = 10 ∧ ¬ b = 0 ∧ ¬ b = 127); exact Or.inr (Or.inl z); exact Or.inr (Or.inr (fun q => (ms1 (by omega) z).mp q zi))) | (have zi := k2.mp h151; have zb : bb = b := (by omega); rw [zb]; exact Or.inr (Or.inl zi)))), (by decide), j7, j8⟩))
            ·
              refine x_iload C dM_readS_149 6 rfl ?_
              refine x_if_eqB (tgt := 167) C dM_readS_151 (by decide) (fun h151 => ?_) (fun h151 => ?_)
              ·
                refine x_iload_n C dM_readS_167 rfl 2 rfl ?_
                refine x_bipush (v := nI 10) C dM_readS_168 (by decide) ?_
                refine x_icmp_geN (tgt := 194) C (by omega) (by decide) dM_readS_170 (by decide) (fun h170 => ?_) (fun h170 => ?_)
                ·
                  refine x_lload_n C dM_readS_194 rfl 1 rfl ?_
                  exact x_lret C T rfl dM_readS_195 (Or.inl (⟨_, _, rfl, rfl, ((tc_rS_o j1 (fun z => (by have zb : bb = b := (by omega); rw [zb] at z; have n1 : ¬ (kk = 10 ∧ ¬ b = 0 ∧ ¬ b = 127) := (fun q => (by have q := k2.mpr q; rw [h151] at q; cases q)); have n2 : ¬ (1 < kk ∧ ((b = 0 ∧ bf % 128 / 64 * 64 = 0) ∨ (b = 127 ∧ bf % 128 / 64 * 64 = 64))) := (fun q => (by have q := k1.mpr q; rw [h146] at q; cases q)); rcases z with z | z | z; omega; exact n1 z; exact z ((ms1 (by omega) n1).mpr n2)))).trans (by rw [show bb = b by omega, show tc_sgn w kk b = lN w from if_neg (by omega)])), j7, j8⟩))
                ·
                  refine x_iload C dM_readS_173 3 rfl ?_
                  refine x_bipush (v := nI 64) C dM_readS_175 (by decide) ?_
                  refine x_iand C dM_readS_177 ?_
                  refine x_top (tc_and64N (by omega)) ?_
                  refine x_if_leN (tgt := 194) C (by omega) dM_readS_178 (by decide) (fun h178 => ?_) (fun h178 => ?_)
                  ·
                    refine x_lload_n C dM_readS_194 rfl 1 rfl ?_
                    exact x_lret C T rfl dM_readS_195 (Or.inl (⟨_, _, rfl, rfl, ((tc_rS_o j1 (fun z => (by have zb : bb = b := (by omega); rw [zb] at z; have n1 : ¬ (kk = 10 ∧ ¬ b = 0 ∧ ¬ b = 127) := (fun q => (by have q := k2.mpr q; rw [h151] at q; cases q)); have n2 : ¬ (1 < kk ∧ ((b = 0 ∧ bf % 128 / 64 * 64 = 0) ∨ (b = 127 ∧ bf % 128 / 64 * 64 = 64))) := (fun q => (by have q := k1.mpr q; rw [h146] at q; cases q)); rcases z with z | z | z; omega; exact n1 z; exact z ((ms1 (by omega) n1).mpr n2)))).trans (by rw [show bb = b by omega, show tc_sgn w kk b = lN w from if_neg (by omega)])), j7, j8⟩))
                  ·
                    refine x_lload_n C dM_readS_181 rfl 1 rfl ?_
                    refine x_ldc2 (v := (-1)) C dM_readS_182 klM_180 ?_
                    refine x_bipush (v := nI 7) C dM_readS_185 (by decide) ?_
                    refine x_iload_n C dM_readS_187 rfl 2 rfl ?_
                    refine x_imulN C dM_readS_188 ?_
                    refine x_lshl (v := (-1) <<< ((nI (7 * kk)).toInt64 &&& 63)) C dM_readS_189 rfl ?_
                    refine x_lor C dM_readS_190 ?_
                    refine x_goto C 195 dM_readS_191 (by decide) ?_
                    exact x_lret C T rfl dM_readS_195 (Or.inl (⟨_, _, rfl, rfl, ((tc_rS_o j1 (fun z => (by have zb : bb = b := (by omega); rw [zb] at z; have n1 : ¬ (kk = 10 ∧ ¬ b = 0 ∧ ¬ b = 127) := (fun q => (by have q := k2.mpr q; rw [h151] at q; cases q)); have n2 : ¬ (1 < kk ∧ ((b = 0 ∧ bf % 128 / 64 * 64 = 0) ∨ (b = 127 ∧ bf % 128 / 64 * 64 = 64))) := (fun q => (by have q := k1.mpr q; rw [h146] at q; cases q)); rcases z with z | z | z; omega; exact n1 z; exact z ((ms1 (by omega) n1).mpr n2)))).trans (by rw [show bb = b by omega, show tc_sgn w kk b = lN w ||| ((-1) <<< ((nI (7 * kk)).toInt64 &&& 63)) from if_pos (by omega)])), j7, j8⟩))
              ·
                refine x_aload_n C dM_readS_154 rfl 0 rfl ?_
                refine x_iconst (v := nI 2) C dM_readS_155 (by decide) ?_
                refine x_aload_n C dM_readS_156 rfl 0 rfl ?_
                refine x_get C fgM_168 0 rfl rfl dM_readS_157 ?_
                refine x_iconst (v := nI 1) C dM_readS_160 (by decide) ?_
                refine x_isubN C (by omega) dM_readS_161 ?_
                refine x_callV C (c_M_wrong D mm cmm th iu ki mu fs ss tx us te my mo mz mi iz ma 0 none od ar lw oc sk sa sl (pp + kk) re rd co dq bo lc 2 (pp + kk - 1) (by decide)) kbM_171 kcM_171 [0, 1, 2, 3, 4, 5, 6, 7, 8, 9, 10, 11, 12, 13, 14, 15, 16, 17, 18, 19, 20] [] [0, 1, 2, 3, 4, 5, 6, 7, 8, 9, 10, 11, 12, 13, 14, 15, 16, 17, 18, 19] ([]) rfl rfl (by decide) (by decide) (by decide) rfl 0 rfl rfl ⟨Nat.le_of_ble_eq_true rfl, Nat.le_of_ble_eq_true rfl⟩ ⟨Nat.le_of_ble_eq_true rfl, Nat.le_of_ble_eq_true rfl⟩ [] rfl rfl (Nat.le_of_ble_eq_true rfl) dM_readS_162 (fun rv ru hw => ?_)
                obtain ⟨rfl, rfl⟩ := hw
                show xk_Go K D 8 0 0 (tc_wM mm cmm th iu ki mu fs ss tx us te my mo mz mi iz ma (tc_f1 0 2) (tc_f2 0 none (pp + kk - 1)) od ar lw oc sk sa sl (pp + kk) re rd co dq bo lc) [(0, .ref (mm 0)), (1, .long (lN w)), (3, .int (nI kk)), (4, .int (nI b)), (5, .int (nI bf)), (6, .int (xk_bZ idl)), (7, .int (xk_bZ bey))] 165 [.int (nI 0)]
                show xk_Go K D 8 0 0 (tc_wM mm cmm th iu ki mu fs ss tx us te my mo mz mi iz ma 2 (some (pp + kk - 1)) od ar lw oc sk sa sl (pp + kk) re rd co dq bo lc) [(0, .ref (mm 0)), (1, .long (lN w)), (3, .int (nI kk)), (4, .int (nI b)), (5, .int (nI bf)), (6, .int (xk_bZ idl)), (7, .int (xk_bZ bey))] 165 [.int (nI 0)]
                refine x_i2l (v := 0) C dM_readS_165 (by decide) ?_
                exact x_lret C T rfl dM_readS_166 (Or.inr (⟨_, _, 2, (pp + kk - 1), rfl, rfl, (tc_rS_f j1 (by first | exact Or.inl (by omega) | (have zi := k1.mp h146; have zb : bb = b := (by omega); rw [zb]; by_cases z : (kk = 10 ∧ ¬ b = 0 ∧ ¬ b = 127); exact Or.inr (Or.inl z); exact Or.inr (Or.inr (fun q => (ms1 (by omega) z).mp q zi))) | (have zi := k2.mp h151; have zb : bb = b := (by omega); rw [zb]; exact Or.inr (Or.inl zi)))), (by decide), j7, j8⟩))
      refine x_icmp_neN (tgt := 127) C (by omega) (by decide) dM_readS_108 (by decide) (fun h108 => ?_) (fun h108 => ?_)
      ·
        refine x_iconst (v := nI 0) C dM_readS_127 (by decide) ?_
        refine x_istore C [(7, .int (nI 0)), (0, .ref (mm 0)), (1, .long (lN w)), (3, .int (nI kk)), (4, .int (nI b)), (5, .int (nI bf)), (6, .int (xk_bZ idl))] dM_readS_128 (by decide) rfl ?_
        exact x_sub [1, 2, 3, 4, 5, 6, 0] rfl (jn130 false (by simp; omega))
      ·
        refine x_iload C dM_readS_111 3 rfl ?_
        refine x_if_eqN (tgt := 127) C (by omega) dM_readS_113 (by decide) (fun h113 => ?_) (fun h113 => ?_)
        ·
          refine x_iconst (v := nI 0) C dM_readS_127 (by decide) ?_
          refine x_istore C [(7, .int (nI 0)), (0, .ref (mm 0)), (1, .long (lN w)), (3, .int (nI kk)), (4, .int (nI b)), (5, .int (nI bf)), (6, .int (xk_bZ idl))] dM_readS_128 (by decide) rfl ?_
          exact x_sub [1, 2, 3, 4, 5, 6, 0] rfl (jn130 false (by simp; omega))
        ·
          refine x_iload C dM_readS_116 3 rfl ?_
          refine x_bipush (v := nI 127) C dM_readS_118 (by decide) ?_
          refine x_icmp_eqN (tgt := 127) C (by omega) (by decide) dM_readS_120 (by decide) (fun h120 => ?_) (fun h120 => ?_)
          ·
            refine x_iconst (v := nI 0) C dM_readS_127 (by decide) ?_
            refine x_istore C [(7, .int (nI 0)), (0, .ref (mm 0)), (1, .long (lN w)), (3, .int (nI kk)), (4, .int (nI b)), (5, .int (nI bf)), (6, .int (xk_bZ idl))] dM_readS_128 (by decide) rfl ?_
            exact x_sub [1, 2, 3, 4, 5, 6, 0] rfl (jn130 false (by simp; omega))
          ·
            refine x_iconst (v := nI 1) C dM_readS_123 (by decide) ?_
            refine x_goto C 128 dM_readS_124 (by decide) ?_
            refine x_istore C [(7, .int (nI 1)), (0, .ref (mm 0)), (1, .long (lN w)), (3, .int (nI kk)), (4, .int (nI b)), (5, .int (nI bf)), (6, .int (xk_bZ idl))] dM_readS_128 (by decide) rfl ?_
            exact x_sub [1, 2, 3, 4, 5, 6, 0] rfl (jn130 true (by simp; omega))
    refine x_icmp_leN (tgt := 102) C (by omega) (by decide) dM_readS_67 (by decide) (fun h67 => ?_) (fun h67 => ?_)
    ·
      refine x_iconst (v := nI 0) C dM_readS_102 (by decide) ?_
      refine x_istore C [(6, .int (nI 0)), (0, .ref (mm 0)), (1, .long (lN w)), (3, .int (nI kk)), (4, .int (nI b)), (5, .int (nI bf))] dM_readS_103 (by decide) rfl ?_
      exact x_sub [1, 2, 3, 4, 5, 0] rfl (jn105 false (by simp; omega))
    ·
      refine x_iload C dM_readS_70 3 rfl ?_
      refine x_if_neN (tgt := 83) C (by omega) dM_readS_72 (by decide) (fun h72 => ?_) (fun h72 => ?_)
      ·
        refine x_iload C dM_readS_83 3 rfl ?_
        refine x_bipush (v := nI 127) C dM_readS_85 (by decide) ?_
        refine x_icmp_neN (tgt := 102) C (by omega) (by decide) dM_readS_87 (by decide) (fun h87 => ?_) (fun h87 => ?_)
        ·
          refine x_iconst (v := nI 0) C dM_readS_102 (by decide) ?_
          refine x_istore C [(6, .int (nI 0)), (0, .ref (mm 0)), (1, .long (lN w)), (3, .int (nI kk)), (4, .int (nI b)), (5, .int (nI bf))] dM_readS_103 (by decide) rfl ?_
          exact x_sub [1, 2, 3, 4, 5, 0] rfl (jn105 false (by simp; omega))
        ·
          refine x_iload C dM_readS_90 4 rfl ?_
          refine x_bipush (v := nI 64) C dM_readS_92 (by decide) ?_
          refine x_iand C dM_readS_94 ?_
          refine x_top (tc_and64N (by omega)) ?_
          refine x_if_leN (tgt := 102) C (by omega) dM_readS_95 (by decide) (fun h95 => ?_) (fun h95 => ?_)
          ·
            refine x_iconst (v := nI 0) C dM_readS_102 (by decide) ?_
            refine x_istore C [(6, .int (nI 0)), (0, .ref (mm 0)), (1, .long (lN w)), (3, .int (nI kk)), (4, .int (nI b)), (5, .int (nI bf))] dM_readS_103 (by decide) rfl ?_
            exact x_sub [1, 2, 3, 4, 5, 0] rfl (jn105 false (by simp; omega))
          ·
            refine x_iconst (v := nI 1) C dM_readS_98 (by decide) ?_
            refine x_goto C 103 dM_readS_99 (by decide) ?_
            refine x_istore C [(6, .int (nI 1)), (0, .ref (mm 0)), (1, .long (lN w)), (3, .int (nI kk)), (4, .int (nI b)), (5, .int (nI bf))] dM_readS_103 (by decide) rfl ?_
            exact x_sub [1, 2, 3, 4, 5, 0] rfl (jn105 true (by simp; omega))
      ·
        refine x_iload C dM_readS_75 4 rfl ?_
        refine x_bipush (v := nI 64) C dM_readS_77 (by decide) ?_
        refine x_iand C dM_readS_79 ?_
        refine x_top (tc_and64N (by omega)) ?_
        refine x_if_eqN (tgt := 98) C (by omega) dM_readS_80 (by decide) (fun h80 => ?_) (fun h80 => ?_)
        ·
          refine x_iconst (v := nI 1) C dM_readS_98 (by decide) ?_
          refine x_goto C 103 dM_readS_99 (by decide) ?_
          refine x_istore C [(6, .int (nI 1)), (0, .ref (mm 0)), (1, .long (lN w)), (3, .int (nI kk)), (4, .int (nI b)), (5, .int (nI bf))] dM_readS_103 (by decide) rfl ?_
          exact x_sub [1, 2, 3, 4, 5, 0] rfl (jn105 true (by simp; omega))
        ·
          refine x_iload C dM_readS_83 3 rfl ?_
          refine x_bipush (v := nI 127) C dM_readS_85 (by decide) ?_
          refine x_icmp_neN (tgt := 102) C (by omega) (by decide) dM_readS_87 (by decide) (fun h87 => ?_) (fun h87 => ?_)
          ·
            refine x_iconst (v := nI 0) C dM_readS_102 (by decide) ?_
            refine x_istore C [(6, .int (nI 0)), (0, .ref (mm 0)), (1, .long (lN w)), (3, .int (nI kk)), (4, .int (nI b)), (5, .int (nI bf))] dM_readS_103 (by decide) rfl ?_
            exact x_sub [1, 2, 3, 4, 5, 0] rfl (jn105 false (by simp; omega))
          ·
            refine x_iload C dM_readS_90 4 rfl ?_
            refine x_bipush (v := nI 64) C dM_readS_92 (by decide) ?_
            refine x_iand C dM_readS_94 ?_
            refine x_top (tc_and64N (by omega)) ?_
            refine x_if_leN (tgt := 102) C (by omega) dM_readS_95 (by decide) (fun h95 => ?_) (fun h95 => ?_)
            ·
              refine x_iconst (v := nI 0) C dM_readS_102 (by decide) ?_
              refine x_istore C [(6, .int (nI 0)), (0, .ref (mm 0)), (1, .long (lN w)), (3, .int (nI kk)), (4, .int (nI b)), (5, .int (nI bf))] dM_readS_103 (by decide) rfl ?_
              exact x_sub [1, 2, 3, 4, 5, 0] rfl (jn105 false (by simp; omega))
            ·
              refine x_iconst (v := nI 1) C dM_readS_98 (by decide) ?_
              refine x_goto C 103 dM_readS_99 (by decide) ?_
              refine x_istore C [(6, .int (nI 1)), (0, .ref (mm 0)), (1, .long (lN w)), (3, .int (nI kk)), (4, .int (nI b)), (5, .int (nI bf))] dM_readS_103 (by decide) rfl ?_
              exact x_sub [1, 2, 3, 4, 5, 0] rfl (jn105 true (by simp; omega))
  refine x_lconst (v := 0) C dM_readS_0 (by decide) ?_
  refine x_lstore_n C [(1, .long 0), (0, .ref (mm 0))] dM_readS_1 rfl (by decide) rfl ?_
  refine x_iconst (v := nI 0) C dM_readS_2 (by decide) ?_
  refine x_istore_n C [(3, .int (nI 0)), (1, .long 0), (0, .ref (mm 0))] dM_readS_3 rfl (by decide) rfl ?_
  refine x_sipush (v := nI 128) C dM_readS_4 (by decide) ?_
  refine x_istore C [(4, .int (nI 128)), (3, .int (nI 0)), (1, .long 0), (0, .ref (mm 0))] dM_readS_7 (by decide) rfl ?_
  refine x_iconst (v := nI 0) C dM_readS_9 (by decide) ?_
  refine x_istore C [(5, .int (nI 0)), (4, .int (nI 128)), (3, .int (nI 0)), (1, .long 0), (0, .ref (mm 0))] dM_readS_10 (by decide) rfl ?_
  refine x_iload C dM_readS_12 1 rfl ?_
  refine x_bipush (v := nI 127) C dM_readS_14 (by decide) ?_
  refine x_icmp_le (tgt := 65) C dM_readS_16 (by decide) (fun h => absurd h (by decide)) (fun _ => ?_)
  refine x_iload_n C dM_readS_19 rfl 2 rfl ?_
  refine x_bipush (v := nI 10) C dM_readS_20 (by decide) ?_
  refine x_icmp_ge (tgt := 65) C dM_readS_22 (by decide) (fun h => absurd h (by decide)) (fun _ => ?_)
  have lp25 : ∀ (zc : Nat) (v : Nat) (k : Nat) (bl : Nat), (10 - k) < zc → (k < 10) → (tc_scan (tc_B mi) iz 10 pp 0 0 = tc_scan (tc_B mi) iz (10 - k) (pp + k) v k) → (v < 2 ^ (7 * k)) → (pp + k ≤ iz) → (0 < k → (bl % 128 / 64 * 64 = 64 ↔ 2 ^ (7 * k - 1) ≤ v)) → (bl < 256) → xk_Go K D 8 0 0 (tc_wM mm cmm th iu ki mu fs ss tx us te my mo mz mi iz ma 0 none od ar lw oc sk sa sl (pp + k) re rd co dq bo lc) [(0, .ref (mm 0)), (1, .long (lN v)), (3, .int (nI k)), (4, .int (nI bl))] 25 [] := by
    intro zc
    induction zc with
    | zero => intro v k bl hm; exact absurd hm (Nat.not_lt_zero _)
    | succ zc ih25 =>
      intro v k bl hm e1 e2 e3 e4 e5 e6
      have hm : 10 - k = (9 - k) + 1 := by omega
      refine x_iload C dM_readS_25 3 rfl ?_
      refine x_istore C [(5, .int (nI bl)), (0, .ref (mm 0)), (1, .long (lN v)), (3, .int (nI k)), (4, .int (nI bl))] dM_readS_27 (by decide) rfl ?_
      refine x_aload_n C dM_readS_29 rfl 1 rfl ?_
      refine x_callV C (c_M_next D mm cmm th iu ki mu fs ss tx us te my mo mz mi iz ma 0 none od ar lw oc sk sa sl (pp + k) re rd co dq bo lc (by omega) y2 (by decide)) kbM_175 kcM_175 [0, 1, 2, 3, 4, 5, 6, 7, 8, 9, 10, 11, 12, 13, 14, 15, 16, 17, 18, 19, 20] [] [0, 1, 2, 3, 4, 5, 6, 7, 8, 9, 10, 11, 12, 13, 14, 15, 16, 17, 18, 19] ([]) rfl rfl (by decide) (by decide) (by decide) rfl 0 rfl rfl ⟨Nat.le_of_ble_eq_true rfl, Nat.le_of_ble_eq_true rfl⟩ ⟨Nat.le_of_ble_eq_true rfl, Nat.le_of_ble_eq_true rfl⟩ [] rfl rfl (Nat.le_of_ble_eq_true rfl) dM_readS_30 (fun rv ru hw => ?_)
      rcases hw with ⟨rfl, rfl, g1t⟩ | ⟨rfl, rfl, g1t, g2t⟩ | ⟨rfl, rfl, g1t, g2t⟩
      ·
        show xk_Go K D 8 0 0 (tc_wM mm cmm th iu ki mu fs ss tx us te my mo mz mi iz ma 0 none od ar lw oc sk sa sl (pp + k) re rd co dq bo lc) [(5, .int (nI bl)), (0, .ref (mm 0)), (1, .long (lN v)), (3, .int (nI k)), (4, .int (nI bl))] 33 [.int (nI 0)]
        exact absurd g1t (by decide)
      ·
        show xk_Go K D 8 0 0 (tc_wM mm cmm th iu ki mu fs ss tx us te my mo mz mi iz ma 1 (some iz) od ar lw oc sk sa sl (pp + k) re rd co dq bo lc) [(5, .int (nI bl)), (0, .ref (mm 0)), (1, .long (lN v)), (3, .int (nI k)), (4, .int (nI bl))] 33 [.int (nI 0)]
        refine x_istore C [(4, .int (nI 0)), (5, .int (nI bl)), (0, .ref (mm 0)), (1, .long (lN v)), (3, .int (nI k))] dM_readS_33 (by decide) rfl ?_
        refine x_lload_n C dM_readS_35 rfl 3 rfl ?_
        refine x_iload_n C dM_readS_36 rfl 4 rfl ?_
        refine x_bipush (v := nI 10) C dM_readS_37 (by decide) ?_
        refine x_icmp_geN (tgt := 56) C (by omega) (by decide) dM_readS_39 (by decide) (fun h39 => ?_) (fun h39 => ?_)
        ·
          exact absurd h39 (by omega)
        ·
          refine x_iload C dM_readS_42 0 rfl ?_
          refine x_bipush (v := nI 127) C dM_readS_44 (by decide) ?_
          refine x_iand C dM_readS_46 ?_
          refine x_top (y := nI 0) (by decide) ?_
          refine x_i2l (v := 0) C dM_readS_47 (by decide) ?_
          refine x_bipush (v := nI 7) C dM_readS_48 (by decide) ?_
          refine x_iload_n C dM_readS_50 rfl 4 rfl ?_
          refine x_imulN C dM_readS_51 ?_
          refine x_lshl (v := 0 <<< ((nI (7 * k)).toInt64 &&& 63)) C dM_readS_52 rfl ?_
          refine x_goto C 57 dM_readS_53 (by decide) ?_
          refine x_lor C dM_readS_57 ?_
          refine x_topl (tc_grp_or (g := 0) (by omega) e3) ?_
          have e3b := tc_grp_lt (g := 0) e3 (by omega)
          refine x_lstore_n C [(1, .long (lN (v + (0) * 2 ^ (7 * k)))), (4, .int (nI 0)), (5, .int (nI bl)), (0, .ref (mm 0)), (3, .int (nI k))] dM_readS_58 rfl (by decide) rfl ?_
          refine x_iinc (q := 4) C (nI (k + 1)) [(3, .int (nI (k + 1))), (1, .long (lN (v + (0) * 2 ^ (7 * k)))), (4, .int (nI 0)), (5, .int (nI bl)), (0, .ref (mm 0))] dM_readS_59 rfl (nI_add k 1) (by decide) rfl ?_
          refine x_goto C 12 dM_readS_62 (by decide) ?_
          refine x_iload C dM_readS_12 2 rfl ?_
          refine x_bipush (v := nI 127) C dM_readS_14 (by decide) ?_
          refine x_icmp_le (tgt := 65) C dM_readS_16 (by decide) (fun _ => ?_) (fun h => absurd (by decide) h)
          exact x_sub [4, 1, 0, 2, 3] rfl (jn65 (v + (0) * 2 ^ (7 * k)) (k + 1) 0 (pp + k) 1 (some iz) 0 true bl (e2.trans (by rw [hm, tc_scan_e g2t]; simp)) (Or.inl ⟨rfl, rfl, rfl⟩) (by omega) e3b (fun z => by cases z) e6)
      ·
        show xk_Go K D 8 0 0 (tc_wM mm cmm th iu ki mu fs ss tx us te my mo mz mi iz ma 0 none od ar lw oc sk sa sl ((pp + k) + 1) re rd co dq bo lc) [(5, .int (nI bl)), (0, .ref (mm 0)), (1, .long (lN v)), (3, .int (nI k)), (4, .int (nI bl))] 33 [.int (nI (mi (pp + k) % 256))]
        refine x_istore C [(4, .int (nI (mi (pp + k) % 256))), (5, .int (nI bl)), (0, .ref (mm 0)), (1, .long (lN v)), (3, .int (nI k))] dM_readS_33 (by decide) rfl ?_
        refine x_lload_n C dM_readS_35 rfl 3 rfl ?_
        refine x_iload_n C dM_readS_36 rfl 4 rfl ?_
        refine x_bipush (v := nI 10) C dM_readS_37 (by decide) ?_
        refine x_icmp_geN (tgt := 56) C (by omega) (by decide) dM_readS_39 (by decide) (fun h39 => ?_) (fun h39 => ?_)
        ·
          exact absurd h39 (by omega)
        ·
          refine x_iload C dM_readS_42 0 rfl ?_
          refine x_bipush (v := nI 127) C dM_readS_44 (by decide) ?_
          refine x_iand C dM_readS_46 ?_
          refine x_top (tc_and127N (by omega)) ?_
          refine x_i2l (v := lN ((mi (pp + k) % 256) % 128)) C dM_readS_47 (nI_l (by omega)) ?_
          refine x_bipush (v := nI 7) C dM_readS_48 (by decide) ?_
          refine x_iload_n C dM_readS_50 rfl 4 rfl ?_
          refine x_imulN C dM_readS_51 ?_
          refine x_lshl (v := (lN ((mi (pp + k) % 256) % 128)) <<< ((nI (7 * k)).toInt64 &&& 63)) C dM_readS_52 rfl ?_
          refine x_goto C 57 dM_readS_53 (by decide) ?_
          refine x_lor C dM_readS_57 ?_
          refine x_topl (tc_grp_or (g := (mi (pp + k) % 256) % 128) (by omega) e3) ?_
          have e3b := tc_grp_lt (g := (mi (pp + k) % 256) % 128) e3 (by omega)
          refine x_lstore_n C [(1, .long (lN (v + ((mi (pp + k) % 256) % 128) * 2 ^ (7 * k)))), (4, .int (nI (mi (pp + k) % 256))), (5, .int (nI bl)), (0, .ref (mm 0)), (3, .int (nI k))] dM_readS_58 rfl (by decide) rfl ?_
          refine x_iinc (q := 4) C (nI (k + 1)) [(3, .int (nI (k + 1))), (1, .long (lN (v + ((mi (pp + k) % 256) % 128) * 2 ^ (7 * k)))), (4, .int (nI (mi (pp + k) % 256))), (5, .int (nI bl)), (0, .ref (mm 0))] dM_readS_59 rfl (nI_add k 1) (by decide) rfl ?_
          refine x_goto C 12 dM_readS_62 (by decide) ?_
          refine x_iload C dM_readS_12 2 rfl ?_
          refine x_bipush (v := nI 127) C dM_readS_14 (by decide) ?_
          refine x_icmp_leN (tgt := 65) C (by omega) (by decide) dM_readS_16 (by decide) (fun h16 => ?_) (fun h16 => ?_)
          ·
            have hbb : mi (pp + k) % 256 < 128 := by omega
            exact x_sub [4, 1, 0, 2, 3] rfl (jn65 (v + ((mi (pp + k) % 256) % 128) * 2 ^ (7 * k)) (k + 1) (mi (pp + k) % 256) ((pp + k) + 1) 0 none (mi (pp + k) % 256) false bl (e2.trans (by rw [hm, tc_scan_l (Nat.not_le.mpr g2t) hbb]; simp only [tc_B]; rw [Nat.mod_eq_of_lt hbb])) (Or.inr ⟨rfl, rfl, rfl, rfl, Or.inl ⟨rfl, hbb⟩⟩) (by omega) e3b (fun _ _ => ⟨v, e3, by rw [Nat.mod_eq_of_lt hbb]; rfl, fun z => e5 (by omega)⟩) e6)
          ·
            refine x_iload_n C dM_readS_19 rfl 0 rfl ?_
            refine x_bipush (v := nI 10) C dM_readS_20 (by decide) ?_
            refine x_icmp_geN (tgt := 65) C (by omega) (by decide) dM_readS_22 (by decide) (fun h22 => ?_) (fun h22 => ?_)
            ·
              have hbb : ¬ mi (pp + k) % 256 < 128 := by omega
              exact x_sub [4, 1, 0, 2, 3] rfl (jn65 (v + ((mi (pp + k) % 256) % 128) * 2 ^ (7 * k)) (k + 1) (mi (pp + k) % 256) ((pp + k) + 1) 0 none 128 false bl (e2.trans (by rw [hm, tc_scan_m (Nat.not_le.mpr g2t) hbb, show 9 - k = 0 by omega]; rfl)) (Or.inr ⟨rfl, rfl, rfl, rfl, Or.inr ⟨by omega, rfl, by omega⟩⟩) (by omega) e3b (fun _ z => absurd z hbb) e6)
            ·
              have hbb : ¬ mi (pp + k) % 256 < 128 := by omega
              exact x_sub [4, 1, 0, 2] rfl (ih25 (v + (mi (pp + k) % 256) % 128 * 2 ^ (7 * k)) (k + 1) (mi (pp + k) % 256) (by omega) (by omega) (e2.trans (by rw [hm, tc_scan_m (Nat.not_le.mpr g2t) hbb, show 10 - (k + 1) = 9 - k by omega]; rfl)) e3b (by omega) (fun _ => tc_bit7 e3) (by omega))
  exact x_sub [4, 3, 2, 1] rfl (lp25 _ 0 0 128 (Nat.lt_succ_self _) (by decide) rfl (by decide) (by omega) (fun z => absurd z (by decide)) (by decide))
