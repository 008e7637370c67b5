set_option maxHeartbeats 4000000 in
set_option maxRecDepth 100000 in
/-- thrown -/
theorem c_M_thrown (D : va_G) (mm : Nat → Nat) (cmm : Nat → ClassId) (th : Nat) (iu : Nat → Bool) (ki : Nat → Nat) (mu : Nat → Int64) (fs : Nat → Option Nat) (ss : Nat → Option Nat) (tx : Nat → Nat) (us : Nat) (te : Nat → Nat) (my : Nat) (mo : Nat → Nat) (mz : Nat) (mi : Nat → Nat) (iz : Nat) (ma : Nat) (mf : Nat) (mp : Option Nat) (od : Nat → Nat) (ar : Nat → Option Nat) (lw : Nat → Nat) (oc : Nat) (sk : Nat → Nat) (sa : Nat → Option Nat) (sl : Nat → Nat) (pp : Nat) (re : Nat → Nat) (rd : Nat) (co : Nat → Nat) (dq : Nat → Nat) (bo : Nat → Nat) (lc : Nat → Nat) : xk_Ct yM_thrown cM_thrown 1 (some .int) { frames := 0, cells := 0, slots := 0, locals := 0 } D (tc_tM cmm) [.ref (mm 0)] (tc_wM mm cmm th iu ki mu fs ss tx us te my mo mz mi iz ma mf mp od ar lw oc sk sa sl pp re rd co dq bo lc) (fun rv ru => (rv = some (.int (nI th)) ∧ ru = tc_wM mm cmm th iu ki mu fs ss tx us te my mo mz mi iz ma mf mp od ar lw oc sk sa sl pp re rd co dq bo lc)) := by
  refine xk_enter (by decide) (Nat.le_of_ble_eq_true rfl) (fun K C T hin => ?_)
  show xk_Go K D 1 0 0 (tc_wM mm cmm th iu ki mu fs ss tx us te my mo mz mi iz ma mf mp od ar lw oc sk sa sl pp re rd co dq bo lc) [(0, .ref (mm 0))] 0 []
  refine x_aload_n C dM_thrown_0 rfl 0 rfl ?_
  refine x_get C fgM_77 0 rfl rfl dM_thrown_1 ?_
  exact x_iret C T .int rfl rfl dM_thrown_4 (⟨rfl, rfl⟩)
set_option maxHeartbeats 4000000 in
set_option maxRecDepth 100000 in
/-- takes -/
theorem c_M_takes (D : va_G) (kd : Nat) (y1 : kd < 2 ^ 31) : xk_Ct yM_takes cM_takes 1 (some .int) { frames := 0, cells := 0, slots := 0, locals := 0 } D ([]) [.int (nI kd)] ([]) (fun rv ru => (rv = some (.int (nI (tc_tk kd))) ∧ ru = [])) := by
  refine xk_enter (by decide) (Nat.le_of_ble_eq_true rfl) (fun K C T hin => ?_)
  show xk_Go K D 1 0 0 ([]) [(0, .int (nI kd))] 0 []
  refine x_iload_n C dM_takes_0 rfl 0 rfl ?_
  refine x_iconst (v := nI 2) C dM_takes_1 (by decide) ?_
  refine x_icmp_neN (tgt := 9) C (by omega) (by decide) dM_takes_2 (by decide) (fun h2 => ?_) (fun h2 => ?_)
  ·
    refine x_iload_n C dM_takes_9 rfl 0 rfl ?_
    refine x_iconst (v := nI 1) C dM_takes_10 (by decide) ?_
    refine x_icmp_eqN (tgt := 24) C (by omega) (by decide) dM_takes_11 (by decide) (fun h11 => ?_) (fun h11 => ?_)
    ·
      refine x_iconst (v := nI 1) C dM_takes_24 (by decide) ?_
      refine x_goto C 29 dM_takes_25 (by decide) ?_
      exact x_iret C T .int rfl rfl dM_takes_29 (⟨by rw [h11]; rfl, rfl⟩)
    ·
      refine x_iload_n C dM_takes_14 rfl 0 rfl ?_
      refine x_iconst (v := nI 3) C dM_takes_15 (by decide) ?_
      refine x_icmp_eqN (tgt := 24) C (by omega) (by decide) dM_takes_16 (by decide) (fun h16 => ?_) (fun h16 => ?_)
      ·
        refine x_iconst (v := nI 1) C dM_takes_24 (by decide) ?_
        refine x_goto C 29 dM_takes_25 (by decide) ?_
        exact x_iret C T .int rfl rfl dM_takes_29 (⟨by rw [h16]; rfl, rfl⟩)
      ·
        refine x_iload_n C dM_takes_19 rfl 0 rfl ?_
        refine x_iconst (v := nI 4) C dM_takes_20 (by decide) ?_
        refine x_icmp_neN (tgt := 28) C (by omega) (by decide) dM_takes_21 (by decide) (fun h21 => ?_) (fun h21 => ?_)
        ·
          refine x_iconst (v := nI 0) C dM_takes_28 (by decide) ?_
          exact x_iret C T .int rfl rfl dM_takes_29 (⟨by unfold tc_tk; rw [if_neg h2, if_neg (by omega)], rfl⟩)
        ·
          refine x_iconst (v := nI 1) C dM_takes_24 (by decide) ?_
          refine x_goto C 29 dM_takes_25 (by decide) ?_
          exact x_iret C T .int rfl rfl dM_takes_29 (⟨by rw [h21]; rfl, rfl⟩)
  ·
    refine x_iconst (v := nI 2) C dM_takes_5 (by decide) ?_
    refine x_goto C 29 dM_takes_6 (by decide) ?_
    exact x_iret C T .int rfl rfl dM_takes_29 (⟨by rw [h2]; rfl, rfl⟩)
set_option maxHeartbeats 4000000 in
set_option maxRecDepth 100000 in
/-- free -/
theorem c_M_free (D : va_G) (mm : Nat → Nat) (cmm : Nat → ClassId) (th : Nat) (iu : Nat → Bool) (ki : Nat → Nat) (mu : Nat → Int64) (fs : Nat → Option Nat) (ss : Nat → Option Nat) (tx : Nat → Nat) (us : Nat) (te : Nat → Nat) (my : Nat) (mo : Nat → Nat) (mz : Nat) (mi : Nat → Nat) (iz : Nat) (ma : Nat) (mf : Nat) (mp : Option Nat) (od : Nat → Nat) (ar : Nat → Option Nat) (lw : Nat → Nat) (oc : Nat) (sk : Nat → Nat) (sa : Nat → Option Nat) (sl : Nat → Nat) (pp : Nat) (re : Nat → Nat) (rd : Nat) (co : Nat → Nat) (dq : Nat → Nat) (bo : Nat → Nat) (lc : Nat → Nat) (k0 : Nat) (y1 : k0 < 200) (y2 : iu k0 = false) : xk_Ct yM_free cM_free 2 (some .int) { frames := 0, cells := 0, slots := 0, locals := 0 } D (tc_tM cmm) [.ref (mm 0)] (tc_wM mm cmm th iu ki mu fs ss tx us te my mo mz mi iz ma mf mp od ar lw oc sk sa sl pp re rd co dq bo lc) (fun rv ru => (∃ (n : Nat), rv = some (.int (nI n)) ∧ ru = tc_wM mm cmm th iu ki mu fs ss tx us te my mo mz mi iz ma mf mp od ar lw oc sk sa sl pp re rd co dq bo lc ∧ (n < 200) ∧ (iu n = false))) := by
  refine xk_enter (by decide) (Nat.le_of_ble_eq_true rfl) (fun K C T hin => ?_)
  show xk_Go K D 2 0 0 (tc_wM mm cmm th iu ki mu fs ss tx us te my mo mz mi iz ma mf mp od ar lw oc sk sa sl pp re rd co dq bo lc) [(0, .ref (mm 0))] 0 []
  refine x_iconst (v := nI 0) C dM_free_0 (by decide) ?_
  refine x_istore_n C [(1, .int (nI 0)), (0, .ref (mm 0))] dM_free_1 rfl (by decide) rfl ?_
  have lp2 : ∀ (zc : Nat) (n : Nat), (k0 - n) < zc → (n ≤ k0) → xk_Go K D 2 0 0 (tc_wM mm cmm th iu ki mu fs ss tx us te my mo mz mi iz ma mf mp od ar lw oc sk sa sl pp re rd co dq bo lc) [(0, .ref (mm 0)), (1, .int (nI n))] 2 [] := by
    intro zc
    induction zc with
    | zero => intro n hm; exact absurd hm (Nat.not_lt_zero _)
    | succ zc ih2 =>
      intro n hm e1
      refine x_aload_n C dM_free_2 rfl 0 rfl ?_
      refine x_get C fgM_7 0 rfl rfl dM_free_3 ?_
      refine x_iload_n C dM_free_6 rfl 1 rfl ?_
      refine x_zld C 1 0 rfl rfl (by omega) (by decide) dM_free_7 ?_
      show xk_Go K D 2 0 0 (tc_wM mm cmm th iu ki mu fs ss tx us te my mo mz mi iz ma mf mp od ar lw oc sk sa sl pp re rd co dq bo lc) [(0, .ref (mm 0)), (1, .int (nI n))] 8 [.int (xk_bZ (iu n))]
      refine x_if_eqB (tgt := 17) C dM_free_8 (by decide) (fun h8 => ?_) (fun h8 => ?_)
      ·
        refine x_iload_n C dM_free_17 rfl 1 rfl ?_
        exact x_iret C T .int rfl rfl dM_free_18 (⟨n, rfl, rfl, (by omega), h8⟩)
      ·
        refine x_iinc (q := 1) C (nI (n + 1)) [(1, .int (nI (n + 1))), (0, .ref (mm 0))] dM_free_11 rfl (nI_add n 1) (by decide) rfl ?_
        refine x_goto C 2 dM_free_14 (by decide) ?_
        exact x_sub [1, 0] rfl (ih2 (n + 1) (by have : n ≠ k0 := (fun z => by rw [z, y2] at h8; cases h8); omega) (by have : n ≠ k0 := (fun z => by rw [z, y2] at h8; cases h8); omega))
  exact x_sub [1, 0] rfl (lp2 _ 0 (Nat.lt_succ_self _) (Nat.zero_le _))
set_option maxHeartbeats 4000000 in
set_option maxRecDepth 100000 in
/-- make -/
theorem c_M_make (D : va_G) (mm : Nat → Nat) (cmm : Nat → ClassId) (th : Nat) (iu : Nat → Bool) (ki : Nat → Nat) (mu : Nat → Int64) (fs : Nat → Option Nat) (ss : Nat → Option Nat) (tx : Nat → Nat) (us : Nat) (te : Nat → Nat) (my : Nat) (mo : Nat → Nat) (mz : Nat) (mi : Nat → Nat) (iz : Nat) (ma : Nat) (mf : Nat) (mp : Option Nat) (od : Nat → Nat) (ar : Nat → Option Nat) (lw : Nat → Nat) (oc : Nat) (sk : Nat → Nat) (sa : Nat → Option Nat) (sl : Nat → Nat) (pp : Nat) (re : Nat → Nat) (rd : Nat) (co : Nat → Nat) (dq : Nat → Nat) (bo : Nat → Nat) (lc : Nat → Nat) (kd : Nat) (x : Int64) (k0 : Nat) (y1 : k0 < 200) (y2 : iu k0 = false) : xk_Ct yM_make cM_make 5 (some .int) { frames := 1, cells := 0, slots := 0, locals := 21 } D (tc_tM cmm) [.ref (mm 0), .int (nI kd), .long x] (tc_wM mm cmm th iu ki mu fs ss tx us te my mo mz mi iz ma mf mp od ar lw oc sk sa sl pp re rd co dq bo lc) (fun rv ru => (∃ (n : Nat), rv = some (.int (nI n)) ∧ ru = tc_wM mm cmm th (va_up iu n true) (va_up ki n kd) (vp_updL mu n x) (va_up fs n none) (va_up ss n none) tx (us + 1) te my mo mz mi iz ma mf mp od ar lw oc sk sa sl pp re rd co dq bo lc ∧ (n < 200) ∧ (iu n = false))) := by
  refine xk_enter (by decide) (Nat.le_of_ble_eq_true rfl) (fun K C T hin => ?_)
  show xk_Go K D 5 0 0 (tc_wM mm cmm th iu ki mu fs ss tx us te my mo mz mi iz ma mf mp od ar lw oc sk sa sl pp re rd co dq bo lc) [(0, .ref (mm 0)), (1, .int (nI kd)), (2, .long x)] 0 []
  refine x_aload_n C dM_make_0 rfl 0 rfl ?_
  refine x_callV C (c_M_free D mm cmm th iu ki mu fs ss tx us te my mo mz mi iz ma mf mp od ar lw oc sk sa sl pp re rd co dq bo lc k0 y1 y2) kbM_80 kcM_80 [0, 1, 2, 3, 4, 5, 6, 7, 8, 9, 10, 11, 12, 13, 14, 15, 16, 17, 18, 19, 20] [] [0, 1, 2, 3, 4, 5, 6, 7, 8, 9, 10, 11, 12, 13, 14, 15, 16, 17, 18, 19] ([]) rfl rfl (by decide) (by decide) (by decide) rfl 0 rfl rfl ⟨Nat.le_of_ble_eq_true rfl, Nat.le_of_ble_eq_true rfl⟩ ⟨Nat.le_of_ble_eq_true rfl, Nat.le_of_ble_eq_true rfl⟩ [] rfl rfl (Nat.le_of_ble_eq_true rfl) dM_make_1 (fun rv ru hw => ?_)
  obtain ⟨n, rfl, rfl, g1, g2⟩ := hw
  show xk_Go K D 5 0 0 (tc_wM mm cmm th iu ki mu fs ss tx us te my mo mz mi iz ma mf mp od ar lw oc sk sa sl pp re rd co dq bo lc) [(0, .ref (mm 0)), (1, .int (nI kd)), (2, .long x)] 4 [.int (nI n)]
  refine x_istore C [(4, .int (nI n)), (0, .ref (mm 0)), (1, .int (nI kd)), (2, .long x)] dM_make_4 (by decide) rfl ?_
  refine x_aload_n C dM_make_6 rfl 1 rfl ?_
  refine x_get C fgM_7 0 rfl rfl dM_make_7 ?_
  refine x_iload C dM_make_10 0 rfl ?_
  refine x_iconst (v := nI 1) C dM_make_12 (by decide) ?_
  refine x_zst C 1 0 (tc_wM mm cmm th (va_up iu n true) ki mu fs ss tx us te my mo mz mi iz ma mf mp od ar lw oc sk sa sl pp re rd co dq bo lc) rfl rfl ((congrArg _ (xk_bZ_nar true)).trans (xk_zA_up iu n true)) rfl (by omega) (by decide) dM_make_13 ?_
  refine x_aload_n C dM_make_14 rfl 1 rfl ?_
  refine x_dup C dM_make_15 rfl ?_
  refine x_get C fgM_84 0 rfl rfl dM_make_16 ?_
  refine x_iconst (v := nI 1) C dM_make_19 (by decide) ?_
  refine x_iaddN C dM_make_20 ?_
  refine x_put C fpM_84 0 (tc_wM mm cmm th (va_up iu n true) ki mu fs ss tx (us + 1) te my mo mz mi iz ma mf mp od ar lw oc sk sa sl pp re rd co dq bo lc) rfl rfl rfl rfl (Nat.le_of_ble_eq_true rfl) dM_make_21 ?_
  refine x_aload_n C dM_make_24 rfl 1 rfl ?_
  refine x_get C fgM_13 0 rfl rfl dM_make_25 ?_
  refine x_iload C dM_make_28 0 rfl ?_
  refine x_iload_n C dM_make_30 rfl 2 rfl ?_
  refine x_ist C 2 1 (tc_wM mm cmm th (va_up iu n true) (va_up ki n kd) mu fs ss tx (us + 1) te my mo mz mi iz ma mf mp od ar lw oc sk sa sl pp re rd co dq bo lc) rfl rfl (xk_nA_up ki n kd) rfl (by omega) (by decide) dM_make_31 ?_
  refine x_aload_n C dM_make_32 rfl 1 rfl ?_
  refine x_get C fgM_17 0 rfl rfl dM_make_33 ?_
  refine x_iload C dM_make_36 0 rfl ?_
  refine x_lload_n C dM_make_38 rfl 3 rfl ?_
  refine x_lst C 3 2 (tc_wM mm cmm th (va_up iu n true) (va_up ki n kd) (vp_updL mu n x) fs ss tx (us + 1) te my mo mz mi iz ma mf mp od ar lw oc sk sa sl pp re rd co dq bo lc) rfl rfl rfl rfl (by omega) (by decide) dM_make_39 ?_
  refine x_aload_n C dM_make_40 rfl 1 rfl ?_
  refine x_get C fgM_21 0 rfl rfl dM_make_41 ?_
  refine x_iload C dM_make_44 0 rfl ?_
  refine x_iconst (v := xk_oI none) C dM_make_46 (by decide) ?_
  refine x_ist C 4 3 (tc_wM mm cmm th (va_up iu n true) (va_up ki n kd) (vp_updL mu n x) (va_up fs n none) ss tx (us + 1) te my mo mz mi iz ma mf mp od ar lw oc sk sa sl pp re rd co dq bo lc) rfl rfl (xk_oA_up fs n none) rfl (by omega) (by decide) dM_make_47 ?_
  refine x_aload_n C dM_make_48 rfl 1 rfl ?_
  refine x_get C fgM_24 0 rfl rfl dM_make_49 ?_
  refine x_iload C dM_make_52 0 rfl ?_
  refine x_iconst (v := xk_oI none) C dM_make_54 (by decide) ?_
  refine x_ist C 5 4 (tc_wM mm cmm th (va_up iu n true) (va_up ki n kd) (vp_updL mu n x) (va_up fs n none) (va_up ss n none) tx (us + 1) te my mo mz mi iz ma mf mp od ar lw oc sk sa sl pp re rd co dq bo lc) rfl rfl (xk_oA_up ss n none) rfl (by omega) (by decide) dM_make_55 ?_
  refine x_iload C dM_make_56 0 rfl ?_
  exact x_iret C T .int rfl rfl dM_make_58 (⟨n, rfl, rfl, g1, g2⟩)
set_option maxHeartbeats 4000000 in
set_option maxRecDepth 100000 in
/-- release -/
theorem c_M_release (D : va_G) (mm : Nat → Nat) (cmm : Nat → ClassId) (th : Nat) (iu : Nat → Bool) (ki : Nat → Nat) (mu : Nat → Int64) (fs : Nat → Option Nat) (ss : Nat → Option Nat) (tx : Nat → Nat) (us : Nat) (te : Nat → Nat) (my : Nat) (mo : Nat → Nat) (mz : Nat) (mi : Nat → Nat) (iz : Nat) (ma : Nat) (mf : Nat) (mp : Option Nat) (od : Nat → Nat) (ar : Nat → Option Nat) (lw : Nat → Nat) (oc : Nat) (sk : Nat → Nat) (sa : Nat → Option Nat) (sl : Nat → Nat) (pp : Nat) (re : Nat → Nat) (rd : Nat) (co : Nat → Nat) (dq : Nat → Nat) (bo : Nat → Nat) (lc : Nat → Nat) (n : Nat) (y1 : n < 200) (y2 : 0 < us) : xk_Ct yM_release cM_release 2 none { frames := 0, cells := 0, slots := 0, locals := 0 } D (tc_tM cmm) [.ref (mm 0), .int (nI n)] (tc_wM mm cmm th iu ki mu fs ss tx us te my mo mz mi iz ma mf mp od ar lw oc sk sa sl pp re rd co dq bo lc) (fun rv ru => (rv = none ∧ ru = tc_wM mm cmm th (va_up iu n false) ki mu fs ss tx (us - 1) te my mo mz mi iz ma mf mp od ar lw oc sk sa sl pp re rd co dq bo lc)) := by
  refine xk_enter (by decide) (Nat.le_of_ble_eq_true rfl) (fun K C T hin => ?_)
  show xk_Go K D 2 0 0 (tc_wM mm cmm th iu ki mu fs ss tx us te my mo mz mi iz ma mf mp od ar lw oc sk sa sl pp re rd co dq bo lc) [(0, .ref (mm 0)), (1, .int (nI n))] 0 []
  refine x_aload_n C dM_release_0 rfl 0 rfl ?_
  refine x_get C fgM_7 0 rfl rfl dM_release_1 ?_
  refine x_iload_n C dM_release_4 rfl 1 rfl ?_
  refine x_iconst (v := nI 0) C dM_release_5 (by decide) ?_
  refine x_zst C 1 0 (tc_wM mm cmm th (va_up iu n false) ki mu fs ss tx us te my mo mz mi iz ma mf mp od ar lw oc sk sa sl pp re rd co dq bo lc) rfl rfl ((congrArg _ (xk_bZ_nar false)).trans (xk_zA_up iu n false)) rfl (by omega) (by decide) dM_release_6 ?_
  refine x_aload_n C dM_release_7 rfl 0 rfl ?_
  refine x_dup C dM_release_8 rfl ?_
  refine x_get C fgM_84 0 rfl rfl dM_release_9 ?_
  refine x_iconst (v := nI 1) C dM_release_12 (by decide) ?_
  refine x_isubN C (by omega) dM_release_13 ?_
  refine x_put C fpM_84 0 (tc_wM mm cmm th (va_up iu n false) ki mu fs ss tx (us - 1) te my mo mz mi iz ma mf mp od ar lw oc sk sa sl pp re rd co dq bo lc) rfl rfl rfl rfl (Nat.le_of_ble_eq_true rfl) dM_release_14 ?_
  exact x_vret C T rfl dM_release_17 (⟨rfl, rfl⟩)
set_option maxHeartbeats 4000000 in
set_option maxRecDepth 100000 in
/-- go -/
theorem c_M_go (D : va_G) (mm : Nat → Nat) (cmm : Nat → ClassId) (th : Nat) (iu : Nat → Bool) (ki : Nat → Nat) (mu : Nat → Int64) (fs : Nat → Option Nat) (ss : Nat → Option Nat) (tx : Nat → Nat) (us : Nat) (te : Nat → Nat) (my : Nat) (mo : Nat → Nat) (mz : Nat) (mi : Nat → Nat) (iz : Nat) (ma : Nat) (mf : Nat) (mp : Option Nat) (od : Nat → Nat) (ar : Nat → Option Nat) (lw : Nat → Nat) (oc : Nat) (sk : Nat → Nat) (sa : Nat → Option Nat) (sl : Nat → Nat) (pp : Nat) (re : Nat → Nat) (rd : Nat) (co : Nat → Nat) (dq : Nat → Nat) (bo : Nat → Nat) (lc : Nat → Nat) (r : Nat) (ids : List Nat) (y1 : tc_Fo fs ss [r] ids) (y2 : ids.length ≤ 200) (y3 : ∀ i ∈ ids, i < 200) (y4 : ∀ i ∈ ids, (tc_kd fs ss i).length = tc_tk (ki i)) (y5 : ∀ i ∈ ids, (∀ v, fs i = some v → v < 200) ∧ ∀ v, ss i = some v → v < 200) : xk_Ct yM_go cM_go 8 none { frames := 0, cells := 0, slots := 0, locals := 0 } D (tc_tM cmm) [.ref (mm 0), .int (nI r)] (tc_wM mm cmm th iu ki mu fs ss tx us te my mo mz mi iz ma mf mp od ar lw oc sk sa sl pp re rd co dq bo lc) (fun rv ru => (∃ (odg : Nat → Nat), ∃ (arg : Nat → Option Nat), ∃ (lwg : Nat → Nat), ∃ (skg : Nat → Nat), ∃ (sag : Nat → Option Nat), ∃ (slg : Nat → Nat), rv = none ∧ ru = tc_wM mm cmm th iu ki mu fs ss tx us te my mo mz mi iz ma mf mp odg arg lwg ids.length skg sag slg pp re rd co dq bo lc ∧ (tc_go ids (tc_E (ids.map (tc_mn ki mu tx))) odg arg lwg))) := by
  refine xk_enter (by decide) (Nat.le_of_ble_eq_true rfl) (fun K C T hin => ?_)
  show xk_Go K D 8 0 0 (tc_wM mm cmm th iu ki mu fs ss tx us te my mo mz mi iz ma mf mp od ar lw oc sk sa sl pp re rd co dq bo lc) [(0, .ref (mm 0)), (1, .int (nI r))] 0 []
  refine x_aload_n C dM_go_0 rfl 0 rfl ?_
  refine x_iconst (v := nI 0) C dM_go_1 (by decide) ?_
  refine x_put C fpM_87 0 (tc_wM mm cmm th iu ki mu fs ss tx us te my mo mz mi iz ma mf mp od ar lw 0 sk sa sl pp re rd co dq bo lc) rfl rfl rfl rfl (Nat.le_of_ble_eq_true rfl) dM_go_2 ?_
  refine x_iconst (v := nI 1) C dM_go_5 (by decide) ?_
  refine x_istore_n C [(2, .int (nI 1)), (0, .ref (mm 0)), (1, .int (nI r))] dM_go_6 rfl (by decide) rfl ?_
  refine x_aload_n C dM_go_7 rfl 1 rfl ?_
  refine x_get C fgM_53 0 rfl rfl dM_go_8 ?_
  refine x_iconst (v := nI 0) C dM_go_11 (by decide) ?_
  refine x_iload_n C dM_go_12 rfl 2 rfl ?_
  refine x_ist C 13 12 (tc_wM mm cmm th iu ki mu fs ss tx us te my mo mz mi iz ma mf mp od ar lw 0 (va_up sk 0 r) sa sl pp re rd co dq bo lc) rfl rfl (xk_nA_up sk 0 r) rfl (by omega) (by decide) dM_go_13 ?_
  refine x_aload_n C dM_go_14 rfl 1 rfl ?_
  refine x_get C fgM_56 0 rfl rfl dM_go_15 ?_
  refine x_iconst (v := nI 0) C dM_go_18 (by decide) ?_
  refine x_iconst (v := xk_oI none) C dM_go_19 (by decide) ?_
  refine x_ist C 14 13 (tc_wM mm cmm th iu ki mu fs ss tx us te my mo mz mi iz ma mf mp od ar lw 0 (va_up sk 0 r) (va_up sa 0 none) sl pp re rd co dq bo lc) rfl rfl (xk_oA_up sa 0 none) rfl (by omega) (by decide) dM_go_20 ?_
  refine x_aload_n C dM_go_21 rfl 1 rfl ?_
  refine x_get C fgM_59 0 rfl rfl dM_go_22 ?_
  refine x_iconst (v := nI 0) C dM_go_25 (by decide) ?_
  refine x_iconst (v := nI 1) C dM_go_26 (by decide) ?_
  refine x_ist C 15 14 (tc_wM mm cmm th iu ki mu fs ss tx us te my mo mz mi iz ma mf mp od ar lw 0 (va_up sk 0 r) (va_up sa 0 none) (va_up sl 0 1) pp re rd co dq bo lc) rfl rfl (xk_nA_up sl 0 1) rfl (by omega) (by decide) dM_go_27 ?_
  have lp28 : ∀ (zc : Nat) (dn : List Nat) (rs : List Nat) (st : List (Nat × tc_Q)) (odg : Nat → Nat) (arg : Nat → Option Nat) (lwg : Nat → Nat) (skg : Nat → Nat) (sag : Nat → Option Nat) (slg : Nat → Nat), rs.length < zc → (ids = dn ++ rs) → (tc_Fo fs ss (st.map (fun z => z.1)) rs) → (st.map (fun z => z.2) = tc_pd 0 [tc_q0] (dn.map (tc_mn ki mu tx))) → (tc_sp skg sag slg st) → (tc_go dn (tc_fw 0 [tc_q0] (dn.map (tc_mn ki mu tx))) odg arg lwg) → xk_Go K D 8 0 0 (tc_wM mm cmm th iu ki mu fs ss tx us te my mo mz mi iz ma mf mp odg arg lwg dn.length skg sag slg pp re rd co dq bo lc) [(0, .ref (mm 0)), (1, .int (nI r)), (2, .int (nI st.length))] 28 [] := by
    intro zc
    induction zc with
    | zero => intro dn rs st odg arg lwg skg sag slg hm; exact absurd hm (Nat.not_lt_zero _)
    | succ zc ih28 =>
      intro dn rs st odg arg lwg skg sag slg hm e1 e2 e3 e4 e5
      have e6 := tc_Fo_len e2
      rw [List.length_map] at e6
      have e7 := congrArg List.length e1
      rw [List.length_append] at e7
      refine x_iload_n C dM_go_28 rfl 2 rfl ?_
      refine x_if_leN (tgt := 175) C (by omega) dM_go_29 (by decide) (fun h29 => ?_) (fun h29 => ?_)
      ·
        obtain rfl : st = [] := List.eq_nil_of_length_eq_zero (by omega)
        obtain rfl : rs = [] := by match rs, e2 with | [], _ => rfl
        rw [List.append_nil] at e1
        subst e1
        exact x_vret C T rfl dM_go_175 (⟨_, _, _, _, _, _, rfl, rfl, e5⟩)
      ·
        obtain ⟨⟨i, q⟩, st', rfl⟩ : ∃ a b, st = a :: b := by match st, h29 with | a :: b, _ => exact ⟨a, b, rfl⟩
        obtain ⟨rs', rfl⟩ : ∃ rs', rs = i :: rs' := by match rs, e2 with | j :: rs', e2 => exact ⟨rs', by rw [show i = j from e2.1]⟩
        have hmem : i ∈ ids := by rw [e1]; exact List.mem_append_right _ List.mem_cons_self
        have hi2 := y3 i hmem
        have hlen : (i :: rs').length = rs'.length + 1 := rfl
        have hlen2 : ((i, q) :: st').length = st'.length + 1 := rfl
        refine x_iinc (q := 2) C (nI st'.length) [(2, .int (nI st'.length)), (0, .ref (mm 0)), (1, .int (nI r))] dM_go_32 rfl (pk_m1 _) (by decide) rfl ?_
        refine x_aload_n C dM_go_35 rfl 1 rfl ?_
        refine x_get C fgM_53 0 rfl rfl dM_go_36 ?_
        refine x_iload_n C dM_go_39 rfl 0 rfl ?_
        refine x_ild C 13 12 rfl rfl (by omega) (by decide) dM_go_40 ?_
        show xk_Go K D 8 0 0 (tc_wM mm cmm th iu ki mu fs ss tx us te my mo mz mi iz ma mf mp odg arg lwg dn.length skg sag slg pp re rd co dq bo lc) [(2, .int (nI st'.length)), (0, .ref (mm 0)), (1, .int (nI r))] 41 [.int (nI (skg st'.length))]
        rw [e4.1]
        refine x_istore_n C [(3, .int (nI i)), (2, .int (nI st'.length)), (0, .ref (mm 0)), (1, .int (nI r))] dM_go_41 rfl (by decide) rfl ?_
        refine x_aload_n C dM_go_42 rfl 2 rfl ?_
        refine x_get C fgM_87 0 rfl rfl dM_go_43 ?_
        refine x_istore C [(4, .int (nI dn.length)), (3, .int (nI i)), (2, .int (nI st'.length)), (0, .ref (mm 0)), (1, .int (nI r))] dM_go_46 (by decide) rfl ?_
        refine x_aload_n C dM_go_48 rfl 3 rfl ?_
        refine x_get C fgM_44 0 rfl rfl dM_go_49 ?_
        refine x_iload C dM_go_52 0 rfl ?_
        refine x_iload_n C dM_go_54 rfl 1 rfl ?_
        refine x_ist C 10 9 (tc_wM mm cmm th iu ki mu fs ss tx us te my mo mz mi iz ma mf mp (va_up odg dn.length i) arg lwg dn.length skg sag slg pp re rd co dq bo lc) rfl rfl (xk_nA_up odg dn.length i) rfl (by omega) (by decide) dM_go_55 ?_
        refine x_aload_n C dM_go_56 rfl 3 rfl ?_
        refine x_get C fgM_47 0 rfl rfl dM_go_57 ?_
        refine x_iload C dM_go_60 0 rfl ?_
        refine x_aload_n C dM_go_62 rfl 3 rfl ?_
        refine x_get C fgM_56 0 rfl rfl dM_go_63 ?_
        refine x_iload_n C dM_go_66 rfl 2 rfl ?_
        refine x_ild C 14 13 rfl rfl (by omega) (by decide) dM_go_67 ?_
        show xk_Go K D 8 0 0 (tc_wM mm cmm th iu ki mu fs ss tx us te my mo mz mi iz ma mf mp (va_up odg dn.length i) arg lwg dn.length skg sag slg pp re rd co dq bo lc) [(4, .int (nI dn.length)), (3, .int (nI i)), (2, .int (nI st'.length)), (0, .ref (mm 0)), (1, .int (nI r))] 68 [.int (xk_oI (sag st'.length)), .int (nI dn.length), .ref (mm 11)]
        refine x_ist C 11 10 (tc_wM mm cmm th iu ki mu fs ss tx us te my mo mz mi iz ma mf mp (va_up odg dn.length i) (va_up arg dn.length (sag st'.length)) lwg dn.length skg sag slg pp re rd co dq bo lc) rfl rfl (xk_oA_up arg dn.length (sag st'.length)) rfl (by omega) (by decide) dM_go_68 ?_
        refine x_aload_n C dM_go_69 rfl 3 rfl ?_
        refine x_get C fgM_50 0 rfl rfl dM_go_70 ?_
        refine x_iload C dM_go_73 0 rfl ?_
        refine x_aload_n C dM_go_75 rfl 3 rfl ?_
        refine x_get C fgM_59 0 rfl rfl dM_go_76 ?_
        refine x_iload_n C dM_go_79 rfl 2 rfl ?_
        refine x_ild C 15 14 rfl rfl (by omega) (by decide) dM_go_80 ?_
        show xk_Go K D 8 0 0 (tc_wM mm cmm th iu ki mu fs ss tx us te my mo mz mi iz ma mf mp (va_up odg dn.length i) (va_up arg dn.length (sag st'.length)) lwg dn.length skg sag slg pp re rd co dq bo lc) [(4, .int (nI dn.length)), (3, .int (nI i)), (2, .int (nI st'.length)), (0, .ref (mm 0)), (1, .int (nI r))] 81 [.int (nI (slg st'.length)), .int (nI dn.length), .ref (mm 12)]
        refine x_ist C 12 11 (tc_wM mm cmm th iu ki mu fs ss tx us te my mo mz mi iz ma mf mp (va_up odg dn.length i) (va_up arg dn.length (sag st'.length)) (va_up lwg dn.length (slg st'.length)) dn.length skg sag slg pp re rd co dq bo lc) rfl rfl (xk_nA_up lwg dn.length (slg st'.length)) rfl (by omega) (by decide) dM_go_81 ?_
        refine x_aload_n C dM_go_82 rfl 3 rfl ?_
        refine x_dup C dM_go_83 rfl ?_
        refine x_get C fgM_87 0 rfl rfl dM_go_84 ?_
        refine x_iconst (v := nI 1) C dM_go_87 (by decide) ?_
        refine x_iaddN C dM_go_88 ?_
        refine x_put C fpM_87 0 (tc_wM mm cmm th iu ki mu fs ss tx us te my mo mz mi iz ma mf mp (va_up odg dn.length i) (va_up arg dn.length (sag st'.length)) (va_up lwg dn.length (slg st'.length)) (dn.length + 1) skg sag slg pp re rd co dq bo lc) rfl rfl rfl rfl (Nat.le_of_ble_eq_true rfl) dM_go_89 ?_
        refine x_aload_n C dM_go_92 rfl 3 rfl ?_
        refine x_get C fgM_50 0 rfl rfl dM_go_93 ?_
        refine x_iload C dM_go_96 0 rfl ?_
        refine x_ild C 12 11 rfl rfl (by omega) (by decide) dM_go_98 ?_
        show xk_Go K D 8 0 0 (tc_wM mm cmm th iu ki mu fs ss tx us te my mo mz mi iz ma mf mp (va_up odg dn.length i) (va_up arg dn.length (sag st'.length)) (va_up lwg dn.length (slg st'.length)) (dn.length + 1) skg sag slg pp re rd co dq bo lc) [(4, .int (nI dn.length)), (3, .int (nI i)), (2, .int (nI st'.length)), (0, .ref (mm 0)), (1, .int (nI r))] 99 [.int (nI ((va_up lwg dn.length (slg st'.length)) dn.length))]
        rw [va_up_self, e4.2.2.1]
        refine x_iconst (v := nI 1) C dM_go_99 (by decide) ?_
        refine x_iaddN C dM_go_100 ?_
        refine x_istore C [(5, .int (nI (q.2.1 + 1))), (4, .int (nI dn.length)), (3, .int (nI i)), (2, .int (nI st'.length)), (0, .ref (mm 0)), (1, .int (nI r))] dM_go_101 (by decide) rfl ?_
        refine x_iconst (v := nI 1) C dM_go_103 (by decide) ?_
        refine x_istore C [(6, .int (nI 1)), (5, .int (nI (q.2.1 + 1))), (4, .int (nI dn.length)), (3, .int (nI i)), (2, .int (nI st'.length)), (0, .ref (mm 0)), (1, .int (nI r))] dM_go_104 (by decide) rfl ?_
        refine x_iload C dM_go_106 0 rfl ?_
        refine x_if_lt (tgt := 172) C dM_go_108 (by decide) (fun h => absurd h (by decide)) (fun _ => ?_)
        refine x_iload C dM_go_111 0 rfl ?_
        refine x_iconst (v := nI 1) C dM_go_113 (by decide) ?_
        refine x_icmp_ne (tgt := 126) C dM_go_114 (by decide) (fun h => absurd (by decide) h) (fun _ => ?_)
        refine x_aload_n C dM_go_117 rfl 5 rfl ?_
        refine x_get C fgM_24 0 rfl rfl dM_go_118 ?_
        refine x_iload_n C dM_go_121 rfl 3 rfl ?_
        refine x_ild C 5 4 rfl rfl (by omega) (by decide) dM_go_122 ?_
        show xk_Go K D 8 0 0 (tc_wM mm cmm th iu ki mu fs ss tx us te my mo mz mi iz ma mf mp (va_up odg dn.length i) (va_up arg dn.length (sag st'.length)) (va_up lwg dn.length q.2.1) (dn.length + 1) skg sag slg pp re rd co dq bo lc) [(6, .int (nI 1)), (5, .int (nI (q.2.1 + 1))), (4, .int (nI dn.length)), (3, .int (nI i)), (2, .int (nI st'.length)), (0, .ref (mm 0)), (1, .int (nI r))] 123 [.int (xk_oI (ss i))]
        refine x_goto C 132 dM_go_123 (by decide) ?_
        refine x_istore C [(7, .int (xk_oI (ss i))), (6, .int (nI 1)), (5, .int (nI (q.2.1 + 1))), (4, .int (nI dn.length)), (3, .int (nI i)), (2, .int (nI st'.length)), (0, .ref (mm 0)), (1, .int (nI r))] dM_go_132 (by decide) rfl ?_
        refine x_iload C dM_go_134 0 rfl ?_
        refine x_if_ltO (tgt := 166) C (fun v hv => by first | (have := (y5 i hmem).1 v hv; omega) | (have := (y5 i hmem).2 v hv; omega)) dM_go_136 (by decide) (fun h136 => ?_) (fun b2 h136 => ?_)
        ·
          rw [h136]
          show xk_Go K D 8 0 0 (tc_wM mm cmm th iu ki mu fs ss tx us te my mo mz mi iz ma mf mp (va_up odg dn.length i) (va_up arg dn.length (sag st'.length)) (va_up lwg dn.length q.2.1) (dn.length + 1) skg sag slg pp re rd co dq bo lc) [(7, .int (xk_oI none)), (6, .int (nI 1)), (5, .int (nI (q.2.1 + 1))), (4, .int (nI dn.length)), (3, .int (nI i)), (2, .int (nI st'.length)), (0, .ref (mm 0)), (1, .int (nI r))] 166 []
          have hs2 := h136
          refine x_iinc (q := 1) C (nI 0) [(6, .int (nI 0)), (7, .int (xk_oI none)), (5, .int (nI (q.2.1 + 1))), (4, .int (nI dn.length)), (3, .int (nI i)), (2, .int (nI st'.length)), (0, .ref (mm 0)), (1, .int (nI r))] dM_go_166 rfl (by decide) (by decide) rfl ?_
          refine x_goto C 106 dM_go_169 (by decide) ?_
          refine x_iload C dM_go_106 0 rfl ?_
          refine x_if_lt (tgt := 172) C dM_go_108 (by decide) (fun h => absurd h (by decide)) (fun _ => ?_)
          refine x_iload C dM_go_111 0 rfl ?_
          refine x_iconst (v := nI 1) C dM_go_113 (by decide) ?_
          refine x_icmp_ne (tgt := 126) C dM_go_114 (by decide) (fun _ => ?_) (fun h => absurd h (by decide))
          refine x_aload_n C dM_go_126 rfl 6 rfl ?_
          refine x_get C fgM_21 0 rfl rfl dM_go_127 ?_
          refine x_iload_n C dM_go_130 rfl 4 rfl ?_
          refine x_ild C 4 3 rfl rfl (by omega) (by decide) dM_go_131 ?_
          show xk_Go K D 8 0 0 (tc_wM mm cmm th iu ki mu fs ss tx us te my mo mz mi iz ma mf mp (va_up odg dn.length i) (va_up arg dn.length (sag st'.length)) (va_up lwg dn.length q.2.1) (dn.length + 1) skg sag slg pp re rd co dq bo lc) [(6, .int (nI 0)), (7, .int (xk_oI none)), (5, .int (nI (q.2.1 + 1))), (4, .int (nI dn.length)), (3, .int (nI i)), (2, .int (nI st'.length)), (0, .ref (mm 0)), (1, .int (nI r))] 132 [.int (xk_oI (fs i))]
          refine x_istore C [(7, .int (xk_oI (fs i))), (6, .int (nI 0)), (5, .int (nI (q.2.1 + 1))), (4, .int (nI dn.length)), (3, .int (nI i)), (2, .int (nI st'.length)), (0, .ref (mm 0)), (1, .int (nI r))] dM_go_132 (by decide) rfl ?_
          refine x_iload C dM_go_134 0 rfl ?_
          refine x_if_ltO (tgt := 166) C (fun v hv => by first | (have := (y5 i hmem).1 v hv; omega) | (have := (y5 i hmem).2 v hv; omega)) dM_go_136 (by decide) (fun h136 => ?_) (fun b1 h136 => ?_)
          ·
            rw [h136]
            show xk_Go K D 8 0 0 (tc_wM mm cmm th iu ki mu fs ss tx us te my mo mz mi iz ma mf mp (va_up odg dn.length i) (va_up arg dn.length (sag st'.length)) (va_up lwg dn.length q.2.1) (dn.length + 1) skg sag slg pp re rd co dq bo lc) [(7, .int (xk_oI none)), (6, .int (nI 0)), (5, .int (nI (q.2.1 + 1))), (4, .int (nI dn.length)), (3, .int (nI i)), (2, .int (nI st'.length)), (0, .ref (mm 0)), (1, .int (nI r))] 166 []
            have hs1 := h136
            refine x_iinc (q := 1) C (xk_oI none) [(6, .int (xk_oI none)), (7, .int (xk_oI none)), (5, .int (nI (q.2.1 + 1))), (4, .int (nI dn.length)), (3, .int (nI i)), (2, .int (nI st'.length)), (0, .ref (mm 0)), (1, .int (nI r))] dM_go_166 rfl (by decide) (by decide) rfl ?_
            refine x_goto C 106 dM_go_169 (by decide) ?_
            refine x_iload C dM_go_106 0 rfl ?_
            refine x_if_lt (tgt := 172) C dM_go_108 (by decide) (fun _ => ?_) (fun h => absurd (by decide) h)
            refine x_goto C 28 dM_go_172 (by decide) ?_
            have hkd : tc_kd fs ss i = [] := by unfold tc_kd; rw [hs2, hs1]; rfl
            have hkt := y4 i hmem
            rw [hkd] at hkt
            have hkt : tc_tk (ki i) = 0 := hkt.symm
            have hdl : (dn ++ [i]).length = dn.length + 1 := by simp
            rw [← hdl]
            exact x_sub [6, 7, 5] rfl (ih28 (dn ++ [i]) rs' st' (va_up odg dn.length i) (va_up arg dn.length (sag st'.length)) (va_up lwg dn.length q.2.1) skg sag slg (by rw [List.length_cons] at hm; omega) (by rw [e1, List.append_assoc]; rfl) (by have z := e2.2; rw [hkd] at z; exact z) (by rw [tc_go_pd e3, hkt]; rfl) e4.2.2.2 (by rw [tc_go_fw e3]; exact tc_go_app e5 (by rw [tc_fw_lenp _ (rs'.map (tc_mn ki mu tx) |> fun z => (tc_mn ki mu tx i) :: z) 0 [tc_q0] (by have z := tc_Fo_wf (mu := mu) (tx := tx) y1 y4; rw [e1, List.map_append] at z; exact z), List.length_map]) e4.2.1 rfl))
          ·
            rw [h136]
            show xk_Go K D 8 0 0 (tc_wM mm cmm th iu ki mu fs ss tx us te my mo mz mi iz ma mf mp (va_up odg dn.length i) (va_up arg dn.length (sag st'.length)) (va_up lwg dn.length q.2.1) (dn.length + 1) skg sag slg pp re rd co dq bo lc) [(7, .int (nI b1)), (6, .int (nI 0)), (5, .int (nI (q.2.1 + 1))), (4, .int (nI dn.length)), (3, .int (nI i)), (2, .int (nI st'.length)), (0, .ref (mm 0)), (1, .int (nI r))] 139 []
            have hs1 := h136
            refine x_aload_n C dM_go_139 rfl 6 rfl ?_
            refine x_get C fgM_53 0 rfl rfl dM_go_140 ?_
            refine x_iload_n C dM_go_143 rfl 5 rfl ?_
            refine x_iload C dM_go_144 0 rfl ?_
            refine x_ist C 13 12 (tc_wM mm cmm th iu ki mu fs ss tx us te my mo mz mi iz ma mf mp (va_up odg dn.length i) (va_up arg dn.length (sag st'.length)) (va_up lwg dn.length q.2.1) (dn.length + 1) (va_up skg st'.length b1) sag slg pp re rd co dq bo lc) rfl rfl (xk_nA_up skg st'.length b1) rfl (by omega) (by decide) dM_go_146 ?_
            refine x_aload_n C dM_go_147 rfl 6 rfl ?_
            refine x_get C fgM_56 0 rfl rfl dM_go_148 ?_
            refine x_iload_n C dM_go_151 rfl 5 rfl ?_
            refine x_iload C dM_go_152 3 rfl ?_
            refine x_ist C 14 13 (tc_wM mm cmm th iu ki mu fs ss tx us te my mo mz mi iz ma mf mp (va_up odg dn.length i) (va_up arg dn.length (sag st'.length)) (va_up lwg dn.length q.2.1) (dn.length + 1) (va_up skg st'.length b1) (va_up sag st'.length (some dn.length)) slg pp re rd co dq bo lc) rfl rfl (xk_oA_up sag st'.length (some dn.length)) rfl (by omega) (by decide) dM_go_154 ?_
            refine x_aload_n C dM_go_155 rfl 6 rfl ?_
            refine x_get C fgM_59 0 rfl rfl dM_go_156 ?_
            refine x_iload_n C dM_go_159 rfl 5 rfl ?_
            refine x_iload C dM_go_160 2 rfl ?_
            refine x_ist C 15 14 (tc_wM mm cmm th iu ki mu fs ss tx us te my mo mz mi iz ma mf mp (va_up odg dn.length i) (va_up arg dn.length (sag st'.length)) (va_up lwg dn.length q.2.1) (dn.length + 1) (va_up skg st'.length b1) (va_up sag st'.length (some dn.length)) (va_up slg st'.length (q.2.1 + 1)) pp re rd co dq bo lc) rfl rfl (xk_nA_up slg st'.length (q.2.1 + 1)) rfl (by omega) (by decide) dM_go_162 ?_
            refine x_iinc (q := 5) C (nI (st'.length + 1)) [(2, .int (nI (st'.length + 1))), (7, .int (nI b1)), (6, .int (nI 0)), (5, .int (nI (q.2.1 + 1))), (4, .int (nI dn.length)), (3, .int (nI i)), (0, .ref (mm 0)), (1, .int (nI r))] dM_go_163 rfl (nI_add st'.length 1) (by decide) rfl ?_
            refine x_iinc (q := 2) C (xk_oI none) [(6, .int (xk_oI none)), (2, .int (nI (st'.length + 1))), (7, .int (nI b1)), (5, .int (nI (q.2.1 + 1))), (4, .int (nI dn.length)), (3, .int (nI i)), (0, .ref (mm 0)), (1, .int (nI r))] dM_go_166 rfl (by decide) (by decide) rfl ?_
            refine x_goto C 106 dM_go_169 (by decide) ?_
            refine x_iload C dM_go_106 0 rfl ?_
            refine x_if_lt (tgt := 172) C dM_go_108 (by decide) (fun _ => ?_) (fun h => absurd (by decide) h)
            refine x_goto C 28 dM_go_172 (by decide) ?_
            have hkd : tc_kd fs ss i = [b1] := by unfold tc_kd; rw [hs2, hs1]; rfl
            have hkt := y4 i hmem
            rw [hkd] at hkt
            have hkt : tc_tk (ki i) = 1 := hkt.symm
            have hdl : (dn ++ [i]).length = dn.length + 1 := by simp
            rw [← hdl]
            exact x_sub [6, 7, 1] rfl (ih28 (dn ++ [i]) rs' ((b1, tc_qk dn.length (tc_mn ki mu tx i) q) :: st') (va_up odg dn.length i) (va_up arg dn.length (sag st'.length)) (va_up lwg dn.length q.2.1) (va_up skg st'.length b1) (va_up sag st'.length (some dn.length)) (va_up slg st'.length (q.2.1 + 1)) (by rw [List.length_cons] at hm; omega) (by rw [e1, List.append_assoc]; rfl) (by have z := e2.2; rw [hkd] at z; exact z) (by rw [tc_go_pd e3, hkt]; rfl) (tc_sp_push (q := tc_qk dn.length (tc_mn ki mu tx i) q) e4.2.2.2 rfl) (by rw [tc_go_fw e3]; exact tc_go_app e5 (by rw [tc_fw_lenp _ (rs'.map (tc_mn ki mu tx) |> fun z => (tc_mn ki mu tx i) :: z) 0 [tc_q0] (by have z := tc_Fo_wf (mu := mu) (tx := tx) y1 y4; rw [e1, List.map_append] at z; exact z), List.length_map]) e4.2.1 rfl))
        ·
          rw [h136]
          show xk_Go K D 8 0 0 (tc_wM mm cmm th iu ki mu fs ss tx us te my mo mz mi iz ma mf mp (va_up odg dn.length i) (va_up arg dn.length (sag st'.length)) (va_up lwg dn.length q.2.1) (dn.length + 1) skg sag slg pp re rd co dq bo lc) [(7, .int (nI b2)), (6, .int (nI 1)), (5, .int (nI (q.2.1 + 1))), (4, .int (nI dn.length)), (3, .int (nI i)), (2, .int (nI st'.length)), (0, .ref (mm 0)), (1, .int (nI r))] 139 []
          have hs2 := h136
          refine x_aload_n C dM_go_139 rfl 6 rfl ?_
          refine x_get C fgM_53 0 rfl rfl dM_go_140 ?_
          refine x_iload_n C dM_go_143 rfl 5 rfl ?_
          refine x_iload C dM_go_144 0 rfl ?_
          refine x_ist C 13 12 (tc_wM mm cmm th iu ki mu fs ss tx us te my mo mz mi iz ma mf mp (va_up odg dn.length i) (va_up arg dn.length (sag st'.length)) (va_up lwg dn.length q.2.1) (dn.length + 1) (va_up skg st'.length b2) sag slg pp re rd co dq bo lc) rfl rfl (xk_nA_up skg st'.length b2) rfl (by omega) (by decide) dM_go_146 ?_
          refine x_aload_n C dM_go_147 rfl 6 rfl ?_
          refine x_get C fgM_56 0 rfl rfl dM_go_148 ?_
          refine x_iload_n C dM_go_151 rfl 5 rfl ?_
          refine x_iload C dM_go_152 3 rfl ?_
          refine x_ist C 14 13 (tc_wM mm cmm th iu ki mu fs ss tx us te my mo mz mi iz ma mf mp (va_up odg dn.length i) (va_up arg dn.length (sag st'.length)) (va_up lwg dn.length q.2.1) (dn.length + 1) (va_up skg st'.length b2) (va_up sag st'.length (some dn.length)) slg pp re rd co dq bo lc) rfl rfl (xk_oA_up sag st'.length (some dn.length)) rfl (by omega) (by decide) dM_go_154 ?_
          refine x_aload_n C dM_go_155 rfl 6 rfl ?_
          refine x_get C fgM_59 0 rfl rfl dM_go_156 ?_
          refine x_iload_n C dM_go_159 rfl 5 rfl ?_
          refine x_iload C dM_go_160 2 rfl ?_
          refine x_ist C 15 14 (tc_wM mm cmm th iu ki mu fs ss tx us te my mo mz mi iz ma mf mp (va_up odg dn.length i) (va_up arg dn.length (sag st'.length)) (va_up lwg dn.length q.2.1) (dn.length + 1) (va_up skg st'.length b2) (va_up sag st'.length (some dn.length)) (va_up slg st'.length (q.2.1 + 1)) pp re rd co dq bo lc) rfl rfl (xk_nA_up slg st'.length (q.2.1 + 1)) rfl (by omega) (by decide) dM_go_162 ?_
          refine x_iinc (q := 5) C (nI (st'.length + 1)) [(2, .int (nI (st'.length + 1))), (7, .int (nI b2)), (6, .int (nI 1)), (5, .int (nI (q.2.1 + 1))), (4, .int (nI dn.length)), (3, .int (nI i)), (0, .ref (mm 0)), (1, .int (nI r))] dM_go_163 rfl (nI_add st'.length 1) (by decide) rfl ?_
          refine x_iinc (q := 2) C (nI 0) [(6, .int (nI 0)), (2, .int (nI (st'.length + 1))), (7, .int (nI b2)), (5, .int (nI (q.2.1 + 1))), (4, .int (nI dn.length)), (3, .int (nI i)), (0, .ref (mm 0)), (1, .int (nI r))] dM_go_166 rfl (by decide) (by decide) rfl ?_
          refine x_goto C 106 dM_go_169 (by decide) ?_
          refine x_iload C dM_go_106 0 rfl ?_
          refine x_if_lt (tgt := 172) C dM_go_108 (by decide) (fun h => absurd h (by decide)) (fun _ => ?_)
          refine x_iload C dM_go_111 0 rfl ?_
          refine x_iconst (v := nI 1) C dM_go_113 (by decide) ?_
          refine x_icmp_ne (tgt := 126) C dM_go_114 (by decide) (fun _ => ?_) (fun h => absurd h (by decide))
          refine x_aload_n C dM_go_126 rfl 6 rfl ?_
          refine x_get C fgM_21 0 rfl rfl dM_go_127 ?_
          refine x_iload_n C dM_go_130 rfl 5 rfl ?_
          refine x_ild C 4 3 rfl rfl (by omega) (by decide) dM_go_131 ?_
          show xk_Go K D 8 0 0 (tc_wM mm cmm th iu ki mu fs ss tx us te my mo mz mi iz ma mf mp (va_up odg dn.length i) (va_up arg dn.length (sag st'.length)) (va_up lwg dn.length q.2.1) (dn.length + 1) (va_up skg st'.length b2) (va_up sag st'.length (some dn.length)) (va_up slg st'.length (q.2.1 + 1)) pp re rd co dq bo lc) [(6, .int (nI 0)), (2, .int (nI (st'.length + 1))), (7, .int (nI b2)), (5, .int (nI (q.2.1 + 1))), (4, .int (nI dn.length)), (3, .int (nI i)), (0, .ref (mm 0)), (1, .int (nI r))] 132 [.int (xk_oI (fs i))]
          refine x_istore C [(7, .int (xk_oI (fs i))), (6, .int (nI 0)), (2, .int (nI (st'.length + 1))), (5, .int (nI (q.2.1 + 1))), (4, .int (nI dn.length)), (3, .int (nI i)), (0, .ref (mm 0)), (1, .int (nI r))] dM_go_132 (by decide) rfl ?_
          refine x_iload C dM_go_134 0 rfl ?_
          refine x_if_ltO (tgt := 166) C (fun v hv => by first | (have := (y5 i hmem).1 v hv; omega) | (have := (y5 i hmem).2 v hv; omega)) dM_go_136 (by decide) (fun h136 => ?_) (fun b1 h136 => ?_)
          ·
            rw [h136]
            show xk_Go K D 8 0 0 (tc_wM mm cmm th iu ki mu fs ss tx us te my mo mz mi iz ma mf mp (va_up odg dn.length i) (va_up arg dn.length (sag st'.length)) (va_up lwg dn.length q.2.1) (dn.length + 1) (va_up skg st'.length b2) (va_up sag st'.length (some dn.length)) (va_up slg st'.length (q.2.1 + 1)) pp re rd co dq bo lc) [(7, .int (xk_oI none)), (6, .int (nI 0)), (2, .int (nI (st'.length + 1))), (5, .int (nI (q.2.1 + 1))), (4, .int (nI dn.length)), (3, .int (nI i)), (0, .ref (mm 0)), (1, .int (nI r))] 166 []
            have hs1 := h136
            refine x_iinc (q := 1) C (xk_oI none) [(6, .int (xk_oI none)), (7, .int (xk_oI none)), (2, .int (nI (st'.length + 1))), (5, .int (nI (q.2.1 + 1))), (4, .int (nI dn.length)), (3, .int (nI i)), (0, .ref (mm 0)), (1, .int (nI r))] dM_go_166 rfl (by decide) (by decide) rfl ?_
            refine x_goto C 106 dM_go_169 (by decide) ?_
            refine x_iload C dM_go_106 0 rfl ?_
            refine x_if_lt (tgt := 172) C dM_go_108 (by decide) (fun _ => ?_) (fun h => absurd (by decide) h)
            refine x_goto C 28 dM_go_172 (by decide) ?_
            have hkd : tc_kd fs ss i = [b2] := by unfold tc_kd; rw [hs2, hs1]; rfl
            have hkt := y4 i hmem
            rw [hkd] at hkt
            have hkt : tc_tk (ki i) = 1 := hkt.symm
            have hdl : (dn ++ [i]).length = dn.length + 1 := by simp
            rw [← hdl]
            exact x_sub [6, 7, 2] rfl (ih28 (dn ++ [i]) rs' ((b2, tc_qk dn.length (tc_mn ki mu tx i) q) :: st') (va_up odg dn.length i) (va_up arg dn.length (sag st'.length)) (va_up lwg dn.length q.2.1) (va_up skg st'.length b2) (va_up sag st'.length (some dn.length)) (va_up slg st'.length (q.2.1 + 1)) (by rw [List.length_cons] at hm; omega) (by rw [e1, List.append_assoc]; rfl) (by have z := e2.2; rw [hkd] at z; exact z) (by rw [tc_go_pd e3, hkt]; rfl) (tc_sp_push (q := tc_qk dn.length (tc_mn ki mu tx i) q) e4.2.2.2 rfl) (by rw [tc_go_fw e3]; exact tc_go_app e5 (by rw [tc_fw_lenp _ (rs'.map (tc_mn ki mu tx) |> fun z => (tc_mn ki mu tx i) :: z) 0 [tc_q0] (by have z := tc_Fo_wf (mu := mu) (tx := tx) y1 y4; rw [e1, List.map_append] at z; exact z), List.length_map]) e4.2.1 rfl))
          ·
            rw [h136]
            show xk_Go K D 8 0 0 (tc_wM mm cmm th iu ki mu fs ss tx us te my mo mz mi iz ma mf mp (va_up odg dn.length i) (va_up arg dn.length (sag st'.length)) (va_up lwg dn.length q.2.1) (dn.length + 1) (va_up skg st'.length b2) (va_up sag st'.length (some dn.length)) (va_up slg st'.length (q.2.1 + 1)) pp re rd co dq bo lc) [(7, .int (nI b1)), (6, .int (nI 0)), (2, .int (nI (st'.length + 1))), (5, .int (nI (q.2.1 + 1))), (4, .int (nI dn.length)), (3, .int (nI i)), (0, .ref (mm 0)), (1, .int (nI r))] 139 []
            have hs1 := h136
            refine x_aload_n C dM_go_139 rfl 6 rfl ?_
            refine x_get C fgM_53 0 rfl rfl dM_go_140 ?_
            refine x_iload_n C dM_go_143 rfl 2 rfl ?_
            refine x_iload C dM_go_144 0 rfl ?_
            refine x_ist C 13 12 (tc_wM mm cmm th iu ki mu fs ss tx us te my mo mz mi iz ma mf mp (va_up odg dn.length i) (va_up arg dn.length (sag st'.length)) (va_up lwg dn.length q.2.1) (dn.length + 1) (va_up (va_up skg st'.length b2) (st'.length + 1) b1) (va_up sag st'.length (some dn.length)) (va_up slg st'.length (q.2.1 + 1)) pp re rd co dq bo lc) rfl rfl (xk_nA_up (va_up skg st'.length b2) (st'.length + 1) b1) rfl (by omega) (by decide) dM_go_146 ?_
            refine x_aload_n C dM_go_147 rfl 6 rfl ?_
            refine x_get C fgM_56 0 rfl rfl dM_go_148 ?_
            refine x_iload_n C dM_go_151 rfl 2 rfl ?_
            refine x_iload C dM_go_152 4 rfl ?_
            refine x_ist C 14 13 (tc_wM mm cmm th iu ki mu fs ss tx us te my mo mz mi iz ma mf mp (va_up odg dn.length i) (va_up arg dn.length (sag st'.length)) (va_up lwg dn.length q.2.1) (dn.length + 1) (va_up (va_up skg st'.length b2) (st'.length + 1) b1) (va_up (va_up sag st'.length (some dn.length)) (st'.length + 1) (some dn.length)) (va_up slg st'.length (q.2.1 + 1)) pp re rd co dq bo lc) rfl rfl (xk_oA_up (va_up sag st'.length (some dn.length)) (st'.length + 1) (some dn.length)) rfl (by omega) (by decide) dM_go_154 ?_
            refine x_aload_n C dM_go_155 rfl 6 rfl ?_
            refine x_get C fgM_59 0 rfl rfl dM_go_156 ?_
            refine x_iload_n C dM_go_159 rfl 2 rfl ?_
            refine x_iload C dM_go_160 3 rfl ?_
            refine x_ist C 15 14 (tc_wM mm cmm th iu ki mu fs ss tx us te my mo mz mi iz ma mf mp (va_up odg dn.length i) (va_up arg dn.length (sag st'.length)) (va_up lwg dn.length q.2.1) (dn.length + 1) (va_up (va_up skg st'.length b2) (st'.length + 1) b1) (va_up (va_up sag st'.length (some dn.length)) (st'.length + 1) (some dn.length)) (va_up (va_up slg st'.length (q.2.1 + 1)) (st'.length + 1) (q.2.1 + 1)) pp re rd co dq bo lc) rfl rfl (xk_nA_up (va_up slg st'.length (q.2.1 + 1)) (st'.length + 1) (q.2.1 + 1)) rfl (by omega) (by decide) dM_go_162 ?_
            refine x_iinc (q := 2) C (nI (st'.length + 1 + 1)) [(2, .int (nI (st'.length + 1 + 1))), (7, .int (nI b1)), (6, .int (nI 0)), (5, .int (nI (q.2.1 + 1))), (4, .int (nI dn.length)), (3, .int (nI i)), (0, .ref (mm 0)), (1, .int (nI r))] dM_go_163 rfl (nI_add (st'.length + 1) 1) (by decide) rfl ?_
            refine x_iinc (q := 2) C (xk_oI none) [(6, .int (xk_oI none)), (2, .int (nI (st'.length + 1 + 1))), (7, .int (nI b1)), (5, .int (nI (q.2.1 + 1))), (4, .int (nI dn.length)), (3, .int (nI i)), (0, .ref (mm 0)), (1, .int (nI r))] dM_go_166 rfl (by decide) (by decide) rfl ?_
            refine x_goto C 106 dM_go_169 (by decide) ?_
            refine x_iload C dM_go_106 0 rfl ?_
            refine x_if_lt (tgt := 172) C dM_go_108 (by decide) (fun _ => ?_) (fun h => absurd (by decide) h)
            refine x_goto C 28 dM_go_172 (by decide) ?_
            have hkd : tc_kd fs ss i = [b1, b2] := by unfold tc_kd; rw [hs2, hs1]; rfl
            have hkt := y4 i hmem
            rw [hkd] at hkt
            have hkt : tc_tk (ki i) = 2 := hkt.symm
            have hdl : (dn ++ [i]).length = dn.length + 1 := by simp
            rw [← hdl]
            exact x_sub [6, 7, 1] rfl (ih28 (dn ++ [i]) rs' ((b1, tc_qk dn.length (tc_mn ki mu tx i) q) :: (b2, tc_qk dn.length (tc_mn ki mu tx i) q) :: st') (va_up odg dn.length i) (va_up arg dn.length (sag st'.length)) (va_up lwg dn.length q.2.1) (va_up (va_up skg st'.length b2) (st'.length + 1) b1) (va_up (va_up sag st'.length (some dn.length)) (st'.length + 1) (some dn.length)) (va_up (va_up slg st'.length (q.2.1 + 1)) (st'.length + 1) (q.2.1 + 1)) (by rw [List.length_cons] at hm; omega) (by rw [e1, List.append_assoc]; rfl) (by have z := e2.2; rw [hkd] at z; exact z) (by rw [tc_go_pd e3, hkt]; rfl) (tc_sp_push (q := tc_qk dn.length (tc_mn ki mu tx i) q) (tc_sp_push (q := tc_qk dn.length (tc_mn ki mu tx i) q) e4.2.2.2 rfl) rfl) (by rw [tc_go_fw e3]; exact tc_go_app e5 (by rw [tc_fw_lenp _ (rs'.map (tc_mn ki mu tx) |> fun z => (tc_mn ki mu tx i) :: z) 0 [tc_q0] (by have z := tc_Fo_wf (mu := mu) (tx := tx) y1 y4; rw [e1, List.map_append] at z; exact z), List.length_map]) e4.2.1 rfl))
  exact x_sub [1, 2, 0] rfl (lp28 _ ([]) ids ([(r, tc_q0)]) od ar lw (va_up sk 0 r) (va_up sa 0 none) (va_up sl 0 1) (Nat.lt_succ_self _) rfl y1 rfl (⟨va_up_self _ _ _, va_up_self _ _ _, va_up_self _ _ _, trivial⟩) tc_go_0)
