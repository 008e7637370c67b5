set_option maxHeartbeats 4000000 in
set_option maxRecDepth 100000 in
/-- isNode -/
theorem c_M_isNode (D : va_G) (mm : Nat → Nat) (cmm : Nat → ClassId) (th : Nat) (iu : Nat → Bool) (ki : Nat → Nat) (mu : Nat → Int64) (fs : Nat → Option Nat) (ss : Nat → Option Nat) (tx : Nat → Nat) (us : Nat) (te : Nat → Nat) (my : Nat) (mo : Nat → Nat) (mz : Nat) (mi : Nat → Nat) (iz : Nat) (ma : Nat) (mf : Nat) (mp : Option Nat) (od : Nat → Nat) (ar : Nat → Option Nat) (lw : Nat → Nat) (oc : Nat) (sk : Nat → Nat) (sa : Nat → Option Nat) (sl : Nat → Nat) (pp : Nat) (re : Nat → Nat) (rd : Nat) (co : Nat → Nat) (dq : Nat → Nat) (bo : Nat → Nat) (lc : Nat → Nat) (k : Int32) (Ts : List (List tc_Nd)) (y1 : tc_RM Ts (iu, ki, mu, fs, ss, tx) us te my) : xk_Ct yM_isNode cM_isNode 2 (some .boolean) { frames := 1, cells := 0, slots := 0, locals := 27 } D (tc_tM cmm) [.ref (mm 0), .int k] (tc_wM mm cmm th iu ki mu fs ss tx us te my mo mz mi iz ma mf mp od ar lw oc sk sa sl pp re rd co dq bo lc) (fun rv ru => (∃ (odg : Nat → Nat), ∃ (arg : Nat → Option Nat), ∃ (lwg : Nat → Nat), ∃ (skg : Nat → Nat), ∃ (sag : Nat → Option Nat), ∃ (slg : Nat → Nat), ∃ (ocg : Nat), rv = some (.int (nI 0)) ∧ ru = tc_wM mm cmm th iu ki mu fs ss tx us te my mo mz mi iz ma mf mp odg arg lwg ocg skg sag slg pp re rd co dq bo lc ∧ (tc_nth Ts k = none)) ∨ (∃ (odg : Nat → Nat), ∃ (arg : Nat → Option Nat), ∃ (lwg : Nat → Nat), ∃ (skg : Nat → Nat), ∃ (sag : Nat → Option Nat), ∃ (slg : Nat → Nat), ∃ (ids : List Nat), ∃ (R : List (List tc_Nd)), ∃ (j : Nat), rv = some (.int (nI 1)) ∧ ru = tc_wM mm cmm th iu ki mu fs ss tx us te my mo mz mi iz ma mf mp odg arg lwg ids.length skg sag slg pp re rd co dq bo lc ∧ (k = nI j) ∧ (j < ids.length) ∧ (Ts = (ids.map (tc_mn ki mu tx)) :: R) ∧ (tc_Hg fs ss ki (te (my - 1)) ids) ∧ (tc_go ids (tc_E (ids.map (tc_mn ki mu tx))) odg arg lwg) ∧ (tc_okt (ids.map (tc_mn ki mu tx))))) := by
  refine xk_enter (by decide) (Nat.le_of_ble_eq_true rfl) (fun K C T hin => ?_)
  obtain ⟨yu, yv, yn, yc⟩ := tc_RM_us y1
  show xk_Go K D 2 0 0 (tc_wM mm cmm th iu ki mu fs ss tx us te my mo mz mi iz ma mf mp od ar lw oc sk sa sl pp re rd co dq bo lc) [(0, .ref (mm 0)), (1, .int k)] 0 []
  refine x_aload_n C dM_isNode_0 rfl 0 rfl ?_
  refine x_get C fgM_94 0 rfl rfl dM_isNode_1 ?_
  refine x_if_neN (tgt := 9) C (by omega) dM_isNode_4 (by decide) (fun h4 => ?_) (fun h4 => ?_)
  ·
    obtain ⟨ids, I, R, rfl, yI, yg, ym⟩ := tc_RM_top y1 (by omega)
    have yokt := tc_RM_okt y1 _ List.mem_cons_self
    have yl : (ids.map (tc_mn ki mu tx)).length = ids.length := List.length_map _
    have y200 := yg.2.1
    refine x_aload_n C dM_isNode_9 rfl 0 rfl ?_
    refine x_aload_n C dM_isNode_10 rfl 0 rfl ?_
    refine x_get C fgM_31 0 rfl rfl dM_isNode_11 ?_
    refine x_aload_n C dM_isNode_14 rfl 0 rfl ?_
    refine x_get C fgM_94 0 rfl rfl dM_isNode_15 ?_
    refine x_iconst (v := nI 1) C dM_isNode_18 (by decide) ?_
    refine x_isubN C (by omega) dM_isNode_19 ?_
    refine x_ild C 7 6 rfl rfl (by omega) (by decide) dM_isNode_20 ?_
    show xk_Go K D 2 0 0 (tc_wM mm cmm th iu ki mu fs ss tx us te my mo mz mi iz ma mf mp od ar lw oc sk sa sl pp re rd co dq bo lc) [(0, .ref (mm 0)), (1, .int k)] 21 [.int (nI (te (my - 1))), .ref (mm 0)]
    refine x_callV C (c_M_go D mm cmm th iu ki mu fs ss tx us te my mo mz mi iz ma mf mp od ar lw oc sk sa sl pp re rd co dq bo lc (te (my - 1)) ids yg.1 yg.2.1 yg.2.2.1 yg.2.2.2.1 yg.2.2.2.2.1) kbM_90 kcM_90 [0, 1, 2, 3, 4, 5, 6, 7, 8, 9, 10, 11, 12, 13, 14, 15, 16, 17, 18, 19, 20] [] [0, 1, 2, 3, 4, 5, 6, 7, 8, 9, 10, 11, 12, 13, 14, 15, 16, 17, 18, 19] ([]) rfl rfl (by decide) (by decide) (by decide) rfl 0 rfl rfl ⟨Nat.le_of_ble_eq_true rfl, Nat.le_of_ble_eq_true rfl⟩ ⟨Nat.le_of_ble_eq_true rfl, Nat.le_of_ble_eq_true rfl⟩ [] rfl rfl (Nat.le_of_ble_eq_true rfl) dM_isNode_21 (fun rv ru hw => ?_)
    obtain ⟨odg, arg, lwg, skg, sag, slg, rfl, rfl, g1⟩ := hw
    show xk_Go K D 2 0 0 (tc_wM mm cmm th iu ki mu fs ss tx us te my mo mz mi iz ma mf mp odg arg lwg ids.length skg sag slg pp re rd co dq bo lc) [(0, .ref (mm 0)), (1, .int k)] 24 []
    refine x_iload_n C dM_isNode_24 rfl 1 rfl ?_
    refine x_if_lt (tgt := 40) C dM_isNode_25 (by decide) (fun h25 => ?_) (fun h25 => ?_)
    ·
      refine x_iconst (v := nI 0) C dM_isNode_40 (by decide) ?_
      exact x_iret C T .boolean rfl rfl dM_isNode_41 (Or.inl (⟨_, _, _, _, _, _, _, rfl, rfl, (tc_nth_neg h25)⟩))
    ·
      obtain ⟨j, hj, rfl⟩ := nI_of h25
      refine x_iload_n C dM_isNode_28 rfl 1 rfl ?_
      refine x_aload_n C dM_isNode_29 rfl 0 rfl ?_
      refine x_get C fgM_87 0 rfl rfl dM_isNode_30 ?_
      refine x_icmp_geN (tgt := 40) C (by omega) (by omega) dM_isNode_33 (by decide) (fun h33 => ?_) (fun h33 => ?_)
      ·
        refine x_iconst (v := nI 0) C dM_isNode_40 (by decide) ?_
        exact x_iret C T .boolean rfl rfl dM_isNode_41 (Or.inl (⟨_, _, _, _, _, _, _, rfl, rfl, (tc_nth_big (by omega) hj)⟩))
      ·
        refine x_iconst (v := nI 1) C dM_isNode_36 (by decide) ?_
        refine x_goto C 41 dM_isNode_37 (by decide) ?_
        exact x_iret C T .boolean rfl rfl dM_isNode_41 (Or.inr (⟨_, _, _, _, _, _, ids, R, j, rfl, rfl, rfl, (by omega), rfl, yg, g1, yokt⟩))
  ·
    refine x_iconst (v := nI 0) C dM_isNode_7 (by decide) ?_
    exact x_iret C T .boolean rfl rfl dM_isNode_8 (Or.inl (⟨_, _, _, _, _, _, _, rfl, rfl, (by rw [tc_RM_nil y1 h4]; rfl)⟩))
set_option maxHeartbeats 4000000 in
set_option maxRecDepth 100000 in
/-- of -/
theorem c_M_of (D : va_G) (mm : Nat → Nat) (cmm : Nat → ClassId) (th : Nat) (iu : Nat → Bool) (ki : Nat → Nat) (mu : Nat → Int64) (fs : Nat → Option Nat) (ss : Nat → Option Nat) (tx : Nat → Nat) (us : Nat) (te : Nat → Nat) (my : Nat) (mo : Nat → Nat) (mz : Nat) (mi : Nat → Nat) (iz : Nat) (ma : Nat) (mf : Nat) (mp : Option Nat) (od : Nat → Nat) (ar : Nat → Option Nat) (lw : Nat → Nat) (oc : Nat) (sk : Nat → Nat) (sa : Nat → Option Nat) (sl : Nat → Nat) (pp : Nat) (re : Nat → Nat) (rd : Nat) (co : Nat → Nat) (dq : Nat → Nat) (bo : Nat → Nat) (lc : Nat → Nat) (k : Int32) (w : Int32) (Ts : List (List tc_Nd)) (y1 : tc_RM Ts (iu, ki, mu, fs, ss, tx) us te my) : xk_Ct yM_of cM_of 9 (some .int) { frames := 2, cells := 0, slots := 0, locals := 48 } D (tc_tM cmm) [.ref (mm 0), .int k, .int w] (tc_wM mm cmm th iu ki mu fs ss tx us te my mo mz mi iz ma mf mp od ar lw oc sk sa sl pp re rd co dq bo lc) (fun rv ru => (∃ (odg : Nat → Nat), ∃ (arg : Nat → Option Nat), ∃ (lwg : Nat → Nat), ∃ (skg : Nat → Nat), ∃ (sag : Nat → Option Nat), ∃ (slg : Nat → Nat), ∃ (ocg : Nat), rv = some (.int (xk_oI (tc_ofa Ts k w))) ∧ ru = tc_wM mm cmm 0 iu ki mu fs ss tx us te my mo mz mi iz ma mf mp odg arg lwg ocg skg sag slg pp re rd co dq bo lc)) := by
  refine xk_enter (by decide) (Nat.le_of_ble_eq_true rfl) (fun K C T hin => ?_)
  obtain ⟨yu, yv, yn, yc⟩ := tc_RM_us y1
  show xk_Go K D 9 0 0 (tc_wM mm cmm th iu ki mu fs ss tx us te my mo mz mi iz ma mf mp od ar lw oc sk sa sl pp re rd co dq bo lc) [(0, .ref (mm 0)), (1, .int k), (2, .int w)] 0 []
  refine x_aload_n C dM_of_0 rfl 0 rfl ?_
  refine x_iconst (v := nI 0) C dM_of_1 (by decide) ?_
  refine x_put C fpM_77 0 (tc_wM mm cmm 0 iu ki mu fs ss tx us te my mo mz mi iz ma mf mp od ar lw oc sk sa sl pp re rd co dq bo lc) rfl rfl rfl rfl (Nat.le_of_ble_eq_true rfl) dM_of_2 ?_
  refine x_aload_n C dM_of_5 rfl 0 rfl ?_
  refine x_iload_n C dM_of_6 rfl 1 rfl ?_
  refine x_callV C (c_M_isNode D mm cmm 0 iu ki mu fs ss tx us te my mo mz mi iz ma mf mp od ar lw oc sk sa sl pp re rd co dq bo lc k Ts y1) kbM_206 kcM_206 [0, 1, 2, 3, 4, 5, 6, 7, 8, 9, 10, 11, 12, 13, 14, 15, 16, 17, 18, 19, 20] [] [0, 1, 2, 3, 4, 5, 6, 7, 8, 9, 10, 11, 12, 13, 14, 15, 16, 17, 18, 19] ([]) rfl rfl (by decide) (by decide) (by decide) rfl 0 rfl rfl ⟨Nat.le_of_ble_eq_true rfl, Nat.le_of_ble_eq_true rfl⟩ ⟨Nat.le_of_ble_eq_true rfl, Nat.le_of_ble_eq_true rfl⟩ [] rfl rfl (Nat.le_of_ble_eq_true rfl) dM_of_7 (fun rv ru hw => ?_)
  rcases hw with ⟨odg, arg, lwg, skg, sag, slg, ocg, rfl, rfl, g1⟩ | ⟨odg, arg, lwg, skg, sag, slg, ids, R, j, rfl, rfl, g1, g2, g3, g4, g5, g6⟩
  ·
    show xk_Go K D 9 0 0 (tc_wM mm cmm 0 iu ki mu fs ss tx us te my mo mz mi iz ma mf mp odg arg lwg ocg skg sag slg pp re rd co dq bo lc) [(0, .ref (mm 0)), (1, .int k), (2, .int w)] 10 [.int (nI 0)]
    refine x_if_ne (tgt := 15) C dM_of_10 (by decide) (fun h => absurd (by decide) h) (fun _ => ?_)
    refine x_iconst (v := xk_oI none) C dM_of_13 (by decide) ?_
    exact x_iret C T .int rfl rfl dM_of_14 (⟨_, _, _, _, _, _, _, by rw [tc_ofa_none g1], rfl⟩)
  ·
    show xk_Go K D 9 0 0 (tc_wM mm cmm 0 iu ki mu fs ss tx us te my mo mz mi iz ma mf mp odg arg lwg ids.length skg sag slg pp re rd co dq bo lc) [(0, .ref (mm 0)), (1, .int k), (2, .int w)] 10 [.int (nI 1)]
    subst g1
    subst g3
    have yw : tc_wf 1 (ids.map (tc_mn ki mu tx)) := tc_Hg_wf g4
    have yl : (ids.map (tc_mn ki mu tx)).length = ids.length := List.length_map _
    have y200 := g4.2.1
    have hth : tc_nth ((ids.map (tc_mn ki mu tx)) :: R) (nI j) = some j := tc_nth_some (by omega) (by omega)
    obtain ⟨i, hi⟩ : ∃ i, ids[j]? = some i := ⟨_, List.getElem?_eq_getElem g2⟩
    have him := List.mem_of_getElem? hi
    have hxj : (ids.map (tc_mn ki mu tx))[j]? = some (tc_mn ki mu tx i) := by rw [List.getElem?_map, hi]; rfl
    have hxd := tc_drop1 hxj
    have hod := g5.1 j i hi
    have hi2 := g4.2.2.1 i him
    have hi11 := g4.2.2.2.2.2 i him
    have hxo := g6.2.2 _ (List.mem_of_getElem? hxj)
    refine x_if_ne (tgt := 15) C dM_of_10 (by decide) (fun _ => ?_) (fun h => absurd h (by decide))
    refine x_aload_n C dM_of_15 rfl 0 rfl ?_
    refine x_iload_n C dM_of_16 rfl 1 rfl ?_
    refine x_callV C (c_M_sizeOf D mm cmm 0 iu ki mu fs ss tx us te my mo mz mi iz ma mf mp odg arg lwg skg sag slg pp re rd co dq bo lc j ids (te (my - 1)) g4 g5 g2) kbM_210 kcM_210 [0, 1, 2, 3, 4, 5, 6, 7, 8, 9, 10, 11, 12, 13, 14, 15, 16, 17, 18, 19, 20] [] [0, 1, 2, 3, 4, 5, 6, 7, 8, 9, 10, 11, 12, 13, 14, 15, 16, 17, 18, 19] ([]) rfl rfl (by decide) (by decide) (by decide) rfl 0 rfl rfl ⟨Nat.le_of_ble_eq_true rfl, Nat.le_of_ble_eq_true rfl⟩ ⟨Nat.le_of_ble_eq_true rfl, Nat.le_of_ble_eq_true rfl⟩ [] rfl rfl (Nat.le_of_ble_eq_true rfl) dM_of_17 (fun rv ru hw => ?_)
    obtain ⟨rfl, rfl⟩ := hw
    show xk_Go K D 9 0 0 (tc_wM mm cmm 0 iu ki mu fs ss tx us te my mo mz mi iz ma mf mp odg arg lwg ids.length skg sag slg pp re rd co dq bo lc) [(0, .ref (mm 0)), (1, .int (nI j)), (2, .int w)] 20 [.int (nI (tc_sz ((ids.map (tc_mn ki mu tx)).drop j)))]
    obtain ⟨Df, Kf, q, hq, hq1, hD0, hK0, hDs, hKs, hst⟩ := tc_ofp yw (j := j) (by omega)
    have hsf := tc_sz_fit (L := (ids.map (tc_mn ki mu tx))) (k := j) (by omega)
    have hsp := tc_sz_pos (L := (ids.map (tc_mn ki mu tx))) (k := j) (by omega)
    have hlq := (g5.2 j q hq).2
    have hlq2 := tc_lev_le yw hq
    refine x_istore_n C [(3, .int (nI (tc_sz ((ids.map (tc_mn ki mu tx)).drop j)))), (0, .ref (mm 0)), (1, .int (nI j)), (2, .int w)] dM_of_20 rfl (by decide) rfl ?_
    refine x_iconst (v := nI 0) C dM_of_21 (by decide) ?_
    refine x_istore C [(4, .int (nI 0)), (3, .int (nI (tc_sz ((ids.map (tc_mn ki mu tx)).drop j)))), (0, .ref (mm 0)), (1, .int (nI j)), (2, .int w)] dM_of_22 (by decide) rfl ?_
    refine x_iconst (v := nI 0) C dM_of_24 (by decide) ?_
    refine x_istore C [(5, .int (nI 0)), (4, .int (nI 0)), (3, .int (nI (tc_sz ((ids.map (tc_mn ki mu tx)).drop j)))), (0, .ref (mm 0)), (1, .int (nI j)), (2, .int w)] dM_of_25 (by decide) rfl ?_
    refine x_iload_n C dM_of_27 rfl 4 rfl ?_
    refine x_istore C [(6, .int (nI j)), (5, .int (nI 0)), (4, .int (nI 0)), (3, .int (nI (tc_sz ((ids.map (tc_mn ki mu tx)).drop j)))), (0, .ref (mm 0)), (1, .int (nI j)), (2, .int w)] dM_of_28 (by decide) rfl ?_
    have lp30 : ∀ (zc : Nat) (n : Nat) (d : Nat) (kk : Nat), (tc_sz ((ids.map (tc_mn ki mu tx)).drop j) - n) < zc → (n ≤ tc_sz ((ids.map (tc_mn ki mu tx)).drop j)) → (d = Df n) → (kk = Kf n) → (d ≤ 200 ∧ kk ≤ 200) → xk_Go K D 9 0 0 (tc_wM mm cmm 0 iu ki mu fs ss tx us te my mo mz mi iz ma mf mp odg arg lwg ids.length skg sag slg pp re rd co dq bo lc) [(0, .ref (mm 0)), (1, .int (nI j)), (2, .int w), (3, .int (nI (tc_sz ((ids.map (tc_mn ki mu tx)).drop j)))), (4, .int (nI d)), (5, .int (nI kk)), (6, .int (nI (j + n)))] 30 [] := by
      intro zc
      induction zc with
      | zero => intro n d kk hm; exact absurd hm (Nat.not_lt_zero _)
      | succ zc ih30 =>
        intro n d kk hm e1 e2 e3 e4
        obtain ⟨e4, e5⟩ := e4
        refine x_iload C dM_of_30 6 rfl ?_
        refine x_iload_n C dM_of_32 rfl 1 rfl ?_
        refine x_iload_n C dM_of_33 rfl 3 rfl ?_
        refine x_iaddN C dM_of_34 ?_
        refine x_icmp_geN (tgt := 136) C (by omega) (by omega) dM_of_35 (by decide) (fun h35 => ?_) (fun h35 => ?_)
        ·
          have hnz : n = tc_sz ((ids.map (tc_mn ki mu tx)).drop j) := by omega
          rw [hnz] at e2 e3
          refine x_iload_n C dM_of_136 rfl 2 rfl ?_
          rcases tc_w6 w with rfl | rfl | rfl | rfl | rfl | rfl | hw
          ·
            refine x_tblIn C 176 dM_of_137 (by decide) (by decide) rfl (by decide) ?_
            refine x_aload_n C dM_of_176 rfl 0 rfl ?_
            refine x_get C fgM_13 0 rfl rfl dM_of_177 ?_
            refine x_aload_n C dM_of_180 rfl 0 rfl ?_
            refine x_get C fgM_44 0 rfl rfl dM_of_181 ?_
            refine x_iload_n C dM_of_184 rfl 1 rfl ?_
            refine x_ild C 10 9 rfl rfl (by omega) (by decide) dM_of_185 ?_
            show xk_Go K D 9 0 0 (tc_wM mm cmm 0 iu ki mu fs ss tx us te my mo mz mi iz ma mf mp odg arg lwg ids.length skg sag slg pp re rd co dq bo lc) [(0, .ref (mm 0)), (1, .int (nI j)), (2, .int (nI 0)), (3, .int (nI (tc_sz ((ids.map (tc_mn ki mu tx)).drop j)))), (4, .int (nI d)), (5, .int (nI kk)), (6, .int (nI (j + n)))] 186 [.int (nI (odg j)), .ref (mm 2)]
            rw [hod]
            refine x_ild C 2 1 rfl rfl (by omega) (by decide) dM_of_186 ?_
            show xk_Go K D 9 0 0 (tc_wM mm cmm 0 iu ki mu fs ss tx us te my mo mz mi iz ma mf mp odg arg lwg ids.length skg sag slg pp re rd co dq bo lc) [(0, .ref (mm 0)), (1, .int (nI j)), (2, .int (nI 0)), (3, .int (nI (tc_sz ((ids.map (tc_mn ki mu tx)).drop j)))), (4, .int (nI d)), (5, .int (nI kk)), (6, .int (nI (j + n)))] 187 [.int (nI (ki i))]
            exact x_iret C T .int rfl rfl dM_of_187 (⟨_, _, _, _, _, _, _, by rw [tc_ofa_some hth hxd]; unfold tc_ofn; rw [if_pos rfl]; rfl, rfl⟩)
          ·
            refine x_tblIn C 188 dM_of_137 (by decide) (by decide) rfl (by decide) ?_
            refine x_iload_n C dM_of_188 rfl 3 rfl ?_
            exact x_iret C T .int rfl rfl dM_of_189 (⟨_, _, _, _, _, _, _, by rw [tc_ofa_some hth hxd]; unfold tc_ofn; rw [if_neg (show ¬ (nI 1 = nI 0) by decide), if_pos rfl]; rw [← hxd]; rfl, rfl⟩)
          ·
            refine x_tblIn C 190 dM_of_137 (by decide) (by decide) rfl (by decide) ?_
            refine x_iload C dM_of_190 4 rfl ?_
            exact x_iret C T .int rfl rfl dM_of_192 (⟨_, _, _, _, _, _, _, by rw [tc_ofa_some hth hxd]; unfold tc_ofn; rw [if_neg (show ¬ (nI 2 = nI 0) by decide), if_neg (show ¬ (nI 2 = nI 1) by decide), if_pos rfl]; rw [← hxd, ← hDs, ← e2]; rfl, rfl⟩)
          ·
            refine x_tblIn C 193 dM_of_137 (by decide) (by decide) rfl (by decide) ?_
            refine x_iload C dM_of_193 5 rfl ?_
            exact x_iret C T .int rfl rfl dM_of_195 (⟨_, _, _, _, _, _, _, by rw [tc_ofa_some hth hxd]; unfold tc_ofn; rw [if_neg (show ¬ (nI 3 = nI 0) by decide), if_neg (show ¬ (nI 3 = nI 1) by decide), if_neg (show ¬ (nI 3 = nI 2) by decide), if_pos rfl]; rw [← hxd, ← hKs, ← e3]; rfl, rfl⟩)
          ·
            refine x_tblIn C 196 dM_of_137 (by decide) (by decide) rfl (by decide) ?_
            refine x_aload_n C dM_of_196 rfl 0 rfl ?_
            refine x_get C fgM_47 0 rfl rfl dM_of_197 ?_
            refine x_iload_n C dM_of_200 rfl 1 rfl ?_
            refine x_ild C 11 10 rfl rfl (by omega) (by decide) dM_of_201 ?_
            show xk_Go K D 9 0 0 (tc_wM mm cmm 0 iu ki mu fs ss tx us te my mo mz mi iz ma mf mp odg arg lwg ids.length skg sag slg pp re rd co dq bo lc) [(0, .ref (mm 0)), (1, .int (nI j)), (2, .int (nI 4)), (3, .int (nI (tc_sz ((ids.map (tc_mn ki mu tx)).drop j)))), (4, .int (nI d)), (5, .int (nI kk)), (6, .int (nI (j + n)))] 202 [.int (xk_oI (arg j))]
            exact x_iret C T .int rfl rfl dM_of_202 (⟨_, _, _, _, _, _, _, by rw [tc_ofa_some hth hxd]; unfold tc_ofn; rw [if_neg (show ¬ (nI 4 = nI 0) by decide), if_neg (show ¬ (nI 4 = nI 1) by decide), if_neg (show ¬ (nI 4 = nI 2) by decide), if_neg (show ¬ (nI 4 = nI 3) by decide), if_pos rfl]; rw [tc_par_E hq, (g5.2 j q hq).1], rfl⟩)
          ·
            refine x_tblIn C 203 dM_of_137 (by decide) (by decide) rfl (by decide) ?_
            refine x_aload_n C dM_of_203 rfl 0 rfl ?_
            refine x_get C fgM_13 0 rfl rfl dM_of_204 ?_
            refine x_aload_n C dM_of_207 rfl 0 rfl ?_
            refine x_get C fgM_44 0 rfl rfl dM_of_208 ?_
            refine x_iload_n C dM_of_211 rfl 1 rfl ?_
            refine x_ild C 10 9 rfl rfl (by omega) (by decide) dM_of_212 ?_
            show xk_Go K D 9 0 0 (tc_wM mm cmm 0 iu ki mu fs ss tx us te my mo mz mi iz ma mf mp odg arg lwg ids.length skg sag slg pp re rd co dq bo lc) [(0, .ref (mm 0)), (1, .int (nI j)), (2, .int (nI 5)), (3, .int (nI (tc_sz ((ids.map (tc_mn ki mu tx)).drop j)))), (4, .int (nI d)), (5, .int (nI kk)), (6, .int (nI (j + n)))] 213 [.int (nI (odg j)), .ref (mm 2)]
            rw [hod]
            refine x_ild C 2 1 rfl rfl (by omega) (by decide) dM_of_213 ?_
            show xk_Go K D 9 0 0 (tc_wM mm cmm 0 iu ki mu fs ss tx us te my mo mz mi iz ma mf mp odg arg lwg ids.length skg sag slg pp re rd co dq bo lc) [(0, .ref (mm 0)), (1, .int (nI j)), (2, .int (nI 5)), (3, .int (nI (tc_sz ((ids.map (tc_mn ki mu tx)).drop j)))), (4, .int (nI d)), (5, .int (nI kk)), (6, .int (nI (j + n)))] 214 [.int (nI (ki i))]
            refine x_bipush (v := nI 8) C dM_of_214 (by decide) ?_
            refine x_icmp_neN (tgt := 234) C (by omega) (by decide) dM_of_216 (by decide) (fun h216 => ?_) (fun h216 => ?_)
            ·
              refine x_iconst (v := xk_oI none) C dM_of_234 (by decide) ?_
              exact x_iret C T .int rfl rfl dM_of_235 (⟨_, _, _, _, _, _, _, by rw [tc_ofa_some hth hxd]; unfold tc_ofn; rw [if_neg (show ¬ (nI 5 = nI 0) by decide), if_neg (show ¬ (nI 5 = nI 1) by decide), if_neg (show ¬ (nI 5 = nI 2) by decide), if_neg (show ¬ (nI 5 = nI 3) by decide), if_neg (show ¬ (nI 5 = nI 4) by decide), if_pos rfl]; rw [if_neg (show ¬ (tc_mn ki mu tx i).1 = 8 from h216)], rfl⟩)
            ·
              refine x_aload_n C dM_of_219 rfl 0 rfl ?_
              refine x_get C fgM_17 0 rfl rfl dM_of_220 ?_
              refine x_aload_n C dM_of_223 rfl 0 rfl ?_
              refine x_get C fgM_44 0 rfl rfl dM_of_224 ?_
              refine x_iload_n C dM_of_227 rfl 1 rfl ?_
              refine x_ild C 10 9 rfl rfl (by omega) (by decide) dM_of_228 ?_
              show xk_Go K D 9 0 0 (tc_wM mm cmm 0 iu ki mu fs ss tx us te my mo mz mi iz ma mf mp odg arg lwg ids.length skg sag slg pp re rd co dq bo lc) [(0, .ref (mm 0)), (1, .int (nI j)), (2, .int (nI 5)), (3, .int (nI (tc_sz ((ids.map (tc_mn ki mu tx)).drop j)))), (4, .int (nI d)), (5, .int (nI kk)), (6, .int (nI (j + n)))] 229 [.int (nI (odg j)), .ref (mm 3)]
              rw [hod]
              refine x_lld C 3 2 rfl rfl (by omega) (by decide) dM_of_229 ?_
              obtain ⟨c, hc1, hc2, hc3, hc4⟩ := tc_mn_cnt hxo h216
              rw [hc1]
              refine x_l2i (v := nI c) C dM_of_230 (lN_i _) ?_
              refine x_goto C 235 dM_of_231 (by decide) ?_
              exact x_iret C T .int rfl rfl dM_of_235 (⟨_, _, _, _, _, _, _, by rw [tc_ofa_some hth hxd]; unfold tc_ofn; rw [if_neg (show ¬ (nI 5 = nI 0) by decide), if_neg (show ¬ (nI 5 = nI 1) by decide), if_neg (show ¬ (nI 5 = nI 2) by decide), if_neg (show ¬ (nI 5 = nI 3) by decide), if_neg (show ¬ (nI 5 = nI 4) by decide), if_pos rfl]; rw [if_pos (show (tc_mn ki mu tx i).1 = 8 from h216), hc4]; rfl, rfl⟩)
          ·
            refine x_tblOut C 236 dM_of_137 hw (by decide) ?_
            refine x_iconst (v := xk_oI none) C dM_of_236 (by decide) ?_
            exact x_iret C T .int rfl rfl dM_of_237 (⟨_, _, _, _, _, _, _, by rw [tc_ofa_some hth hxd, tc_ofn_no hw], rfl⟩)
        ·
          obtain ⟨e, x, hee, hxx, hl1, hl2, hDn, hKn⟩ := hst n (by omega)
          have hlv := (g5.2 _ e hee).2
          have hlle := tc_lev_le yw hee
          have hll := tc_E_ll hee
          obtain ⟨c, hc⟩ : ∃ c, ids[j + n]? = some c := ⟨_, List.getElem?_eq_getElem (by omega)⟩
          have hcm := List.mem_of_getElem? hc
          have hoc := g5.1 _ c hc
          have hc2 := g4.2.2.1 c hcm
          have hxc : x = tc_mn ki mu tx c := tc_mn_at hxx hc
          have hk11 := g4.2.2.2.2.2 c hcm
          have hxo2 := g6.2.2 x (List.mem_of_getElem? hxx)
          refine x_aload_n C dM_of_38 rfl 0 rfl ?_
          refine x_get C fgM_50 0 rfl rfl dM_of_39 ?_
          refine x_iload C dM_of_42 6 rfl ?_
          refine x_ild C 12 11 rfl rfl (by omega) (by decide) dM_of_44 ?_
          show xk_Go K D 9 0 0 (tc_wM mm cmm 0 iu ki mu fs ss tx us te my mo mz mi iz ma mf mp odg arg lwg ids.length skg sag slg pp re rd co dq bo lc) [(0, .ref (mm 0)), (1, .int (nI j)), (2, .int w), (3, .int (nI (tc_sz ((ids.map (tc_mn ki mu tx)).drop j)))), (4, .int (nI d)), (5, .int (nI kk)), (6, .int (nI (j + n)))] 45 [.int (nI (lwg (j + n)))]
          refine x_aload_n C dM_of_45 rfl 0 rfl ?_
          refine x_get C fgM_50 0 rfl rfl dM_of_46 ?_
          refine x_iload_n C dM_of_49 rfl 1 rfl ?_
          refine x_ild C 12 11 rfl rfl (by omega) (by decide) dM_of_50 ?_
          show xk_Go K D 9 0 0 (tc_wM mm cmm 0 iu ki mu fs ss tx us te my mo mz mi iz ma mf mp odg arg lwg ids.length skg sag slg pp re rd co dq bo lc) [(0, .ref (mm 0)), (1, .int (nI j)), (2, .int w), (3, .int (nI (tc_sz ((ids.map (tc_mn ki mu tx)).drop j)))), (4, .int (nI d)), (5, .int (nI kk)), (6, .int (nI (j + n)))] 51 [.int (nI (lwg j)), .int (nI (lwg (j + n)))]
          refine x_isubN C (by omega) dM_of_51 ?_
          refine x_iconst (v := nI 1) C dM_of_52 (by decide) ?_
          refine x_iaddN C dM_of_53 ?_
          refine x_istore C [(7, .int (nI (lwg (j + n) - (lwg j) + 1))), (0, .ref (mm 0)), (1, .int (nI j)), (2, .int w), (3, .int (nI (tc_sz ((ids.map (tc_mn ki mu tx)).drop j)))), (4, .int (nI d)), (5, .int (nI kk)), (6, .int (nI (j + n)))] dM_of_54 (by decide) rfl ?_
          refine x_iload C dM_of_56 0 rfl ?_
          refine x_iload C dM_of_58 5 rfl ?_
          refine x_icmp_leN (tgt := 68) C (by omega) (by omega) dM_of_60 (by decide) (fun h60 => ?_) (fun h60 => ?_)
          ·
            refine x_iload C dM_of_68 5 rfl ?_
            refine x_istore C [(4, .int (nI d)), (7, .int (nI (lwg (j + n) - (lwg j) + 1))), (0, .ref (mm 0)), (1, .int (nI j)), (2, .int w), (3, .int (nI (tc_sz ((ids.map (tc_mn ki mu tx)).drop j)))), (5, .int (nI kk)), (6, .int (nI (j + n)))] dM_of_70 (by decide) rfl ?_
            refine x_aload_n C dM_of_72 rfl 2 rfl ?_
            refine x_get C fgM_13 0 rfl rfl dM_of_73 ?_
            refine x_aload_n C dM_of_76 rfl 2 rfl ?_
            refine x_get C fgM_44 0 rfl rfl dM_of_77 ?_
            refine x_iload C dM_of_80 7 rfl ?_
            refine x_ild C 10 9 rfl rfl (by omega) (by decide) dM_of_82 ?_
            show xk_Go K D 9 0 0 (tc_wM mm cmm 0 iu ki mu fs ss tx us te my mo mz mi iz ma mf mp odg arg lwg ids.length skg sag slg pp re rd co dq bo lc) [(4, .int (nI d)), (7, .int (nI (lwg (j + n) - (lwg j) + 1))), (0, .ref (mm 0)), (1, .int (nI j)), (2, .int w), (3, .int (nI (tc_sz ((ids.map (tc_mn ki mu tx)).drop j)))), (5, .int (nI kk)), (6, .int (nI (j + n)))] 83 [.int (nI (odg (j + n))), .ref (mm 2)]
            rw [hoc]
            refine x_ild C 2 1 rfl rfl (by omega) (by decide) dM_of_83 ?_
            show xk_Go K D 9 0 0 (tc_wM mm cmm 0 iu ki mu fs ss tx us te my mo mz mi iz ma mf mp odg arg lwg ids.length skg sag slg pp re rd co dq bo lc) [(4, .int (nI d)), (7, .int (nI (lwg (j + n) - (lwg j) + 1))), (0, .ref (mm 0)), (1, .int (nI j)), (2, .int w), (3, .int (nI (tc_sz ((ids.map (tc_mn ki mu tx)).drop j)))), (5, .int (nI kk)), (6, .int (nI (j + n)))] 84 [.int (nI (ki c))]
            refine x_if_neN (tgt := 111) C (by omega) dM_of_84 (by decide) (fun h84 => ?_) (fun h84 => ?_)
            ·
              rw [if_neg (show ¬ x.1 = 0 by rw [hxc]; exact h84)] at hKn
              refine x_iconst (v := nI 0) C dM_of_111 (by decide) ?_
              refine x_istore C [(8, .int (nI 0)), (4, .int (nI d)), (7, .int (nI (lwg (j + n) - (lwg j) + 1))), (0, .ref (mm 0)), (1, .int (nI j)), (2, .int w), (3, .int (nI (tc_sz ((ids.map (tc_mn ki mu tx)).drop j)))), (5, .int (nI kk)), (6, .int (nI (j + n)))] dM_of_112 (by decide) rfl ?_
              refine x_iload C dM_of_114 0 rfl ?_
              refine x_iload C dM_of_116 7 rfl ?_
              refine x_icmp_leN (tgt := 126) C (by decide) (by omega) dM_of_118 (by decide) (fun h118 => ?_) (fun h118 => ?_)
              ·
                refine x_iload C dM_of_126 7 rfl ?_
                refine x_istore C [(5, .int (nI kk)), (8, .int (nI 0)), (4, .int (nI d)), (7, .int (nI (lwg (j + n) - (lwg j) + 1))), (0, .ref (mm 0)), (1, .int (nI j)), (2, .int w), (3, .int (nI (tc_sz ((ids.map (tc_mn ki mu tx)).drop j)))), (6, .int (nI (j + n)))] dM_of_128 (by decide) rfl ?_
                refine x_iinc (q := 8) C (nI (j + n + 1)) [(6, .int (nI (j + n + 1))), (5, .int (nI kk)), (8, .int (nI 0)), (4, .int (nI d)), (7, .int (nI (lwg (j + n) - (lwg j) + 1))), (0, .ref (mm 0)), (1, .int (nI j)), (2, .int w), (3, .int (nI (tc_sz ((ids.map (tc_mn ki mu tx)).drop j))))] dM_of_130 rfl (nI_add (j + n) 1) (by decide) rfl ?_
                refine x_goto C 30 dM_of_133 (by decide) ?_
                exact x_sub [5, 6, 7, 8, 3, 1, 0] rfl (ih30 (n + 1) d kk (by omega) (by omega) (by omega) (by omega) (⟨by omega, by omega⟩))
              ·
                exact absurd h118 (by omega)
            ·
              rw [if_pos (show x.1 = 0 by rw [hxc]; exact h84)] at hKn
              refine x_aload_n C dM_of_87 rfl 2 rfl ?_
              refine x_get C fgM_17 0 rfl rfl dM_of_88 ?_
              refine x_aload_n C dM_of_91 rfl 2 rfl ?_
              refine x_get C fgM_44 0 rfl rfl dM_of_92 ?_
              refine x_iload C dM_of_95 7 rfl ?_
              refine x_ild C 10 9 rfl rfl (by omega) (by decide) dM_of_97 ?_
              show xk_Go K D 9 0 0 (tc_wM mm cmm 0 iu ki mu fs ss tx us te my mo mz mi iz ma mf mp odg arg lwg ids.length skg sag slg pp re rd co dq bo lc) [(4, .int (nI d)), (7, .int (nI (lwg (j + n) - (lwg j) + 1))), (0, .ref (mm 0)), (1, .int (nI j)), (2, .int w), (3, .int (nI (tc_sz ((ids.map (tc_mn ki mu tx)).drop j)))), (5, .int (nI kk)), (6, .int (nI (j + n)))] 98 [.int (nI (odg (j + n))), .ref (mm 3)]
              rw [hoc]
              refine x_lld C 3 2 rfl rfl (by omega) (by decide) dM_of_98 ?_
              obtain ⟨v, hv, hv2⟩ := tc_okn_lN (hxc ▸ hxo2) (Or.inl h84)
              have hv : mu c = lN v := hv
              rw [hv]
              rw [show x.2.1.toInt.toNat = v by rw [hxc]; show (mu c).toInt.toNat = v; rw [hv, pk_lT (by omega), Int.toNat_natCast]] at hKn
              refine x_l2i (v := nI v) C dM_of_99 (lN_i _) ?_
              refine x_aload_n C dM_of_100 rfl 2 rfl ?_
              refine x_iload C dM_of_101 7 rfl ?_
              refine x_iload_n C dM_of_103 rfl 3 rfl ?_
              refine x_callV C (c_M_lambdas D mm cmm 0 iu ki mu fs ss tx us te my mo mz mi iz ma mf mp odg arg lwg ids.length skg sag slg pp re rd co dq bo lc (j + n) j ids (te (my - 1)) e q g4 g5 hee hq (by omega) (by omega) (by omega)) kbM_213 kcM_213 [0, 1, 2, 3, 4, 5, 6, 7, 8, 9, 10, 11, 12, 13, 14, 15, 16, 17, 18, 19, 20] [] [0, 1, 2, 3, 4, 5, 6, 7, 8, 9, 10, 11, 12, 13, 14, 15, 16, 17, 18, 19] ([]) rfl rfl (by decide) (by decide) (by decide) rfl 0 rfl rfl ⟨Nat.le_of_ble_eq_true rfl, Nat.le_of_ble_eq_true rfl⟩ ⟨Nat.le_of_ble_eq_true rfl, Nat.le_of_ble_eq_true rfl⟩ [.int (nI v)] rfl rfl (Nat.le_of_ble_eq_true rfl) dM_of_104 (fun rv ru hw => ?_)
              obtain ⟨lm, rfl, rfl, hlm⟩ := hw
              show xk_Go K D 9 0 0 (tc_wM mm cmm 0 iu ki mu fs ss tx us te my mo mz mi iz ma mf mp odg arg lwg ids.length skg sag slg pp re rd co dq bo lc) [(4, .int (nI d)), (7, .int (nI (lwg (j + n) - (lwg j) + 1))), (0, .ref (mm 0)), (1, .int (nI j)), (2, .int w), (3, .int (nI (tc_sz ((ids.map (tc_mn ki mu tx)).drop j)))), (5, .int (nI kk)), (6, .int (nI (j + n)))] 107 [.int (nI lm), .int (nI v)]
              rcases Nat.lt_or_ge v lm with hvl | hvl
              ·
                refine x_isub C dM_of_107 ?_
                refine x_goto C 112 dM_of_108 (by decide) ?_
                refine x_istore C [(8, .int ((nI v) - (nI lm))), (4, .int (nI d)), (7, .int (nI (lwg (j + n) - (lwg j) + 1))), (0, .ref (mm 0)), (1, .int (nI j)), (2, .int w), (3, .int (nI (tc_sz ((ids.map (tc_mn ki mu tx)).drop j)))), (5, .int (nI kk)), (6, .int (nI (j + n)))] dM_of_112 (by decide) rfl ?_
                refine x_iload C dM_of_114 0 rfl ?_
                refine x_iload C dM_of_116 7 rfl ?_
                refine x_icmp_le (tgt := 126) C dM_of_118 (by decide) (fun h118 => ?_) (fun h118 => ?_)
                ·
                  refine x_iload C dM_of_126 7 rfl ?_
                  refine x_istore C [(5, .int (nI kk)), (8, .int ((nI v) - (nI lm))), (4, .int (nI d)), (7, .int (nI (lwg (j + n) - (lwg j) + 1))), (0, .ref (mm 0)), (1, .int (nI j)), (2, .int w), (3, .int (nI (tc_sz ((ids.map (tc_mn ki mu tx)).drop j)))), (6, .int (nI (j + n)))] dM_of_128 (by decide) rfl ?_
                  refine x_iinc (q := 8) C (nI (j + n + 1)) [(6, .int (nI (j + n + 1))), (5, .int (nI kk)), (8, .int ((nI v) - (nI lm))), (4, .int (nI d)), (7, .int (nI (lwg (j + n) - (lwg j) + 1))), (0, .ref (mm 0)), (1, .int (nI j)), (2, .int w), (3, .int (nI (tc_sz ((ids.map (tc_mn ki mu tx)).drop j))))] dM_of_130 rfl (nI_add (j + n) 1) (by decide) rfl ?_
                  refine x_goto C 30 dM_of_133 (by decide) ?_
                  exact x_sub [5, 6, 7, 8, 3, 1, 0] rfl (ih30 (n + 1) d kk (by omega) (by omega) (by omega) (by omega) (⟨by omega, by omega⟩))
                ·
                  exact absurd (tc_neg_le hvl (by omega) (by omega)) h118
              ·
                refine x_isubN C (by omega) dM_of_107 ?_
                refine x_goto C 112 dM_of_108 (by decide) ?_
                refine x_istore C [(8, .int (nI (v - lm))), (4, .int (nI d)), (7, .int (nI (lwg (j + n) - (lwg j) + 1))), (0, .ref (mm 0)), (1, .int (nI j)), (2, .int w), (3, .int (nI (tc_sz ((ids.map (tc_mn ki mu tx)).drop j)))), (5, .int (nI kk)), (6, .int (nI (j + n)))] dM_of_112 (by decide) rfl ?_
                refine x_iload C dM_of_114 0 rfl ?_
                refine x_iload C dM_of_116 7 rfl ?_
                refine x_icmp_leN (tgt := 126) C (by omega) (by omega) dM_of_118 (by decide) (fun h118 => ?_) (fun h118 => ?_)
                ·
                  refine x_iload C dM_of_126 7 rfl ?_
                  refine x_istore C [(5, .int (nI kk)), (8, .int (nI (v - lm))), (4, .int (nI d)), (7, .int (nI (lwg (j + n) - (lwg j) + 1))), (0, .ref (mm 0)), (1, .int (nI j)), (2, .int w), (3, .int (nI (tc_sz ((ids.map (tc_mn ki mu tx)).drop j)))), (6, .int (nI (j + n)))] dM_of_128 (by decide) rfl ?_
                  refine x_iinc (q := 8) C (nI (j + n + 1)) [(6, .int (nI (j + n + 1))), (5, .int (nI kk)), (8, .int (nI (v - lm))), (4, .int (nI d)), (7, .int (nI (lwg (j + n) - (lwg j) + 1))), (0, .ref (mm 0)), (1, .int (nI j)), (2, .int w), (3, .int (nI (tc_sz ((ids.map (tc_mn ki mu tx)).drop j))))] dM_of_130 rfl (nI_add (j + n) 1) (by decide) rfl ?_
                  refine x_goto C 30 dM_of_133 (by decide) ?_
                  exact x_sub [5, 6, 7, 8, 3, 1, 0] rfl (ih30 (n + 1) d kk (by omega) (by omega) (by omega) (by omega) (⟨by omega, by omega⟩))
                ·
                  refine x_iload C dM_of_121 0 rfl ?_
                  refine x_goto C 128 dM_of_123 (by decide) ?_
                  refine x_istore C [(5, .int (nI (v - lm))), (8, .int (nI (v - lm))), (4, .int (nI d)), (7, .int (nI (lwg (j + n) - (lwg j) + 1))), (0, .ref (mm 0)), (1, .int (nI j)), (2, .int w), (3, .int (nI (tc_sz ((ids.map (tc_mn ki mu tx)).drop j)))), (6, .int (nI (j + n)))] dM_of_128 (by decide) rfl ?_
                  refine x_iinc (q := 8) C (nI (j + n + 1)) [(6, .int (nI (j + n + 1))), (5, .int (nI (v - lm))), (8, .int (nI (v - lm))), (4, .int (nI d)), (7, .int (nI (lwg (j + n) - (lwg j) + 1))), (0, .ref (mm 0)), (1, .int (nI j)), (2, .int w), (3, .int (nI (tc_sz ((ids.map (tc_mn ki mu tx)).drop j))))] dM_of_130 rfl (nI_add (j + n) 1) (by decide) rfl ?_
                  refine x_goto C 30 dM_of_133 (by decide) ?_
                  exact x_sub [5, 6, 7, 8, 3, 1, 0] rfl (ih30 (n + 1) d (v - lm) (by omega) (by omega) (by omega) (by omega) (⟨by omega, by omega⟩))
          ·
            refine x_iload C dM_of_63 0 rfl ?_
            refine x_goto C 70 dM_of_65 (by decide) ?_
            refine x_istore C [(4, .int (nI (lwg (j + n) - (lwg j) + 1))), (7, .int (nI (lwg (j + n) - (lwg j) + 1))), (0, .ref (mm 0)), (1, .int (nI j)), (2, .int w), (3, .int (nI (tc_sz ((ids.map (tc_mn ki mu tx)).drop j)))), (5, .int (nI kk)), (6, .int (nI (j + n)))] dM_of_70 (by decide) rfl ?_
            refine x_aload_n C dM_of_72 rfl 2 rfl ?_
            refine x_get C fgM_13 0 rfl rfl dM_of_73 ?_
            refine x_aload_n C dM_of_76 rfl 2 rfl ?_
            refine x_get C fgM_44 0 rfl rfl dM_of_77 ?_
            refine x_iload C dM_of_80 7 rfl ?_
            refine x_ild C 10 9 rfl rfl (by omega) (by decide) dM_of_82 ?_
            show xk_Go K D 9 0 0 (tc_wM mm cmm 0 iu ki mu fs ss tx us te my mo mz mi iz ma mf mp odg arg lwg ids.length skg sag slg pp re rd co dq bo lc) [(4, .int (nI (lwg (j + n) - (lwg j) + 1))), (7, .int (nI (lwg (j + n) - (lwg j) + 1))), (0, .ref (mm 0)), (1, .int (nI j)), (2, .int w), (3, .int (nI (tc_sz ((ids.map (tc_mn ki mu tx)).drop j)))), (5, .int (nI kk)), (6, .int (nI (j + n)))] 83 [.int (nI (odg (j + n))), .ref (mm 2)]
            rw [hoc]
            refine x_ild C 2 1 rfl rfl (by omega) (by decide) dM_of_83 ?_
            show xk_Go K D 9 0 0 (tc_wM mm cmm 0 iu ki mu fs ss tx us te my mo mz mi iz ma mf mp odg arg lwg ids.length skg sag slg pp re rd co dq bo lc) [(4, .int (nI (lwg (j + n) - (lwg j) + 1))), (7, .int (nI (lwg (j + n) - (lwg j) + 1))), (0, .ref (mm 0)), (1, .int (nI j)), (2, .int w), (3, .int (nI (tc_sz ((ids.map (tc_mn ki mu tx)).drop j)))), (5, .int (nI kk)), (6, .int (nI (j + n)))] 84 [.int (nI (ki c))]
            refine x_if_neN (tgt := 111) C (by omega) dM_of_84 (by decide) (fun h84 => ?_) (fun h84 => ?_)
            ·
              rw [if_neg (show ¬ x.1 = 0 by rw [hxc]; exact h84)] at hKn
              refine x_iconst (v := nI 0) C dM_of_111 (by decide) ?_
              refine x_istore C [(8, .int (nI 0)), (4, .int (nI (lwg (j + n) - (lwg j) + 1))), (7, .int (nI (lwg (j + n) - (lwg j) + 1))), (0, .ref (mm 0)), (1, .int (nI j)), (2, .int w), (3, .int (nI (tc_sz ((ids.map (tc_mn ki mu tx)).drop j)))), (5, .int (nI kk)), (6, .int (nI (j + n)))] dM_of_112 (by decide) rfl ?_
              refine x_iload C dM_of_114 0 rfl ?_
              refine x_iload C dM_of_116 7 rfl ?_
              refine x_icmp_leN (tgt := 126) C (by decide) (by omega) dM_of_118 (by decide) (fun h118 => ?_) (fun h118 => ?_)
              ·
                refine x_iload C dM_of_126 7 rfl ?_
                refine x_istore C [(5, .int (nI kk)), (8, .int (nI 0)), (4, .int (nI (lwg (j + n) - (lwg j) + 1))), (7, .int (nI (lwg (j + n) - (lwg j) + 1))), (0, .ref (mm 0)), (1, .int (nI j)), (2, .int w), (3, .int (nI (tc_sz ((ids.map (tc_mn ki mu tx)).drop j)))), (6, .int (nI (j + n)))] dM_of_128 (by decide) rfl ?_
                refine x_iinc (q := 8) C (nI (j + n + 1)) [(6, .int (nI (j + n + 1))), (5, .int (nI kk)), (8, .int (nI 0)), (4, .int (nI (lwg (j + n) - (lwg j) + 1))), (7, .int (nI (lwg (j + n) - (lwg j) + 1))), (0, .ref (mm 0)), (1, .int (nI j)), (2, .int w), (3, .int (nI (tc_sz ((ids.map (tc_mn ki mu tx)).drop j))))] dM_of_130 rfl (nI_add (j + n) 1) (by decide) rfl ?_
                refine x_goto C 30 dM_of_133 (by decide) ?_
                exact x_sub [5, 6, 7, 8, 3, 1, 0] rfl (ih30 (n + 1) (lwg (j + n) - (lwg j) + 1) kk (by omega) (by omega) (by omega) (by omega) (⟨by omega, by omega⟩))
              ·
                exact absurd h118 (by omega)
            ·
              rw [if_pos (show x.1 = 0 by rw [hxc]; exact h84)] at hKn
              refine x_aload_n C dM_of_87 rfl 2 rfl ?_
              refine x_get C fgM_17 0 rfl rfl dM_of_88 ?_
              refine x_aload_n C dM_of_91 rfl 2 rfl ?_
              refine x_get C fgM_44 0 rfl rfl dM_of_92 ?_
              refine x_iload C dM_of_95 7 rfl ?_
              refine x_ild C 10 9 rfl rfl (by omega) (by decide) dM_of_97 ?_
              show xk_Go K D 9 0 0 (tc_wM mm cmm 0 iu ki mu fs ss tx us te my mo mz mi iz ma mf mp odg arg lwg ids.length skg sag slg pp re rd co dq bo lc) [(4, .int (nI (lwg (j + n) - (lwg j) + 1))), (7, .int (nI (lwg (j + n) - (lwg j) + 1))), (0, .ref (mm 0)), (1, .int (nI j)), (2, .int w), (3, .int (nI (tc_sz ((ids.map (tc_mn ki mu tx)).drop j)))), (5, .int (nI kk)), (6, .int (nI (j + n)))] 98 [.int (nI (odg (j + n))), .ref (mm 3)]
              rw [hoc]
              refine x_lld C 3 2 rfl rfl (by omega) (by decide) dM_of_98 ?_
              obtain ⟨v, hv, hv2⟩ := tc_okn_lN (hxc ▸ hxo2) (Or.inl h84)
              have hv : mu c = lN v := hv
              rw [hv]
              rw [show x.2.1.toInt.toNat = v by rw [hxc]; show (mu c).toInt.toNat = v; rw [hv, pk_lT (by omega), Int.toNat_natCast]] at hKn
              refine x_l2i (v := nI v) C dM_of_99 (lN_i _) ?_
              refine x_aload_n C dM_of_100 rfl 2 rfl ?_
              refine x_iload C dM_of_101 7 rfl ?_
              refine x_iload_n C dM_of_103 rfl 3 rfl ?_
              refine x_callV C (c_M_lambdas D mm cmm 0 iu ki mu fs ss tx us te my mo mz mi iz ma mf mp odg arg lwg ids.length skg sag slg pp re rd co dq bo lc (j + n) j ids (te (my - 1)) e q g4 g5 hee hq (by omega) (by omega) (by omega)) kbM_213 kcM_213 [0, 1, 2, 3, 4, 5, 6, 7, 8, 9, 10, 11, 12, 13, 14, 15, 16, 17, 18, 19, 20] [] [0, 1, 2, 3, 4, 5, 6, 7, 8, 9, 10, 11, 12, 13, 14, 15, 16, 17, 18, 19] ([]) rfl rfl (by decide) (by decide) (by decide) rfl 0 rfl rfl ⟨Nat.le_of_ble_eq_true rfl, Nat.le_of_ble_eq_true rfl⟩ ⟨Nat.le_of_ble_eq_true rfl, Nat.le_of_ble_eq_true rfl⟩ [.int (nI v)] rfl rfl (Nat.le_of_ble_eq_true rfl) dM_of_104 (fun rv ru hw => ?_)
              obtain ⟨lm, rfl, rfl, hlm⟩ := hw
              show xk_Go K D 9 0 0 (tc_wM mm cmm 0 iu ki mu fs ss tx us te my mo mz mi iz ma mf mp odg arg lwg ids.length skg sag slg pp re rd co dq bo lc) [(4, .int (nI (lwg (j + n) - (lwg j) + 1))), (7, .int (nI (lwg (j + n) - (lwg j) + 1))), (0, .ref (mm 0)), (1, .int (nI j)), (2, .int w), (3, .int (nI (tc_sz ((ids.map (tc_mn ki mu tx)).drop j)))), (5, .int (nI kk)), (6, .int (nI (j + n)))] 107 [.int (nI lm), .int (nI v)]
              rcases Nat.lt_or_ge v lm with hvl | hvl
              ·
                refine x_isub C dM_of_107 ?_
                refine x_goto C 112 dM_of_108 (by decide) ?_
                refine x_istore C [(8, .int ((nI v) - (nI lm))), (4, .int (nI (lwg (j + n) - (lwg j) + 1))), (7, .int (nI (lwg (j + n) - (lwg j) + 1))), (0, .ref (mm 0)), (1, .int (nI j)), (2, .int w), (3, .int (nI (tc_sz ((ids.map (tc_mn ki mu tx)).drop j)))), (5, .int (nI kk)), (6, .int (nI (j + n)))] dM_of_112 (by decide) rfl ?_
                refine x_iload C dM_of_114 0 rfl ?_
                refine x_iload C dM_of_116 7 rfl ?_
                refine x_icmp_le (tgt := 126) C dM_of_118 (by decide) (fun h118 => ?_) (fun h118 => ?_)
                ·
                  refine x_iload C dM_of_126 7 rfl ?_
                  refine x_istore C [(5, .int (nI kk)), (8, .int ((nI v) - (nI lm))), (4, .int (nI (lwg (j + n) - (lwg j) + 1))), (7, .int (nI (lwg (j + n) - (lwg j) + 1))), (0, .ref (mm 0)), (1, .int (nI j)), (2, .int w), (3, .int (nI (tc_sz ((ids.map (tc_mn ki mu tx)).drop j)))), (6, .int (nI (j + n)))] dM_of_128 (by decide) rfl ?_
                  refine x_iinc (q := 8) C (nI (j + n + 1)) [(6, .int (nI (j + n + 1))), (5, .int (nI kk)), (8, .int ((nI v) - (nI lm))), (4, .int (nI (lwg (j + n) - (lwg j) + 1))), (7, .int (nI (lwg (j + n) - (lwg j) + 1))), (0, .ref (mm 0)), (1, .int (nI j)), (2, .int w), (3, .int (nI (tc_sz ((ids.map (tc_mn ki mu tx)).drop j))))] dM_of_130 rfl (nI_add (j + n) 1) (by decide) rfl ?_
                  refine x_goto C 30 dM_of_133 (by decide) ?_
                  exact x_sub [5, 6, 7, 8, 3, 1, 0] rfl (ih30 (n + 1) (lwg (j + n) - (lwg j) + 1) kk (by omega) (by omega) (by omega) (by omega) (⟨by omega, by omega⟩))
                ·
                  exact absurd (tc_neg_le hvl (by omega) (by omega)) h118
              ·
                refine x_isubN C (by omega) dM_of_107 ?_
                refine x_goto C 112 dM_of_108 (by decide) ?_
                refine x_istore C [(8, .int (nI (v - lm))), (4, .int (nI (lwg (j + n) - (lwg j) + 1))), (7, .int (nI (lwg (j + n) - (lwg j) + 1))), (0, .ref (mm 0)), (1, .int (nI j)), (2, .int w), (3, .int (nI (tc_sz ((ids.map (tc_mn ki mu tx)).drop j)))), (5, .int (nI kk)), (6, .int (nI (j + n)))] dM_of_112 (by decide) rfl ?_
                refine x_iload C dM_of_114 0 rfl ?_
                refine x_iload C dM_of_116 7 rfl ?_
                refine x_icmp_leN (tgt := 126) C (by omega) (by omega) dM_of_118 (by decide) (fun h118 => ?_) (fun h118 => ?_)
                ·
                  refine x_iload C dM_of_126 7 rfl ?_
                  refine x_istore C [(5, .int (nI kk)), (8, .int (nI (v - lm))), (4, .int (nI (lwg (j + n) - (lwg j) + 1))), (7, .int (nI (lwg (j + n) - (lwg j) + 1))), (0, .ref (mm 0)), (1, .int (nI j)), (2, .int w), (3, .int (nI (tc_sz ((ids.map (tc_mn ki mu tx)).drop j)))), (6, .int (nI (j + n)))] dM_of_128 (by decide) rfl ?_
                  refine x_iinc (q := 8) C (nI (j + n + 1)) [(6, .int (nI (j + n + 1))), (5, .int (nI kk)), (8, .int (nI (v - lm))), (4, .int (nI (lwg (j + n) - (lwg j) + 1))), (7, .int (nI (lwg (j + n) - (lwg j) + 1))), (0, .ref (mm 0)), (1, .int (nI j)), (2, .int w), (3, .int (nI (tc_sz ((ids.map (tc_mn ki mu tx)).drop j))))] dM_of_130 rfl (nI_add (j + n) 1) (by decide) rfl ?_
                  refine x_goto C 30 dM_of_133 (by decide) ?_
                  exact x_sub [5, 6, 7, 8, 3, 1, 0] rfl (ih30 (n + 1) (lwg (j + n) - (lwg j) + 1) kk (by omega) (by omega) (by omega) (by omega) (⟨by omega, by omega⟩))
                ·
                  refine x_iload C dM_of_121 0 rfl ?_
                  refine x_goto C 128 dM_of_123 (by decide) ?_
                  refine x_istore C [(5, .int (nI (v - lm))), (8, .int (nI (v - lm))), (4, .int (nI (lwg (j + n) - (lwg j) + 1))), (7, .int (nI (lwg (j + n) - (lwg j) + 1))), (0, .ref (mm 0)), (1, .int (nI j)), (2, .int w), (3, .int (nI (tc_sz ((ids.map (tc_mn ki mu tx)).drop j)))), (6, .int (nI (j + n)))] dM_of_128 (by decide) rfl ?_
                  refine x_iinc (q := 8) C (nI (j + n + 1)) [(6, .int (nI (j + n + 1))), (5, .int (nI (v - lm))), (8, .int (nI (v - lm))), (4, .int (nI (lwg (j + n) - (lwg j) + 1))), (7, .int (nI (lwg (j + n) - (lwg j) + 1))), (0, .ref (mm 0)), (1, .int (nI j)), (2, .int w), (3, .int (nI (tc_sz ((ids.map (tc_mn ki mu tx)).drop j))))] dM_of_130 rfl (nI_add (j + n) 1) (by decide) rfl ?_
                  refine x_goto C 30 dM_of_133 (by decide) ?_
                  exact x_sub [5, 6, 7, 8, 3, 1, 0] rfl (ih30 (n + 1) (lwg (j + n) - (lwg j) + 1) (v - lm) (by omega) (by omega) (by omega) (by omega) (⟨by omega, by omega⟩))
    exact x_sub [4, 5, 6, 3, 2, 1, 0] rfl (lp30 _ 0 0 0 (Nat.lt_succ_self _) (Nat.zero_le _) hD0.symm hK0.symm (⟨by decide, by decide⟩))
set_option maxHeartbeats 4000000 in
set_option maxRecDepth 100000 in
/-- number -/
theorem c_M_number (D : va_G) (mm : Nat → Nat) (cmm : Nat → ClassId) (th : Nat) (iu : Nat → Bool) (ki : Nat → Nat) (mu : Nat → Int64) (fs : Nat → Option Nat) (ss : Nat → Option Nat) (tx : Nat → Nat) (us : Nat) (te : Nat → Nat) (my : Nat) (mo : Nat → Nat) (mz : Nat) (mi : Nat → Nat) (iz : Nat) (ma : Nat) (mf : Nat) (mp : Option Nat) (od : Nat → Nat) (ar : Nat → Option Nat) (lw : Nat → Nat) (oc : Nat) (sk : Nat → Nat) (sa : Nat → Option Nat) (sl : Nat → Nat) (pp : Nat) (re : Nat → Nat) (rd : Nat) (co : Nat → Nat) (dq : Nat → Nat) (bo : Nat → Nat) (lc : Nat → Nat) (k : Int32) (Ts : List (List tc_Nd)) (y1 : tc_RM Ts (iu, ki, mu, fs, ss, tx) us te my) : xk_Ct yM_number cM_number 4 (some .long) { frames := 2, cells := 0, slots := 0, locals := 48 } D (tc_tM cmm) [.ref (mm 0), .int k] (tc_wM mm cmm th iu ki mu fs ss tx us te my mo mz mi iz ma mf mp od ar lw oc sk sa sl pp re rd co dq bo lc) (fun rv ru => (∃ (odg : Nat → Nat), ∃ (arg : Nat → Option Nat), ∃ (lwg : Nat → Nat), ∃ (skg : Nat → Nat), ∃ (sag : Nat → Option Nat), ∃ (slg : Nat → Nat), ∃ (ocg : Nat), rv = some (.long 0) ∧ ru = tc_wM mm cmm 1 iu ki mu fs ss tx us te my mo mz mi iz ma mf mp odg arg lwg ocg skg sag slg pp re rd co dq bo lc ∧ (tc_nba Ts k = none)) ∨ (∃ (v : Int64), ∃ (odg : Nat → Nat), ∃ (arg : Nat → Option Nat), ∃ (lwg : Nat → Nat), ∃ (skg : Nat → Nat), ∃ (sag : Nat → Option Nat), ∃ (slg : Nat → Nat), ∃ (ocg : Nat), rv = some (.long v) ∧ ru = tc_wM mm cmm 0 iu ki mu fs ss tx us te my mo mz mi iz ma mf mp odg arg lwg ocg skg sag slg pp re rd co dq bo lc ∧ (tc_nba Ts k = some v))) := by
  refine xk_enter (by decide) (Nat.le_of_ble_eq_true rfl) (fun K C T hin => ?_)
  obtain ⟨yu, yv, yn, yc⟩ := tc_RM_us y1
  show xk_Go K D 4 0 0 (tc_wM mm cmm th iu ki mu fs ss tx us te my mo mz mi iz ma mf mp od ar lw oc sk sa sl pp re rd co dq bo lc) [(0, .ref (mm 0)), (1, .int k)] 0 []
  refine x_aload_n C dM_number_0 rfl 0 rfl ?_
  refine x_iload_n C dM_number_1 rfl 1 rfl ?_
  refine x_callV C (c_M_isNode D mm cmm th iu ki mu fs ss tx us te my mo mz mi iz ma mf mp od ar lw oc sk sa sl pp re rd co dq bo lc k Ts y1) kbM_206 kcM_206 [0, 1, 2, 3, 4, 5, 6, 7, 8, 9, 10, 11, 12, 13, 14, 15, 16, 17, 18, 19, 20] [] [0, 1, 2, 3, 4, 5, 6, 7, 8, 9, 10, 11, 12, 13, 14, 15, 16, 17, 18, 19] ([]) rfl rfl (by decide) (by decide) (by decide) rfl 0 rfl rfl ⟨Nat.le_of_ble_eq_true rfl, Nat.le_of_ble_eq_true rfl⟩ ⟨Nat.le_of_ble_eq_true rfl, Nat.le_of_ble_eq_true rfl⟩ [] rfl rfl (Nat.le_of_ble_eq_true rfl) dM_number_2 (fun rv ru hw => ?_)
  rcases hw with ⟨odg, arg, lwg, skg, sag, slg, ocg, rfl, rfl, g1⟩ | ⟨odg, arg, lwg, skg, sag, slg, ids, R, j, rfl, rfl, g1, g2, g3, g4, g5, g6⟩
  ·
    show xk_Go K D 4 0 0 (tc_wM mm cmm th iu ki mu fs ss tx us te my mo mz mi iz ma mf mp odg arg lwg ocg skg sag slg pp re rd co dq bo lc) [(0, .ref (mm 0)), (1, .int k)] 5 [.int (nI 0)]
    refine x_istore_n C [(2, .int (nI 0)), (0, .ref (mm 0)), (1, .int k)] dM_number_5 rfl (by decide) rfl ?_
    refine x_iload_n C dM_number_6 rfl 0 rfl ?_
    refine x_if_eq (tgt := 24) C dM_number_7 (by decide) (fun _ => ?_) (fun h => absurd (by decide) h)
    refine x_iconst (v := xk_oI none) C dM_number_24 (by decide) ?_
    refine x_istore_n C [(3, .int (xk_oI none)), (2, .int (nI 0)), (0, .ref (mm 0)), (1, .int k)] dM_number_25 rfl (by decide) rfl ?_
    refine x_aload_n C dM_number_26 rfl 2 rfl ?_
    refine x_iload_n C dM_number_27 rfl 0 rfl ?_
    refine x_if_eq (tgt := 49) C dM_number_28 (by decide) (fun h => absurd h (by decide)) (fun _ => ?_)
    refine x_iload_n C dM_number_31 rfl 0 rfl ?_
    refine x_bipush (v := nI 6) C dM_number_32 (by decide) ?_
    refine x_icmp_eq (tgt := 49) C dM_number_34 (by decide) (fun h => absurd h (by decide)) (fun _ => ?_)
    refine x_iload_n C dM_number_37 rfl 0 rfl ?_
    refine x_bipush (v := nI 7) C dM_number_38 (by decide) ?_
    refine x_icmp_eq (tgt := 49) C dM_number_40 (by decide) (fun h => absurd h (by decide)) (fun _ => ?_)
    refine x_iload_n C dM_number_43 rfl 0 rfl ?_
    refine x_bipush (v := nI 9) C dM_number_44 (by decide) ?_
    refine x_icmp_ne (tgt := 53) C dM_number_46 (by decide) (fun _ => ?_) (fun h => absurd h (by decide))
    refine x_iconst (v := nI 1) C dM_number_53 (by decide) ?_
    refine x_put C fpM_77 0 (tc_wM mm cmm 1 iu ki mu fs ss tx us te my mo mz mi iz ma mf mp odg arg lwg ocg skg sag slg pp re rd co dq bo lc) rfl rfl rfl rfl (Nat.le_of_ble_eq_true rfl) dM_number_54 ?_
    refine x_aload_n C dM_number_57 rfl 2 rfl ?_
    refine x_get C fgM_77 0 rfl rfl dM_number_58 ?_
    refine x_if_le (tgt := 68) C dM_number_61 (by decide) (fun h => absurd h (by decide)) (fun _ => ?_)
    refine x_lconst (v := 0) C dM_number_64 (by decide) ?_
    refine x_goto C 79 dM_number_65 (by decide) ?_
    exact x_lret C T rfl dM_number_79 (Or.inl (⟨_, _, _, _, _, _, _, rfl, rfl, (tc_nba_none g1)⟩))
  ·
    show xk_Go K D 4 0 0 (tc_wM mm cmm th iu ki mu fs ss tx us te my mo mz mi iz ma mf mp odg arg lwg ids.length skg sag slg pp re rd co dq bo lc) [(0, .ref (mm 0)), (1, .int k)] 5 [.int (nI 1)]
    subst g1
    subst g3
    have yw : tc_wf 1 (ids.map (tc_mn ki mu tx)) := tc_Hg_wf g4
    have yl : (ids.map (tc_mn ki mu tx)).length = ids.length := List.length_map _
    have y200 := g4.2.1
    have hth : tc_nth ((ids.map (tc_mn ki mu tx)) :: R) (nI j) = some j := tc_nth_some (by omega) (by omega)
    obtain ⟨i, hi⟩ : ∃ i, ids[j]? = some i := ⟨_, List.getElem?_eq_getElem g2⟩
    have him := List.mem_of_getElem? hi
    have hxj : (ids.map (tc_mn ki mu tx))[j]? = some (tc_mn ki mu tx i) := by rw [List.getElem?_map, hi]; rfl
    have hxd := tc_drop1 hxj
    have hod := g5.1 j i hi
    have hi2 := g4.2.2.1 i him
    have hi11 := g4.2.2.2.2.2 i him
    have hxo := g6.2.2 _ (List.mem_of_getElem? hxj)
    refine x_istore_n C [(2, .int (nI 1)), (0, .ref (mm 0)), (1, .int (nI j))] dM_number_5 rfl (by decide) rfl ?_
    refine x_iload_n C dM_number_6 rfl 0 rfl ?_
    refine x_if_eq (tgt := 24) C dM_number_7 (by decide) (fun h => absurd h (by decide)) (fun _ => ?_)
    refine x_aload_n C dM_number_10 rfl 1 rfl ?_
    refine x_get C fgM_13 0 rfl rfl dM_number_11 ?_
    refine x_aload_n C dM_number_14 rfl 1 rfl ?_
    refine x_get C fgM_44 0 rfl rfl dM_number_15 ?_
    refine x_iload_n C dM_number_18 rfl 2 rfl ?_
    refine x_ild C 10 9 rfl rfl (by omega) (by decide) dM_number_19 ?_
    show xk_Go K D 4 0 0 (tc_wM mm cmm th iu ki mu fs ss tx us te my mo mz mi iz ma mf mp odg arg lwg ids.length skg sag slg pp re rd co dq bo lc) [(2, .int (nI 1)), (0, .ref (mm 0)), (1, .int (nI j))] 20 [.int (nI (odg j)), .ref (mm 2)]
    rw [hod]
    refine x_ild C 2 1 rfl rfl (by omega) (by decide) dM_number_20 ?_
    show xk_Go K D 4 0 0 (tc_wM mm cmm th iu ki mu fs ss tx us te my mo mz mi iz ma mf mp odg arg lwg ids.length skg sag slg pp re rd co dq bo lc) [(2, .int (nI 1)), (0, .ref (mm 0)), (1, .int (nI j))] 21 [.int (nI (ki i))]
    refine x_goto C 25 dM_number_21 (by decide) ?_
    refine x_istore_n C [(3, .int (nI (ki i))), (2, .int (nI 1)), (0, .ref (mm 0)), (1, .int (nI j))] dM_number_25 rfl (by decide) rfl ?_
    refine x_aload_n C dM_number_26 rfl 2 rfl ?_
    refine x_iload_n C dM_number_27 rfl 0 rfl ?_
    refine x_if_eqN (tgt := 49) C (by omega) dM_number_28 (by decide) (fun h28 => ?_) (fun h28 => ?_)
    ·
      refine x_iconst (v := nI 0) C dM_number_49 (by decide) ?_
      refine x_goto C 54 dM_number_50 (by decide) ?_
      refine x_put C fpM_77 0 (tc_wM mm cmm 0 iu ki mu fs ss tx us te my mo mz mi iz ma mf mp odg arg lwg ids.length skg sag slg pp re rd co dq bo lc) rfl rfl rfl rfl (Nat.le_of_ble_eq_true rfl) dM_number_54 ?_
      refine x_aload_n C dM_number_57 rfl 2 rfl ?_
      refine x_get C fgM_77 0 rfl rfl dM_number_58 ?_
      refine x_if_le (tgt := 68) C dM_number_61 (by decide) (fun _ => ?_) (fun h => absurd (by decide) h)
      refine x_aload_n C dM_number_68 rfl 2 rfl ?_
      refine x_get C fgM_17 0 rfl rfl dM_number_69 ?_
      refine x_aload_n C dM_number_72 rfl 2 rfl ?_
      refine x_get C fgM_44 0 rfl rfl dM_number_73 ?_
      refine x_iload_n C dM_number_76 rfl 3 rfl ?_
      refine x_ild C 10 9 rfl rfl (by omega) (by decide) dM_number_77 ?_
      show xk_Go K D 4 0 0 (tc_wM mm cmm 0 iu ki mu fs ss tx us te my mo mz mi iz ma mf mp odg arg lwg ids.length skg sag slg pp re rd co dq bo lc) [(3, .int (nI (ki i))), (2, .int (nI 1)), (0, .ref (mm 0)), (1, .int (nI j))] 78 [.int (nI (odg j)), .ref (mm 3)]
      rw [hod]
      refine x_lld C 3 2 rfl rfl (by omega) (by decide) dM_number_78 ?_
      exact x_lret C T rfl dM_number_79 (Or.inr (⟨(mu i), _, _, _, _, _, _, _, rfl, rfl, (by rw [tc_nba_some hth hxj]; exact if_pos (decide_eq_true (show ki i = 0 ∨ ki i = 6 ∨ ki i = 7 ∨ ki i = 9 by omega)))⟩))
    ·
      refine x_iload_n C dM_number_31 rfl 0 rfl ?_
      refine x_bipush (v := nI 6) C dM_number_32 (by decide) ?_
      refine x_icmp_eqN (tgt := 49) C (by omega) (by decide) dM_number_34 (by decide) (fun h34 => ?_) (fun h34 => ?_)
      ·
        refine x_iconst (v := nI 0) C dM_number_49 (by decide) ?_
        refine x_goto C 54 dM_number_50 (by decide) ?_
        refine x_put C fpM_77 0 (tc_wM mm cmm 0 iu ki mu fs ss tx us te my mo mz mi iz ma mf mp odg arg lwg ids.length skg sag slg pp re rd co dq bo lc) rfl rfl rfl rfl (Nat.le_of_ble_eq_true rfl) dM_number_54 ?_
        refine x_aload_n C dM_number_57 rfl 2 rfl ?_
        refine x_get C fgM_77 0 rfl rfl dM_number_58 ?_
        refine x_if_le (tgt := 68) C dM_number_61 (by decide) (fun _ => ?_) (fun h => absurd (by decide) h)
        refine x_aload_n C dM_number_68 rfl 2 rfl ?_
        refine x_get C fgM_17 0 rfl rfl dM_number_69 ?_
        refine x_aload_n C dM_number_72 rfl 2 rfl ?_
        refine x_get C fgM_44 0 rfl rfl dM_number_73 ?_
        refine x_iload_n C dM_number_76 rfl 3 rfl ?_
        refine x_ild C 10 9 rfl rfl (by omega) (by decide) dM_number_77 ?_
        show xk_Go K D 4 0 0 (tc_wM mm cmm 0 iu ki mu fs ss tx us te my mo mz mi iz ma mf mp odg arg lwg ids.length skg sag slg pp re rd co dq bo lc) [(3, .int (nI (ki i))), (2, .int (nI 1)), (0, .ref (mm 0)), (1, .int (nI j))] 78 [.int (nI (odg j)), .ref (mm 3)]
        rw [hod]
        refine x_lld C 3 2 rfl rfl (by omega) (by decide) dM_number_78 ?_
        exact x_lret C T rfl dM_number_79 (Or.inr (⟨(mu i), _, _, _, _, _, _, _, rfl, rfl, (by rw [tc_nba_some hth hxj]; exact if_pos (decide_eq_true (show ki i = 0 ∨ ki i = 6 ∨ ki i = 7 ∨ ki i = 9 by omega)))⟩))
      ·
        refine x_iload_n C dM_number_37 rfl 0 rfl ?_
        refine x_bipush (v := nI 7) C dM_number_38 (by decide) ?_
        refine x_icmp_eqN (tgt := 49) C (by omega) (by decide) dM_number_40 (by decide) (fun h40 => ?_) (fun h40 => ?_)
        ·
          refine x_iconst (v := nI 0) C dM_number_49 (by decide) ?_
          refine x_goto C 54 dM_number_50 (by decide) ?_
          refine x_put C fpM_77 0 (tc_wM mm cmm 0 iu ki mu fs ss tx us te my mo mz mi iz ma mf mp odg arg lwg ids.length skg sag slg pp re rd co dq bo lc) rfl rfl rfl rfl (Nat.le_of_ble_eq_true rfl) dM_number_54 ?_
          refine x_aload_n C dM_number_57 rfl 2 rfl ?_
          refine x_get C fgM_77 0 rfl rfl dM_number_58 ?_
          refine x_if_le (tgt := 68) C dM_number_61 (by decide) (fun _ => ?_) (fun h => absurd (by decide) h)
          refine x_aload_n C dM_number_68 rfl 2 rfl ?_
          refine x_get C fgM_17 0 rfl rfl dM_number_69 ?_
          refine x_aload_n C dM_number_72 rfl 2 rfl ?_
          refine x_get C fgM_44 0 rfl rfl dM_number_73 ?_
          refine x_iload_n C dM_number_76 rfl 3 rfl ?_
          refine x_ild C 10 9 rfl rfl (by omega) (by decide) dM_number_77 ?_
          show xk_Go K D 4 0 0 (tc_wM mm cmm 0 iu ki mu fs ss tx us te my mo mz mi iz ma mf mp odg arg lwg ids.length skg sag slg pp re rd co dq bo lc) [(3, .int (nI (ki i))), (2, .int (nI 1)), (0, .ref (mm 0)), (1, .int (nI j))] 78 [.int (nI (odg j)), .ref (mm 3)]
          rw [hod]
          refine x_lld C 3 2 rfl rfl (by omega) (by decide) dM_number_78 ?_
          exact x_lret C T rfl dM_number_79 (Or.inr (⟨(mu i), _, _, _, _, _, _, _, rfl, rfl, (by rw [tc_nba_some hth hxj]; exact if_pos (decide_eq_true (show ki i = 0 ∨ ki i = 6 ∨ ki i = 7 ∨ ki i = 9 by omega)))⟩))
        ·
          refine x_iload_n C dM_number_43 rfl 0 rfl ?_
          refine x_bipush (v := nI 9) C dM_number_44 (by decide) ?_
          refine x_icmp_neN (tgt := 53) C (by omega) (by decide) dM_number_46 (by decide) (fun h46 => ?_) (fun h46 => ?_)
          ·
            refine x_iconst (v := nI 1) C dM_number_53 (by decide) ?_
            refine x_put C fpM_77 0 (tc_wM mm cmm 1 iu ki mu fs ss tx us te my mo mz mi iz ma mf mp odg arg lwg ids.length skg sag slg pp re rd co dq bo lc) rfl rfl rfl rfl (Nat.le_of_ble_eq_true rfl) dM_number_54 ?_
            refine x_aload_n C dM_number_57 rfl 2 rfl ?_
            refine x_get C fgM_77 0 rfl rfl dM_number_58 ?_
            refine x_if_le (tgt := 68) C dM_number_61 (by decide) (fun h => absurd h (by decide)) (fun _ => ?_)
            refine x_lconst (v := 0) C dM_number_64 (by decide) ?_
            refine x_goto C 79 dM_number_65 (by decide) ?_
            exact x_lret C T rfl dM_number_79 (Or.inl (⟨_, _, _, _, _, _, _, rfl, rfl, (by rw [tc_nba_some hth hxj]; exact if_neg (fun z => by have z2 : ki i = 0 ∨ ki i = 6 ∨ ki i = 7 ∨ ki i = 9 := of_decide_eq_true z; omega))⟩))
          ·
            refine x_iconst (v := nI 0) C dM_number_49 (by decide) ?_
            refine x_goto C 54 dM_number_50 (by decide) ?_
            refine x_put C fpM_77 0 (tc_wM mm cmm 0 iu ki mu fs ss tx us te my mo mz mi iz ma mf mp odg arg lwg ids.length skg sag slg pp re rd co dq bo lc) rfl rfl rfl rfl (Nat.le_of_ble_eq_true rfl) dM_number_54 ?_
            refine x_aload_n C dM_number_57 rfl 2 rfl ?_
            refine x_get C fgM_77 0 rfl rfl dM_number_58 ?_
            refine x_if_le (tgt := 68) C dM_number_61 (by decide) (fun _ => ?_) (fun h => absurd (by decide) h)
            refine x_aload_n C dM_number_68 rfl 2 rfl ?_
            refine x_get C fgM_17 0 rfl rfl dM_number_69 ?_
            refine x_aload_n C dM_number_72 rfl 2 rfl ?_
            refine x_get C fgM_44 0 rfl rfl dM_number_73 ?_
            refine x_iload_n C dM_number_76 rfl 3 rfl ?_
            refine x_ild C 10 9 rfl rfl (by omega) (by decide) dM_number_77 ?_
            show xk_Go K D 4 0 0 (tc_wM mm cmm 0 iu ki mu fs ss tx us te my mo mz mi iz ma mf mp odg arg lwg ids.length skg sag slg pp re rd co dq bo lc) [(3, .int (nI (ki i))), (2, .int (nI 1)), (0, .ref (mm 0)), (1, .int (nI j))] 78 [.int (nI (odg j)), .ref (mm 3)]
            rw [hod]
            refine x_lld C 3 2 rfl rfl (by omega) (by decide) dM_number_78 ?_
            exact x_lret C T rfl dM_number_79 (Or.inr (⟨(mu i), _, _, _, _, _, _, _, rfl, rfl, (by rw [tc_nba_some hth hxj]; exact if_pos (decide_eq_true (show ki i = 0 ∨ ki i = 6 ∨ ki i = 7 ∨ ki i = 9 by omega)))⟩))
set_option maxHeartbeats 4000000 in
set_option maxRecDepth 100000 in
/-- byteAt -/
theorem c_M_byteAt (D : va_G) (mm : Nat → Nat) (cmm : Nat → ClassId) (th : Nat) (iu : Nat → Bool) (ki : Nat → Nat) (mu : Nat → Int64) (fs : Nat → Option Nat) (ss : Nat → Option Nat) (tx : Nat → Nat) (us : Nat) (te : Nat → Nat) (my : Nat) (mo : Nat → Nat) (mz : Nat) (mi : Nat → Nat) (iz : Nat) (ma : Nat) (mf : Nat) (mp : Option Nat) (od : Nat → Nat) (ar : Nat → Option Nat) (lw : Nat → Nat) (oc : Nat) (sk : Nat → Nat) (sa : Nat → Option Nat) (sl : Nat → Nat) (pp : Nat) (re : Nat → Nat) (rd : Nat) (co : Nat → Nat) (dq : Nat → Nat) (bo : Nat → Nat) (lc : Nat → Nat) (k : Int32) (jj : Int32) (Ts : List (List tc_Nd)) (y1 : tc_RM Ts (iu, ki, mu, fs, ss, tx) us te my) : xk_Ct yM_byteAt cM_byteAt 3 (some .int) { frames := 2, cells := 0, slots := 0, locals := 48 } D (tc_tM cmm) [.ref (mm 0), .int k, .int jj] (tc_wM mm cmm th iu ki mu fs ss tx us te my mo mz mi iz ma mf mp od ar lw oc sk sa sl pp re rd co dq bo lc) (fun rv ru => (∃ (odg : Nat → Nat), ∃ (arg : Nat → Option Nat), ∃ (lwg : Nat → Nat), ∃ (skg : Nat → Nat), ∃ (sag : Nat → Option Nat), ∃ (slg : Nat → Nat), ∃ (ocg : Nat), rv = some (.int (xk_oI (tc_bta Ts k jj))) ∧ ru = tc_wM mm cmm 0 iu ki mu fs ss tx us te my mo mz mi iz ma mf mp odg arg lwg ocg skg sag slg pp re rd co dq bo lc)) := by
  refine xk_enter (by decide) (Nat.le_of_ble_eq_true rfl) (fun K C T hin => ?_)
  obtain ⟨yu, yv, yn, yc⟩ := tc_RM_us y1
  show xk_Go K D 3 0 0 (tc_wM mm cmm th iu ki mu fs ss tx us te my mo mz mi iz ma mf mp od ar lw oc sk sa sl pp re rd co dq bo lc) [(0, .ref (mm 0)), (1, .int k), (2, .int jj)] 0 []
  refine x_aload_n C dM_byteAt_0 rfl 0 rfl ?_
  refine x_iconst (v := nI 0) C dM_byteAt_1 (by decide) ?_
  refine x_put C fpM_77 0 (tc_wM mm cmm 0 iu ki mu fs ss tx us te my mo mz mi iz ma mf mp od ar lw oc sk sa sl pp re rd co dq bo lc) rfl rfl rfl rfl (Nat.le_of_ble_eq_true rfl) dM_byteAt_2 ?_
  refine x_aload_n C dM_byteAt_5 rfl 0 rfl ?_
  refine x_iload_n C dM_byteAt_6 rfl 1 rfl ?_
  refine x_callV C (c_M_isNode D mm cmm 0 iu ki mu fs ss tx us te my mo mz mi iz ma mf mp od ar lw oc sk sa sl pp re rd co dq bo lc k Ts y1) kbM_206 kcM_206 [0, 1, 2, 3, 4, 5, 6, 7, 8, 9, 10, 11, 12, 13, 14, 15, 16, 17, 18, 19, 20] [] [0, 1, 2, 3, 4, 5, 6, 7, 8, 9, 10, 11, 12, 13, 14, 15, 16, 17, 18, 19] ([]) rfl rfl (by decide) (by decide) (by decide) rfl 0 rfl rfl ⟨Nat.le_of_ble_eq_true rfl, Nat.le_of_ble_eq_true rfl⟩ ⟨Nat.le_of_ble_eq_true rfl, Nat.le_of_ble_eq_true rfl⟩ [] rfl rfl (Nat.le_of_ble_eq_true rfl) dM_byteAt_7 (fun rv ru hw => ?_)
  rcases hw with ⟨odg, arg, lwg, skg, sag, slg, ocg, rfl, rfl, g1⟩ | ⟨odg, arg, lwg, skg, sag, slg, ids, R, j, rfl, rfl, g1, g2, g3, g4, g5, g6⟩
  ·
    show xk_Go K D 3 0 0 (tc_wM mm cmm 0 iu ki mu fs ss tx us te my mo mz mi iz ma mf mp odg arg lwg ocg skg sag slg pp re rd co dq bo lc) [(0, .ref (mm 0)), (1, .int k), (2, .int jj)] 10 [.int (nI 0)]
    refine x_if_eq (tgt := 73) C dM_byteAt_10 (by decide) (fun _ => ?_) (fun h => absurd (by decide) h)
    refine x_iconst (v := xk_oI none) C dM_byteAt_73 (by decide) ?_
    exact x_iret C T .int rfl rfl dM_byteAt_74 (⟨_, _, _, _, _, _, _, by rw [tc_bta_none g1], rfl⟩)
  ·
    show xk_Go K D 3 0 0 (tc_wM mm cmm 0 iu ki mu fs ss tx us te my mo mz mi iz ma mf mp odg arg lwg ids.length skg sag slg pp re rd co dq bo lc) [(0, .ref (mm 0)), (1, .int k), (2, .int jj)] 10 [.int (nI 1)]
    subst g1
    subst g3
    have yw : tc_wf 1 (ids.map (tc_mn ki mu tx)) := tc_Hg_wf g4
    have yl : (ids.map (tc_mn ki mu tx)).length = ids.length := List.length_map _
    have y200 := g4.2.1
    have hth : tc_nth ((ids.map (tc_mn ki mu tx)) :: R) (nI j) = some j := tc_nth_some (by omega) (by omega)
    obtain ⟨i, hi⟩ : ∃ i, ids[j]? = some i := ⟨_, List.getElem?_eq_getElem g2⟩
    have him := List.mem_of_getElem? hi
    have hxj : (ids.map (tc_mn ki mu tx))[j]? = some (tc_mn ki mu tx i) := by rw [List.getElem?_map, hi]; rfl
    have hxd := tc_drop1 hxj
    have hod := g5.1 j i hi
    have hi2 := g4.2.2.1 i him
    have hi11 := g4.2.2.2.2.2 i him
    have hxo := g6.2.2 _ (List.mem_of_getElem? hxj)
    refine x_if_eq (tgt := 73) C dM_byteAt_10 (by decide) (fun h => absurd h (by decide)) (fun _ => ?_)
    refine x_aload_n C dM_byteAt_13 rfl 0 rfl ?_
    refine x_get C fgM_13 0 rfl rfl dM_byteAt_14 ?_
    refine x_aload_n C dM_byteAt_17 rfl 0 rfl ?_
    refine x_get C fgM_44 0 rfl rfl dM_byteAt_18 ?_
    refine x_iload_n C dM_byteAt_21 rfl 1 rfl ?_
    refine x_ild C 10 9 rfl rfl (by omega) (by decide) dM_byteAt_22 ?_
    show xk_Go K D 3 0 0 (tc_wM mm cmm 0 iu ki mu fs ss tx us te my mo mz mi iz ma mf mp odg arg lwg ids.length skg sag slg pp re rd co dq bo lc) [(0, .ref (mm 0)), (1, .int (nI j)), (2, .int jj)] 23 [.int (nI (odg j)), .ref (mm 2)]
    rw [hod]
    refine x_ild C 2 1 rfl rfl (by omega) (by decide) dM_byteAt_23 ?_
    show xk_Go K D 3 0 0 (tc_wM mm cmm 0 iu ki mu fs ss tx us te my mo mz mi iz ma mf mp odg arg lwg ids.length skg sag slg pp re rd co dq bo lc) [(0, .ref (mm 0)), (1, .int (nI j)), (2, .int jj)] 24 [.int (nI (ki i))]
    refine x_bipush (v := nI 8) C dM_byteAt_24 (by decide) ?_
    refine x_icmp_neN (tgt := 73) C (by omega) (by decide) dM_byteAt_26 (by decide) (fun h26 => ?_) (fun h26 => ?_)
    ·
      refine x_iconst (v := xk_oI none) C dM_byteAt_73 (by decide) ?_
      exact x_iret C T .int rfl rfl dM_byteAt_74 (⟨_, _, _, _, _, _, _, by rw [tc_bta_some hth hxj]; split; · { rw [show (tc_mn ki mu tx i).2.2 = [] from if_neg h26]; rfl }; · rfl, rfl⟩)
    ·
      refine x_iload_n C dM_byteAt_29 rfl 2 rfl ?_
      refine x_if_lt (tgt := 73) C dM_byteAt_30 (by decide) (fun h30 => ?_) (fun h30 => ?_)
      ·
        refine x_iconst (v := xk_oI none) C dM_byteAt_73 (by decide) ?_
        exact x_iret C T .int rfl rfl dM_byteAt_74 (⟨_, _, _, _, _, _, _, by rw [tc_bta_some hth hxj, if_neg (by rw [Int32.lt_iff_toInt_lt, Int32.toInt_zero] at h30; omega)], rfl⟩)
      ·
        obtain ⟨q, hq, rfl⟩ := nI_of h30
        refine x_iload_n C dM_byteAt_33 rfl 2 rfl ?_
        refine x_i2l (v := lN q) C dM_byteAt_34 (nI_l (by omega)) ?_
        refine x_aload_n C dM_byteAt_35 rfl 0 rfl ?_
        refine x_get C fgM_17 0 rfl rfl dM_byteAt_36 ?_
        refine x_aload_n C dM_byteAt_39 rfl 0 rfl ?_
        refine x_get C fgM_44 0 rfl rfl dM_byteAt_40 ?_
        refine x_iload_n C dM_byteAt_43 rfl 1 rfl ?_
        refine x_ild C 10 9 rfl rfl (by omega) (by decide) dM_byteAt_44 ?_
        show xk_Go K D 3 0 0 (tc_wM mm cmm 0 iu ki mu fs ss tx us te my mo mz mi iz ma mf mp odg arg lwg ids.length skg sag slg pp re rd co dq bo lc) [(0, .ref (mm 0)), (1, .int (nI j)), (2, .int (nI q))] 45 [.int (nI (odg j)), .ref (mm 3), .long (lN q)]
        rw [hod]
        refine x_lld C 3 2 rfl rfl (by omega) (by decide) dM_byteAt_45 ?_
        obtain ⟨c, hc1, hc2, hc3, hc4⟩ := tc_mn_cnt hxo h26
        rw [hc1]
        refine x_lcmp C dM_byteAt_46 ?_
        refine x_if_geC (tgt := 73) C dM_byteAt_47 (by decide) (fun h47 => ?_) (fun h47 => ?_)
        ·
          have hqc := (pk_lLE (a := c) (b := q) (by omega) (by omega)).mp h47
          refine x_iconst (v := xk_oI none) C dM_byteAt_73 (by decide) ?_
          exact x_iret C T .int rfl rfl dM_byteAt_74 (⟨_, _, _, _, _, _, _, by rw [tc_bta_some hth hxj, nI_toInt hq, if_pos (by omega), Int.toNat_natCast, List.getElem?_eq_none (by omega)], rfl⟩)
        ·
          have hqc : q < c := Nat.not_le.mp (fun z => h47 ((pk_lLE (a := c) (b := q) (by omega) (by omega)).mpr z))
          refine x_aload_n C dM_byteAt_50 rfl 0 rfl ?_
          refine x_get C fgM_27 0 rfl rfl dM_byteAt_51 ?_
          refine x_bipush (v := nI 64) C dM_byteAt_54 (by decide) ?_
          refine x_aload_n C dM_byteAt_56 rfl 0 rfl ?_
          refine x_get C fgM_44 0 rfl rfl dM_byteAt_57 ?_
          refine x_iload_n C dM_byteAt_60 rfl 1 rfl ?_
          refine x_ild C 10 9 rfl rfl (by omega) (by decide) dM_byteAt_61 ?_
          show xk_Go K D 3 0 0 (tc_wM mm cmm 0 iu ki mu fs ss tx us te my mo mz mi iz ma mf mp odg arg lwg ids.length skg sag slg pp re rd co dq bo lc) [(0, .ref (mm 0)), (1, .int (nI j)), (2, .int (nI q))] 62 [.int (nI (odg j)), .int (nI 64), .ref (mm 6)]
          rw [hod]
          refine x_imulN C dM_byteAt_62 ?_
          refine x_iload_n C dM_byteAt_63 rfl 2 rfl ?_
          refine x_iaddN C dM_byteAt_64 ?_
          refine x_bld C 6 5 rfl rfl (by omega) (by decide) dM_byteAt_65 ?_
          show xk_Go K D 3 0 0 (tc_wM mm cmm 0 iu ki mu fs ss tx us te my mo mz mi iz ma mf mp odg arg lwg ids.length skg sag slg pp re rd co dq bo lc) [(0, .ref (mm 0)), (1, .int (nI j)), (2, .int (nI q))] 66 [.int (xk_sb (tx (64 * i + q)))]
          refine x_sipush (v := nI 255) C dM_byteAt_66 (by decide) ?_
          refine x_iand C dM_byteAt_69 ?_
          refine x_top (xk_sb_and (tx (64 * i + q))) ?_
          refine x_goto C 74 dM_byteAt_70 (by decide) ?_
          exact x_iret C T .int rfl rfl dM_byteAt_74 (⟨_, _, _, _, _, _, _, by rw [tc_bta_some hth hxj, nI_toInt hq, if_pos (by omega), Int.toNat_natCast, tc_mn_byte h26 hc3 hqc]; rfl, rfl⟩)
set_option maxHeartbeats 4000000 in
set_option maxRecDepth 100000 in
/-- look -/
theorem c_M_look (D : va_G) (mm : Nat → Nat) (cmm : Nat → ClassId) (th : Nat) (iu : Nat → Bool) (ki : Nat → Nat) (mu : Nat → Int64) (fs : Nat → Option Nat) (ss : Nat → Option Nat) (tx : Nat → Nat) (us : Nat) (te : Nat → Nat) (my : Nat) (mo : Nat → Nat) (mz : Nat) (mi : Nat → Nat) (iz : Nat) (ma : Nat) (mf : Nat) (mp : Option Nat) (od : Nat → Nat) (ar : Nat → Option Nat) (lw : Nat → Nat) (oc : Nat) (sk : Nat → Nat) (sa : Nat → Option Nat) (sl : Nat → Nat) (pp : Nat) (re : Nat → Nat) (rd : Nat) (co : Nat → Nat) (dq : Nat → Nat) (bo : Nat → Nat) (lc : Nat → Nat) (w : Int32) (Ts : List (List tc_Nd)) (y1 : tc_RM Ts (iu, ki, mu, fs, ss, tx) us te my) : xk_Ct yM_look cM_look 2 (some .int) { frames := 3, cells := 0, slots := 0, locals := 70 } D (tc_tM cmm) [.ref (mm 0), .int w] (tc_wM mm cmm th iu ki mu fs ss tx us te my mo mz mi iz ma mf mp od ar lw oc sk sa sl pp re rd co dq bo lc) (fun rv ru => (∃ (odg : Nat → Nat), ∃ (arg : Nat → Option Nat), ∃ (lwg : Nat → Nat), ∃ (skg : Nat → Nat), ∃ (sag : Nat → Option Nat), ∃ (slg : Nat → Nat), ∃ (ocg : Nat), rv = some (.int (xk_oI (tc_look my us mz iz ma mf mp (tc_lln Ts) w))) ∧ ru = tc_wM mm cmm 0 iu ki mu fs ss tx us te my mo mz mi iz ma mf mp odg arg lwg ocg skg sag slg pp re rd co dq bo lc)) := by
  refine xk_enter (by decide) (Nat.le_of_ble_eq_true rfl) (fun K C T hin => ?_)
  obtain ⟨yu, yv, yn, yc⟩ := tc_RM_us y1
  show xk_Go K D 2 0 0 (tc_wM mm cmm th iu ki mu fs ss tx us te my mo mz mi iz ma mf mp od ar lw oc sk sa sl pp re rd co dq bo lc) [(0, .ref (mm 0)), (1, .int w)] 0 []
  refine x_aload_n C dM_look_0 rfl 0 rfl ?_
  refine x_iconst (v := nI 0) C dM_look_1 (by decide) ?_
  refine x_put C fpM_77 0 (tc_wM mm cmm 0 iu ki mu fs ss tx us te my mo mz mi iz ma mf mp od ar lw oc sk sa sl pp re rd co dq bo lc) rfl rfl rfl rfl (Nat.le_of_ble_eq_true rfl) dM_look_2 ?_
  refine x_iload_n C dM_look_5 rfl 1 rfl ?_
  rcases tc_w8 w with rfl | rfl | rfl | rfl | rfl | rfl | rfl | rfl | hw
  ·
    refine x_tblIn C 52 dM_look_6 (by decide) (by decide) rfl (by decide) ?_
    refine x_aload_n C dM_look_52 rfl 0 rfl ?_
    refine x_get C fgM_94 0 rfl rfl dM_look_53 ?_
    exact x_iret C T .int rfl rfl dM_look_56 (⟨_, _, _, _, _, _, _, by unfold tc_look; rw [if_pos rfl]; rfl, rfl⟩)
  ·
    refine x_tblIn C 57 dM_look_6 (by decide) (by decide) rfl (by decide) ?_
    refine x_aload_n C dM_look_57 rfl 0 rfl ?_
    refine x_get C fgM_84 0 rfl rfl dM_look_58 ?_
    exact x_iret C T .int rfl rfl dM_look_61 (⟨_, _, _, _, _, _, _, by unfold tc_look; rw [if_neg (show ¬ (nI 1 = nI 0) by decide), if_pos rfl]; rfl, rfl⟩)
  ·
    refine x_tblIn C 62 dM_look_6 (by decide) (by decide) rfl (by decide) ?_
    refine x_aload_n C dM_look_62 rfl 0 rfl ?_
    refine x_get C fgM_146 0 rfl rfl dM_look_63 ?_
    exact x_iret C T .int rfl rfl dM_look_66 (⟨_, _, _, _, _, _, _, by unfold tc_look; rw [if_neg (show ¬ (nI 2 = nI 0) by decide), if_neg (show ¬ (nI 2 = nI 1) by decide), if_pos rfl]; rfl, rfl⟩)
  ·
    refine x_tblIn C 67 dM_look_6 (by decide) (by decide) rfl (by decide) ?_
    refine x_aload_n C dM_look_67 rfl 0 rfl ?_
    refine x_get C fgM_159 0 rfl rfl dM_look_68 ?_
    exact x_iret C T .int rfl rfl dM_look_71 (⟨_, _, _, _, _, _, _, by unfold tc_look; rw [if_neg (show ¬ (nI 3 = nI 0) by decide), if_neg (show ¬ (nI 3 = nI 1) by decide), if_neg (show ¬ (nI 3 = nI 2) by decide), if_pos rfl]; rfl, rfl⟩)
  ·
    refine x_tblIn C 72 dM_look_6 (by decide) (by decide) rfl (by decide) ?_
    refine x_aload_n C dM_look_72 rfl 0 rfl ?_
    refine x_get C fgM_162 0 rfl rfl dM_look_73 ?_
    exact x_iret C T .int rfl rfl dM_look_76 (⟨_, _, _, _, _, _, _, by unfold tc_look; rw [if_neg (show ¬ (nI 4 = nI 0) by decide), if_neg (show ¬ (nI 4 = nI 1) by decide), if_neg (show ¬ (nI 4 = nI 2) by decide), if_neg (show ¬ (nI 4 = nI 3) by decide), if_pos rfl]; rfl, rfl⟩)
  ·
    refine x_tblIn C 77 dM_look_6 (by decide) (by decide) rfl (by decide) ?_
    refine x_aload_n C dM_look_77 rfl 0 rfl ?_
    refine x_get C fgM_165 0 rfl rfl dM_look_78 ?_
    exact x_iret C T .int rfl rfl dM_look_81 (⟨_, _, _, _, _, _, _, by unfold tc_look; rw [if_neg (show ¬ (nI 5 = nI 0) by decide), if_neg (show ¬ (nI 5 = nI 1) by decide), if_neg (show ¬ (nI 5 = nI 2) by decide), if_neg (show ¬ (nI 5 = nI 3) by decide), if_neg (show ¬ (nI 5 = nI 4) by decide), if_pos rfl]; rfl, rfl⟩)
  ·
    refine x_tblIn C 82 dM_look_6 (by decide) (by decide) rfl (by decide) ?_
    refine x_aload_n C dM_look_82 rfl 0 rfl ?_
    refine x_get C fgM_40 0 rfl rfl dM_look_83 ?_
    exact x_iret C T .int rfl rfl dM_look_86 (⟨_, _, _, _, _, _, _, by unfold tc_look; rw [if_neg (show ¬ (nI 6 = nI 0) by decide), if_neg (show ¬ (nI 6 = nI 1) by decide), if_neg (show ¬ (nI 6 = nI 2) by decide), if_neg (show ¬ (nI 6 = nI 3) by decide), if_neg (show ¬ (nI 6 = nI 4) by decide), if_neg (show ¬ (nI 6 = nI 5) by decide), if_pos rfl], rfl⟩)
  ·
    refine x_tblIn C 87 dM_look_6 (by decide) (by decide) rfl (by decide) ?_
    refine x_aload_n C dM_look_87 rfl 0 rfl ?_
    refine x_get C fgM_94 0 rfl rfl dM_look_88 ?_
    refine x_if_neN (tgt := 98) C (by omega) dM_look_91 (by decide) (fun h91 => ?_) (fun h91 => ?_)
    ·
      obtain ⟨ids, I, R, rfl, yI, yg, ym⟩ := tc_RM_top y1 (by omega)
      have yokt := tc_RM_okt y1 _ List.mem_cons_self
      refine x_aload_n C dM_look_98 rfl 0 rfl ?_
      refine x_aload_n C dM_look_99 rfl 0 rfl ?_
      refine x_get C fgM_31 0 rfl rfl dM_look_100 ?_
      refine x_aload_n C dM_look_103 rfl 0 rfl ?_
      refine x_get C fgM_94 0 rfl rfl dM_look_104 ?_
      refine x_iconst (v := nI 1) C dM_look_107 (by decide) ?_
      refine x_isubN C (by omega) dM_look_108 ?_
      refine x_ild C 7 6 rfl rfl (by omega) (by decide) dM_look_109 ?_
      show xk_Go K D 2 0 0 (tc_wM mm cmm 0 iu ki mu fs ss tx us te my mo mz mi iz ma mf mp od ar lw oc sk sa sl pp re rd co dq bo lc) [(0, .ref (mm 0)), (1, .int (nI 7))] 110 [.int (nI (te (my - 1))), .ref (mm 0)]
      refine x_callV C (c_M_lengthOfTerm D mm cmm 0 iu ki mu fs ss tx us te my mo mz mi iz ma mf mp od ar lw oc sk sa sl pp re rd co dq bo lc (te (my - 1)) ids yg (fun i hi => yokt.2.2 _ (List.mem_map_of_mem hi))) kbM_153 kcM_153 [0, 1, 2, 3, 4, 5, 6, 7, 8, 9, 10, 11, 12, 13, 14, 15, 16, 17, 18, 19, 20] [] [0, 1, 2, 3, 4, 5, 6, 7, 8, 9, 10, 11, 12, 13, 14, 15, 16, 17, 18, 19] ([]) rfl rfl (by decide) (by decide) (by decide) rfl 0 rfl rfl ⟨Nat.le_of_ble_eq_true rfl, Nat.le_of_ble_eq_true rfl⟩ ⟨Nat.le_of_ble_eq_true rfl, Nat.le_of_ble_eq_true rfl⟩ [] rfl rfl (Nat.le_of_ble_eq_true rfl) dM_look_110 (fun rv ru hw => ?_)
      obtain ⟨odg, arg, lwg, skg, sag, slg, rfl, rfl, g1⟩ := hw
      show xk_Go K D 2 0 0 (tc_wM mm cmm 0 iu ki mu fs ss tx us te my mo mz mi iz ma mf mp odg arg lwg ids.length skg sag slg pp re rd co dq bo lc) [(0, .ref (mm 0)), (1, .int (nI 7))] 113 [.int (nI ((tc_tb (ids.map (tc_mn ki mu tx))).length))]
      exact x_iret C T .int rfl rfl dM_look_113 (⟨_, _, _, _, _, _, _, by unfold tc_look; rw [if_neg (show ¬ (nI 7 = nI 0) by decide), if_neg (show ¬ (nI 7 = nI 1) by decide), if_neg (show ¬ (nI 7 = nI 2) by decide), if_neg (show ¬ (nI 7 = nI 3) by decide), if_neg (show ¬ (nI 7 = nI 4) by decide), if_neg (show ¬ (nI 7 = nI 5) by decide), if_neg (show ¬ (nI 7 = nI 6) by decide), if_pos rfl]; show _ = some (Value.int (nI (tc_ln (ids.map (tc_mn ki mu tx))))); rw [tc_ln_tb yokt], rfl⟩)
    ·
      refine x_iconst (v := xk_oI none) C dM_look_94 (by decide) ?_
      refine x_goto C 113 dM_look_95 (by decide) ?_
      exact x_iret C T .int rfl rfl dM_look_113 (⟨_, _, _, _, _, _, _, by unfold tc_look; rw [if_neg (show ¬ (nI 7 = nI 0) by decide), if_neg (show ¬ (nI 7 = nI 1) by decide), if_neg (show ¬ (nI 7 = nI 2) by decide), if_neg (show ¬ (nI 7 = nI 3) by decide), if_neg (show ¬ (nI 7 = nI 4) by decide), if_neg (show ¬ (nI 7 = nI 5) by decide), if_neg (show ¬ (nI 7 = nI 6) by decide), if_pos rfl]; rw [tc_RM_nil y1 h91]; rfl, rfl⟩)
  ·
    refine x_tblOut C 114 dM_look_6 hw (by decide) ?_
    refine x_iconst (v := xk_oI none) C dM_look_114 (by decide) ?_
    exact x_iret C T .int rfl rfl dM_look_115 (⟨_, _, _, _, _, _, _, by rw [tc_look_no hw], rfl⟩)
