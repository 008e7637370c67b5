set_option maxHeartbeats 4000000 in
set_option maxRecDepth 100000 in
/-- depthOf -/
theorem c_M_depthOf (D : va_G) (mm : Nat → Nat) (cmm : Nat → ClassId) (th : Nat) (iu : Nat → Bool) (ki : Nat → Nat) (mu : Nat → Int64) (fs : Nat → Option Nat) (ss : Nat → Option Nat) (tx : Nat → Nat) (us : Nat) (te : Nat → Nat) (my : Nat) (mo : Nat → Nat) (mz : Nat) (mi : Nat → Nat) (iz : Nat) (ma : Nat) (mf : Nat) (mp : Option Nat) (od : Nat → Nat) (ar : Nat → Option Nat) (lw : Nat → Nat) (oc : Nat) (sk : Nat → Nat) (sa : Nat → Option Nat) (sl : Nat → Nat) (pp : Nat) (re : Nat → Nat) (rd : Nat) (co : Nat → Nat) (dq : Nat → Nat) (bo : Nat → Nat) (lc : Nat → Nat) (r : Nat) (ids : List Nat) (y1 : tc_Hg fs ss ki r ids) : xk_Ct yM_depthOf cM_depthOf 4 (some .int) { frames := 1, cells := 0, slots := 0, locals := 27 } D (tc_tM cmm) [.ref (mm 0), .int (nI r)] (tc_wM mm cmm th iu ki mu fs ss tx us te my mo mz mi iz ma mf mp od ar lw oc sk sa sl pp re rd co dq bo lc) (fun rv ru => (∃ (odg : Nat → Nat), ∃ (arg : Nat → Option Nat), ∃ (lwg : Nat → Nat), ∃ (skg : Nat → Nat), ∃ (sag : Nat → Option Nat), ∃ (slg : Nat → Nat), rv = some (.int (nI (tc_dp (ids.map (tc_mn ki mu tx))))) ∧ ru = tc_wM mm cmm th iu ki mu fs ss tx us te my mo mz mi iz ma mf mp odg arg lwg ids.length skg sag slg pp re rd co dq bo lc ∧ (tc_go ids (tc_E (ids.map (tc_mn ki mu tx))) odg arg lwg))) := by
  refine xk_enter (by decide) (Nat.le_of_ble_eq_true rfl) (fun K C T hin => ?_)
  have yw : tc_wf 1 (ids.map (tc_mn ki mu tx)) := tc_Hg_wf y1
  have yl : (ids.map (tc_mn ki mu tx)).length = ids.length := List.length_map _
  have y200 := y1.2.1
  have ydl := tc_dp_le yw
  show xk_Go K D 4 0 0 (tc_wM mm cmm th iu ki mu fs ss tx us te my mo mz mi iz ma mf mp od ar lw oc sk sa sl pp re rd co dq bo lc) [(0, .ref (mm 0)), (1, .int (nI r))] 0 []
  refine x_aload_n C dM_depthOf_0 rfl 0 rfl ?_
  refine x_iload_n C dM_depthOf_1 rfl 1 rfl ?_
  refine x_callV C (c_M_go D mm cmm th iu ki mu fs ss tx us te my mo mz mi iz ma mf mp od ar lw oc sk sa sl pp re rd co dq bo lc r ids y1.1 y1.2.1 y1.2.2.1 y1.2.2.2.1 y1.2.2.2.2.1) kbM_90 kcM_90 [0, 1, 2, 3, 4, 5, 6, 7, 8, 9, 10, 11, 12, 13, 14, 15, 16, 17, 18, 19, 20] [] [0, 1, 2, 3, 4, 5, 6, 7, 8, 9, 10, 11, 12, 13, 14, 15, 16, 17, 18, 19] ([]) rfl rfl (by decide) (by decide) (by decide) rfl 0 rfl rfl ⟨Nat.le_of_ble_eq_true rfl, Nat.le_of_ble_eq_true rfl⟩ ⟨Nat.le_of_ble_eq_true rfl, Nat.le_of_ble_eq_true rfl⟩ [] rfl rfl (Nat.le_of_ble_eq_true rfl) dM_depthOf_2 (fun rv ru hw => ?_)
  obtain ⟨odg, arg, lwg, skg, sag, slg, rfl, rfl, g1⟩ := hw
  show xk_Go K D 4 0 0 (tc_wM mm cmm th iu ki mu fs ss tx us te my mo mz mi iz ma mf mp odg arg lwg ids.length skg sag slg pp re rd co dq bo lc) [(0, .ref (mm 0)), (1, .int (nI r))] 5 []
  refine x_iconst (v := nI 0) C dM_depthOf_5 (by decide) ?_
  refine x_istore_n C [(2, .int (nI 0)), (0, .ref (mm 0)), (1, .int (nI r))] dM_depthOf_6 rfl (by decide) rfl ?_
  refine x_iconst (v := nI 0) C dM_depthOf_7 (by decide) ?_
  refine x_istore_n C [(3, .int (nI 0)), (2, .int (nI 0)), (0, .ref (mm 0)), (1, .int (nI r))] dM_depthOf_8 rfl (by decide) rfl ?_
  have lp9 : ∀ (zc : Nat) (k : Nat), (ids.length - k) < zc → (k ≤ ids.length) → (tc_mx ((tc_E (ids.map (tc_mn ki mu tx))).take k) ≤ ids.length) → xk_Go K D 4 0 0 (tc_wM mm cmm th iu ki mu fs ss tx us te my mo mz mi iz ma mf mp odg arg lwg ids.length skg sag slg pp re rd co dq bo lc) [(0, .ref (mm 0)), (1, .int (nI r)), (2, .int (nI (tc_mx ((tc_E (ids.map (tc_mn ki mu tx))).take k)))), (3, .int (nI k))] 9 [] := by
    intro zc
    induction zc with
    | zero => intro k hm; exact absurd hm (Nat.not_lt_zero _)
    | succ zc ih9 =>
      intro k hm e1 e2
      refine x_iload_n C dM_depthOf_9 rfl 3 rfl ?_
      refine x_aload_n C dM_depthOf_10 rfl 0 rfl ?_
      refine x_get C fgM_87 0 rfl rfl dM_depthOf_11 ?_
      refine x_icmp_geN (tgt := 44) C (by omega) (by omega) dM_depthOf_14 (by decide) (fun h14 => ?_) (fun h14 => ?_)
      ·
        refine x_iload_n C dM_depthOf_44 rfl 2 rfl ?_
        obtain rfl : k = ids.length := by omega
        exact x_iret C T .int rfl rfl dM_depthOf_45 (⟨_, _, _, _, _, _, by rw [List.take_of_length_le (by rw [tc_E_len yw]; omega), tc_mx_E yw], rfl, g1⟩)
      ·
        obtain ⟨e, he⟩ := tc_E_at yw (k := k) (by omega)
        have hlv : lwg k = e.2.1 := (g1.2 k e he).2
        have hle := tc_lev_le yw he
        refine x_aload_n C dM_depthOf_17 rfl 0 rfl ?_
        refine x_get C fgM_50 0 rfl rfl dM_depthOf_18 ?_
        refine x_iload_n C dM_depthOf_21 rfl 3 rfl ?_
        refine x_ild C 12 11 rfl rfl (by omega) (by decide) dM_depthOf_22 ?_
        show xk_Go K D 4 0 0 (tc_wM mm cmm th iu ki mu fs ss tx us te my mo mz mi iz ma mf mp odg arg lwg ids.length skg sag slg pp re rd co dq bo lc) [(0, .ref (mm 0)), (1, .int (nI r)), (2, .int (nI (tc_mx ((tc_E (ids.map (tc_mn ki mu tx))).take k)))), (3, .int (nI k))] 23 [.int (nI (lwg k))]
        refine x_iload_n C dM_depthOf_23 rfl 2 rfl ?_
        refine x_icmp_leN (tgt := 36) C (by omega) (by omega) dM_depthOf_24 (by decide) (fun h24 => ?_) (fun h24 => ?_)
        ·
          refine x_iload_n C dM_depthOf_36 rfl 2 rfl ?_
          refine x_istore_n C [(2, .int (nI (tc_mx ((tc_E (ids.map (tc_mn ki mu tx))).take k)))), (0, .ref (mm 0)), (1, .int (nI r)), (3, .int (nI k))] dM_depthOf_37 rfl (by decide) rfl ?_
          refine x_iinc (q := 3) C (nI (k + 1)) [(3, .int (nI (k + 1))), (2, .int (nI (tc_mx ((tc_E (ids.map (tc_mn ki mu tx))).take k)))), (0, .ref (mm 0)), (1, .int (nI r))] dM_depthOf_38 rfl (nI_add k 1) (by decide) rfl ?_
          refine x_goto C 9 dM_depthOf_41 (by decide) ?_
          rw [show tc_mx ((tc_E (ids.map (tc_mn ki mu tx))).take k) = tc_mx ((tc_E (ids.map (tc_mn ki mu tx))).take (k + 1)) by rw [tc_mx_take he]; omega]
          exact x_sub [2, 3, 1, 0] rfl (ih9 (k + 1) (by omega) (by omega) (by rw [tc_mx_take he]; omega))
        ·
          refine x_aload_n C dM_depthOf_27 rfl 0 rfl ?_
          refine x_get C fgM_50 0 rfl rfl dM_depthOf_28 ?_
          refine x_iload_n C dM_depthOf_31 rfl 3 rfl ?_
          refine x_ild C 12 11 rfl rfl (by omega) (by decide) dM_depthOf_32 ?_
          show xk_Go K D 4 0 0 (tc_wM mm cmm th iu ki mu fs ss tx us te my mo mz mi iz ma mf mp odg arg lwg ids.length skg sag slg pp re rd co dq bo lc) [(0, .ref (mm 0)), (1, .int (nI r)), (2, .int (nI (tc_mx ((tc_E (ids.map (tc_mn ki mu tx))).take k)))), (3, .int (nI k))] 33 [.int (nI (lwg k))]
          refine x_goto C 37 dM_depthOf_33 (by decide) ?_
          refine x_istore_n C [(2, .int (nI (lwg k))), (0, .ref (mm 0)), (1, .int (nI r)), (3, .int (nI k))] dM_depthOf_37 rfl (by decide) rfl ?_
          refine x_iinc (q := 3) C (nI (k + 1)) [(3, .int (nI (k + 1))), (2, .int (nI (lwg k))), (0, .ref (mm 0)), (1, .int (nI r))] dM_depthOf_38 rfl (nI_add k 1) (by decide) rfl ?_
          refine x_goto C 9 dM_depthOf_41 (by decide) ?_
          rw [hlv, show e.2.1 = tc_mx ((tc_E (ids.map (tc_mn ki mu tx))).take (k + 1)) by rw [tc_mx_take he]; omega]
          exact x_sub [2, 3, 1, 0] rfl (ih9 (k + 1) (by omega) (by omega) (by rw [tc_mx_take he]; omega))
  exact x_sub [2, 3, 1, 0] rfl (lp9 _ 0 (Nat.lt_succ_self _) (Nat.zero_le _) (Nat.zero_le _))
set_option maxHeartbeats 4000000 in
set_option maxRecDepth 100000 in
/-- lambdas -/
theorem c_M_lambdas (D : va_G) (mm : Nat → Nat) (cmm : Nat → ClassId) (th : Nat) (iu : Nat → Bool) (ki : Nat → Nat) (mu : Nat → Int64) (fs : Nat → Option Nat) (ss : Nat → Option Nat) (tx : Nat → Nat) (us : Nat) (te : Nat → Nat) (my : Nat) (mo : Nat → Nat) (mz : Nat) (mi : Nat → Nat) (iz : Nat) (ma : Nat) (mf : Nat) (mp : Option Nat) (od : Nat → Nat) (ar : Nat → Option Nat) (lw : Nat → Nat) (oc : Nat) (sk : Nat → Nat) (sa : Nat → Option Nat) (sl : Nat → Nat) (pp : Nat) (re : Nat → Nat) (rd : Nat) (co : Nat → Nat) (dq : Nat → Nat) (bo : Nat → Nat) (lc : Nat → Nat) (k : Nat) (to : Nat) (ids : List Nat) (r : Nat) (e : tc_Q) (f : tc_Q) (y1 : tc_Hg fs ss ki r ids) (y2 : tc_go ids (tc_E (ids.map (tc_mn ki mu tx))) od ar lw) (y3 : (tc_E (ids.map (tc_mn ki mu tx)))[k]? = some e) (y4 : (tc_E (ids.map (tc_mn ki mu tx)))[to]? = some f) (y5 : to ≤ k) (y6 : k < to + tc_sz ((ids.map (tc_mn ki mu tx)).drop to)) (y7 : k < ids.length) : xk_Ct yM_lambdas cM_lambdas 5 (some .int) { frames := 0, cells := 0, slots := 0, locals := 0 } D (tc_tM cmm) [.ref (mm 0), .int (nI k), .int (nI to)] (tc_wM mm cmm th iu ki mu fs ss tx us te my mo mz mi iz ma mf mp od ar lw oc sk sa sl pp re rd co dq bo lc) (fun rv ru => (∃ (n : Nat), rv = some (.int (nI n)) ∧ ru = tc_wM mm cmm th iu ki mu fs ss tx us te my mo mz mi iz ma mf mp od ar lw oc sk sa sl pp re rd co dq bo lc ∧ (n + f.2.2 = e.2.2))) := by
  refine xk_enter (by decide) (Nat.le_of_ble_eq_true rfl) (fun K C T hin => ?_)
  have yw : tc_wf 1 (ids.map (tc_mn ki mu tx)) := tc_Hg_wf y1
  have yl : (ids.map (tc_mn ki mu tx)).length = ids.length := List.length_map _
  have y200 := y1.2.1
  show xk_Go K D 5 0 0 (tc_wM mm cmm th iu ki mu fs ss tx us te my mo mz mi iz ma mf mp od ar lw oc sk sa sl pp re rd co dq bo lc) [(0, .ref (mm 0)), (1, .int (nI k)), (2, .int (nI to))] 0 []
  refine x_iconst (v := nI 0) C dM_lambdas_0 (by decide) ?_
  refine x_istore_n C [(3, .int (nI 0)), (0, .ref (mm 0)), (1, .int (nI k)), (2, .int (nI to))] dM_lambdas_1 rfl (by decide) rfl ?_
  refine x_aload_n C dM_lambdas_2 rfl 1 rfl ?_
  refine x_get C fgM_47 0 rfl rfl dM_lambdas_3 ?_
  refine x_iload_n C dM_lambdas_6 rfl 2 rfl ?_
  refine x_ild C 11 10 rfl rfl (by omega) (by decide) dM_lambdas_7 ?_
  show xk_Go K D 5 0 0 (tc_wM mm cmm th iu ki mu fs ss tx us te my mo mz mi iz ma mf mp od ar lw oc sk sa sl pp re rd co dq bo lc) [(3, .int (nI 0)), (0, .ref (mm 0)), (1, .int (nI k)), (2, .int (nI to))] 8 [.int (xk_oI (ar k))]
  rw [(y2.2 k e y3).1]
  refine x_istore C [(4, .int (xk_oI e.1)), (3, .int (nI 0)), (0, .ref (mm 0)), (1, .int (nI k)), (2, .int (nI to))] dM_lambdas_8 (by decide) rfl ?_
  have lp10 : ∀ (zc : Nat) (c : Nat) (g : tc_Q) (n : Nat), c < zc → ((tc_E (ids.map (tc_mn ki mu tx)))[c]? = some g) → (to ≤ c) → (c < to + tc_sz ((ids.map (tc_mn ki mu tx)).drop to)) → (n + g.2.2 = e.2.2) → (c < ids.length) → xk_Go K D 5 0 0 (tc_wM mm cmm th iu ki mu fs ss tx us te my mo mz mi iz ma mf mp od ar lw oc sk sa sl pp re rd co dq bo lc) [(0, .ref (mm 0)), (1, .int (nI k)), (2, .int (nI to)), (3, .int (nI n)), (4, .int (xk_oI g.1))] 10 [] := by
    intro zc
    induction zc with
    | zero => intro c g n hm; exact absurd hm (Nat.not_lt_zero _)
    | succ zc ih10 =>
      intro c g n hm e1 e2 e3 e4 e5
      refine x_iload C dM_lambdas_10 4 rfl ?_
      refine x_iload_n C dM_lambdas_12 rfl 2 rfl ?_
      rcases hg1 : g.1 with _ | p
      ·
        refine x_icmp_lt (tgt := 52) C dM_lambdas_13 (by decide) (fun _ => ?_) (fun h => absurd (xk_none_lt (by omega)) h)
        refine x_iload_n C dM_lambdas_52 rfl 3 rfl ?_
        have hc : c = to := by rcases tc_upE yw e1 with ⟨_, z⟩ | ⟨p, z, x, z1, _⟩; omega; rw [hg1] at z1; cases z1
        obtain rfl : g = f := by rw [hc, y4] at e1; simpa using e1.symm
        exact x_iret C T .int rfl rfl dM_lambdas_53 (⟨n, rfl, rfl, e4⟩)
      ·
        rcases tc_upE yw e1 with ⟨z1, _⟩ | ⟨p2, z, x, z1, z2, hz, hx, _, hv⟩
        · rw [hg1] at z1; cases z1
        obtain rfl : p = p2 := by rw [hg1] at z1; simpa using z1
        have hpl : p < ids.length := by omega
        obtain ⟨ip, hip⟩ : ∃ ip, ids[p]? = some ip := ⟨_, List.getElem?_eq_getElem hpl⟩
        have hip2 := y1.2.2.1 ip (List.mem_of_getElem? hip)
        have hip3 := y1.2.2.2.2.2 ip (List.mem_of_getElem? hip)
        refine x_icmp_ltN (tgt := 52) C (by omega) (by omega) dM_lambdas_13 (by decide) (fun h13 => ?_) (fun h13 => ?_)
        ·
          refine x_iload_n C dM_lambdas_52 rfl 3 rfl ?_
          have hc : c = to := by rcases tc_within yw e1 hg1 e2 e3 with q | q; omega; exact q.2
          obtain rfl : g = f := by rw [hc, y4] at e1; simpa using e1.symm
          exact x_iret C T .int rfl rfl dM_lambdas_53 (⟨n, rfl, rfl, e4⟩)
        ·
          have hw : to ≤ p ∧ p < to + tc_sz ((ids.map (tc_mn ki mu tx)).drop to) := by rcases tc_within yw e1 hg1 e2 e3 with q | q; exact ⟨q.1, q.2.1⟩; omega
          have hxk : x.1 = ki ip := by rw [tc_mn_at hx hip]; rfl
          refine x_iload_n C dM_lambdas_16 rfl 3 rfl ?_
          refine x_aload_n C dM_lambdas_17 rfl 0 rfl ?_
          refine x_get C fgM_13 0 rfl rfl dM_lambdas_18 ?_
          refine x_aload_n C dM_lambdas_21 rfl 0 rfl ?_
          refine x_get C fgM_44 0 rfl rfl dM_lambdas_22 ?_
          refine x_iload C dM_lambdas_25 4 rfl ?_
          refine x_ild C 10 9 rfl rfl (by omega) (by decide) dM_lambdas_27 ?_
          show xk_Go K D 5 0 0 (tc_wM mm cmm th iu ki mu fs ss tx us te my mo mz mi iz ma mf mp od ar lw oc sk sa sl pp re rd co dq bo lc) [(0, .ref (mm 0)), (1, .int (nI k)), (2, .int (nI to)), (3, .int (nI n)), (4, .int (nI p))] 28 [.int (nI (od p)), .ref (mm 2), .int (nI n)]
          rw [y2.1 p ip hip]
          refine x_ild C 2 1 rfl rfl (by omega) (by decide) dM_lambdas_28 ?_
          show xk_Go K D 5 0 0 (tc_wM mm cmm th iu ki mu fs ss tx us te my mo mz mi iz ma mf mp od ar lw oc sk sa sl pp re rd co dq bo lc) [(0, .ref (mm 0)), (1, .int (nI k)), (2, .int (nI to)), (3, .int (nI n)), (4, .int (nI p))] 29 [.int (nI (ki ip)), .int (nI n)]
          refine x_iconst (v := nI 1) C dM_lambdas_29 (by decide) ?_
          refine x_icmp_neN (tgt := 37) C (by omega) (by decide) dM_lambdas_30 (by decide) (fun h30 => ?_) (fun h30 => ?_)
          ·
            refine x_iconst (v := nI 0) C dM_lambdas_37 (by decide) ?_
            refine x_iaddN C dM_lambdas_38 ?_
            refine x_istore_n C [(3, .int (nI (n + 0))), (0, .ref (mm 0)), (1, .int (nI k)), (2, .int (nI to)), (4, .int (nI p))] dM_lambdas_39 rfl (by decide) rfl ?_
            refine x_aload_n C dM_lambdas_40 rfl 1 rfl ?_
            refine x_get C fgM_47 0 rfl rfl dM_lambdas_41 ?_
            refine x_iload C dM_lambdas_44 4 rfl ?_
            refine x_ild C 11 10 rfl rfl (by omega) (by decide) dM_lambdas_46 ?_
            show xk_Go K D 5 0 0 (tc_wM mm cmm th iu ki mu fs ss tx us te my mo mz mi iz ma mf mp od ar lw oc sk sa sl pp re rd co dq bo lc) [(3, .int (nI (n + 0))), (0, .ref (mm 0)), (1, .int (nI k)), (2, .int (nI to)), (4, .int (nI p))] 47 [.int (xk_oI (ar p))]
            rw [(y2.2 p z hz).1]
            refine x_istore C [(4, .int (xk_oI z.1)), (3, .int (nI (n + 0))), (0, .ref (mm 0)), (1, .int (nI k)), (2, .int (nI to))] dM_lambdas_47 (by decide) rfl ?_
            refine x_goto C 10 dM_lambdas_49 (by decide) ?_
            exact x_sub [2, 3, 4, 1, 0] rfl (ih10 p z (n + 0) (by omega) hz hw.1 hw.2 (by rw [hv, if_neg (show ¬ x.1 = 1 by rw [hxk]; exact h30)] at e4; omega) hpl)
          ·
            refine x_iconst (v := nI 1) C dM_lambdas_33 (by decide) ?_
            refine x_goto C 38 dM_lambdas_34 (by decide) ?_
            refine x_iaddN C dM_lambdas_38 ?_
            refine x_istore_n C [(3, .int (nI (n + 1))), (0, .ref (mm 0)), (1, .int (nI k)), (2, .int (nI to)), (4, .int (nI p))] dM_lambdas_39 rfl (by decide) rfl ?_
            refine x_aload_n C dM_lambdas_40 rfl 1 rfl ?_
            refine x_get C fgM_47 0 rfl rfl dM_lambdas_41 ?_
            refine x_iload C dM_lambdas_44 4 rfl ?_
            refine x_ild C 11 10 rfl rfl (by omega) (by decide) dM_lambdas_46 ?_
            show xk_Go K D 5 0 0 (tc_wM mm cmm th iu ki mu fs ss tx us te my mo mz mi iz ma mf mp od ar lw oc sk sa sl pp re rd co dq bo lc) [(3, .int (nI (n + 1))), (0, .ref (mm 0)), (1, .int (nI k)), (2, .int (nI to)), (4, .int (nI p))] 47 [.int (xk_oI (ar p))]
            rw [(y2.2 p z hz).1]
            refine x_istore C [(4, .int (xk_oI z.1)), (3, .int (nI (n + 1))), (0, .ref (mm 0)), (1, .int (nI k)), (2, .int (nI to))] dM_lambdas_47 (by decide) rfl ?_
            refine x_goto C 10 dM_lambdas_49 (by decide) ?_
            exact x_sub [2, 3, 4, 1, 0] rfl (ih10 p z (n + 1) (by omega) hz hw.1 hw.2 (by rw [hv, if_pos (show x.1 = 1 by rw [hxk]; exact h30)] at e4; omega) hpl)
  exact x_sub [2, 3, 4, 1, 0] rfl (lp10 _ k e 0 (Nat.lt_succ_self _) y3 y5 y6 (by omega) y7)
set_option maxHeartbeats 4000000 in
set_option maxRecDepth 100000 in
/-- sizeOf -/
theorem c_M_sizeOf (D : va_G) (mm : Nat → Nat) (cmm : Nat → ClassId) (th : Nat) (iu : Nat → Bool) (ki : Nat → Nat) (mu : Nat → Int64) (fs : Nat → Option Nat) (ss : Nat → Option Nat) (tx : Nat → Nat) (us : Nat) (te : Nat → Nat) (my : Nat) (mo : Nat → Nat) (mz : Nat) (mi : Nat → Nat) (iz : Nat) (ma : Nat) (mf : Nat) (mp : Option Nat) (od : Nat → Nat) (ar : Nat → Option Nat) (lw : Nat → Nat) (sk : Nat → Nat) (sa : Nat → Option Nat) (sl : Nat → Nat) (pp : Nat) (re : Nat → Nat) (rd : Nat) (co : Nat → Nat) (dq : Nat → Nat) (bo : Nat → Nat) (lc : Nat → Nat) (k : Nat) (ids : List Nat) (r : Nat) (y1 : tc_Hg fs ss ki r ids) (y2 : tc_go ids (tc_E (ids.map (tc_mn ki mu tx))) od ar lw) (y3 : k < ids.length) : xk_Ct yM_sizeOf cM_sizeOf 3 (some .int) { frames := 0, cells := 0, slots := 0, locals := 0 } D (tc_tM cmm) [.ref (mm 0), .int (nI k)] (tc_wM mm cmm th iu ki mu fs ss tx us te my mo mz mi iz ma mf mp od ar lw ids.length sk sa sl pp re rd co dq bo lc) (fun rv ru => (rv = some (.int (nI (tc_sz ((ids.map (tc_mn ki mu tx)).drop k)))) ∧ ru = tc_wM mm cmm th iu ki mu fs ss tx us te my mo mz mi iz ma mf mp od ar lw ids.length sk sa sl pp re rd co dq bo lc)) := by
  refine xk_enter (by decide) (Nat.le_of_ble_eq_true rfl) (fun K C T hin => ?_)
  have yw : tc_wf 1 (ids.map (tc_mn ki mu tx)) := tc_Hg_wf y1
  have yl : (ids.map (tc_mn ki mu tx)).length = ids.length := List.length_map _
  have y200 := y1.2.1
  obtain ⟨e, he⟩ := tc_E_at yw (k := k) (by omega)
  have hle := tc_lev_le yw he
  have hek := (y2.2 k e he).2
  have hsp := tc_sz_pos (L := ids.map (tc_mn ki mu tx)) (k := k) (by omega)
  have hsf := tc_sz_fit (L := ids.map (tc_mn ki mu tx)) (k := k) (by omega)
  show xk_Go K D 3 0 0 (tc_wM mm cmm th iu ki mu fs ss tx us te my mo mz mi iz ma mf mp od ar lw ids.length sk sa sl pp re rd co dq bo lc) [(0, .ref (mm 0)), (1, .int (nI k))] 0 []
  refine x_iconst (v := nI 1) C dM_sizeOf_0 (by decide) ?_
  refine x_istore_n C [(2, .int (nI 1)), (0, .ref (mm 0)), (1, .int (nI k))] dM_sizeOf_1 rfl (by decide) rfl ?_
  have lp2 : ∀ (zc : Nat) (n : Nat), (ids.length - n) < zc → (n ≤ tc_sz ((ids.map (tc_mn ki mu tx)).drop k)) → (0 < n) → xk_Go K D 3 0 0 (tc_wM mm cmm th iu ki mu fs ss tx us te my mo mz mi iz ma mf mp od ar lw ids.length sk sa sl pp re rd co dq bo lc) [(0, .ref (mm 0)), (1, .int (nI k)), (2, .int (nI n))] 2 [] := by
    intro zc
    induction zc with
    | zero => intro n hm; exact absurd hm (Nat.not_lt_zero _)
    | succ zc ih2 =>
      intro n hm e1 e2
      refine x_iload_n C dM_sizeOf_2 rfl 1 rfl ?_
      refine x_iload_n C dM_sizeOf_3 rfl 2 rfl ?_
      refine x_iaddN C dM_sizeOf_4 ?_
      refine x_aload_n C dM_sizeOf_5 rfl 0 rfl ?_
      refine x_get C fgM_87 0 rfl rfl dM_sizeOf_6 ?_
      refine x_icmp_geN (tgt := 35) C (by omega) (by omega) dM_sizeOf_9 (by decide) (fun h9 => ?_) (fun h9 => ?_)
      ·
        refine x_iload_n C dM_sizeOf_35 rfl 2 rfl ?_
        exact x_iret C T .int rfl rfl dM_sizeOf_36 (⟨by rw [show n = tc_sz ((ids.map (tc_mn ki mu tx)).drop k) by omega], rfl⟩)
      ·
        obtain ⟨f, hf⟩ := tc_E_at yw (k := k + n) (by omega)
        have hlf := tc_lev_le yw hf
        have hef := (y2.2 (k + n) f hf).2
        refine x_aload_n C dM_sizeOf_12 rfl 0 rfl ?_
        refine x_get C fgM_50 0 rfl rfl dM_sizeOf_13 ?_
        refine x_iload_n C dM_sizeOf_16 rfl 1 rfl ?_
        refine x_iload_n C dM_sizeOf_17 rfl 2 rfl ?_
        refine x_iaddN C dM_sizeOf_18 ?_
        refine x_ild C 12 11 rfl rfl (by omega) (by decide) dM_sizeOf_19 ?_
        show xk_Go K D 3 0 0 (tc_wM mm cmm th iu ki mu fs ss tx us te my mo mz mi iz ma mf mp od ar lw ids.length sk sa sl pp re rd co dq bo lc) [(0, .ref (mm 0)), (1, .int (nI k)), (2, .int (nI n))] 20 [.int (nI (lw (k + n)))]
        refine x_aload_n C dM_sizeOf_20 rfl 0 rfl ?_
        refine x_get C fgM_50 0 rfl rfl dM_sizeOf_21 ?_
        refine x_iload_n C dM_sizeOf_24 rfl 1 rfl ?_
        refine x_ild C 12 11 rfl rfl (by omega) (by decide) dM_sizeOf_25 ?_
        show xk_Go K D 3 0 0 (tc_wM mm cmm th iu ki mu fs ss tx us te my mo mz mi iz ma mf mp od ar lw ids.length sk sa sl pp re rd co dq bo lc) [(0, .ref (mm 0)), (1, .int (nI k)), (2, .int (nI n))] 26 [.int (nI (lw k)), .int (nI (lw (k + n)))]
        refine x_icmp_leN (tgt := 35) C (by omega) (by omega) dM_sizeOf_26 (by decide) (fun h26 => ?_) (fun h26 => ?_)
        ·
          refine x_iload_n C dM_sizeOf_35 rfl 2 rfl ?_
          exact x_iret C T .int rfl rfl dM_sizeOf_36 (⟨by rw [show n = tc_sz ((ids.map (tc_mn ki mu tx)).drop k) by rcases Nat.eq_or_lt_of_le e1 with q | q; exact q; exact absurd ((tc_lev_in yw he hf e2).1 q) (by omega)], rfl⟩)
        ·
          refine x_iinc (q := 2) C (nI (n + 1)) [(2, .int (nI (n + 1))), (0, .ref (mm 0)), (1, .int (nI k))] dM_sizeOf_29 rfl (nI_add n 1) (by decide) rfl ?_
          refine x_goto C 2 dM_sizeOf_32 (by decide) ?_
          exact x_sub [1, 2, 0] rfl (ih2 (n + 1) (by omega) (by rcases Nat.eq_or_lt_of_le e1 with q | q; exact absurd ((tc_lev_in yw he hf e2).2 q) (by omega); omega) (by omega))
  exact x_sub [1, 2, 0] rfl (lp2 _ 1 (Nat.lt_succ_self _) (by omega) (by decide))
set_option maxHeartbeats 4000000 in
set_option maxRecDepth 100000 in
/-- clear -/
theorem c_M_clear (D : va_G) (mm : Nat → Nat) (cmm : Nat → ClassId) (th : Nat) (iu : Nat → Bool) (ki : Nat → Nat) (mu : Nat → Int64) (fs : Nat → Option Nat) (ss : Nat → Option Nat) (tx : Nat → Nat) (us : Nat) (te : Nat → Nat) (my : Nat) (mo : Nat → Nat) (mz : Nat) (mi : Nat → Nat) (iz : Nat) (ma : Nat) (mf : Nat) (mp : Option Nat) (od : Nat → Nat) (ar : Nat → Option Nat) (lw : Nat → Nat) (oc : Nat) (sk : Nat → Nat) (sa : Nat → Option Nat) (sl : Nat → Nat) (pp : Nat) (re : Nat → Nat) (rd : Nat) (co : Nat → Nat) (dq : Nat → Nat) (bo : Nat → Nat) (lc : Nat → Nat) : xk_Ct yM_clear cM_clear 2 none { frames := 0, cells := 0, slots := 0, locals := 0 } D (tc_tM cmm) [.ref (mm 0)] (tc_wM mm cmm th iu ki mu fs ss tx us te my mo mz mi iz ma mf mp od ar lw oc sk sa sl pp re rd co dq bo lc) (fun rv ru => (∃ (iug : Nat → Bool), rv = none ∧ ru = tc_wM mm cmm 0 iug ki mu fs ss tx 0 te 0 mo mz mi iz ma mf mp od ar lw oc sk sa sl pp re rd co dq bo lc ∧ (tc_RM [] (iug, ki, mu, fs, ss, tx) 0 te 0))) := by
  refine xk_enter (by decide) (Nat.le_of_ble_eq_true rfl) (fun K C T hin => ?_)
  show xk_Go K D 2 0 0 (tc_wM mm cmm th iu ki mu fs ss tx us te my mo mz mi iz ma mf mp od ar lw oc sk sa sl pp re rd co dq bo lc) [(0, .ref (mm 0))] 0 []
  refine x_aload_n C dM_clear_0 rfl 0 rfl ?_
  refine x_iconst (v := nI 0) C dM_clear_1 (by decide) ?_
  refine x_put C fpM_77 0 (tc_wM mm cmm 0 iu ki mu fs ss tx us te my mo mz mi iz ma mf mp od ar lw oc sk sa sl pp re rd co dq bo lc) rfl rfl rfl rfl (Nat.le_of_ble_eq_true rfl) dM_clear_2 ?_
  refine x_iconst (v := nI 0) C dM_clear_5 (by decide) ?_
  refine x_istore_n C [(1, .int (nI 0)), (0, .ref (mm 0))] dM_clear_6 rfl (by decide) rfl ?_
  have lp7 : ∀ (zc : Nat) (n : Nat) (iug : Nat → Bool), (200 - n) < zc → (n ≤ 200) → (∀ i, i < n → iug i = false) → xk_Go K D 2 0 0 (tc_wM mm cmm 0 iug ki mu fs ss tx us te my mo mz mi iz ma mf mp od ar lw oc sk sa sl pp re rd co dq bo lc) [(0, .ref (mm 0)), (1, .int (nI n))] 7 [] := by
    intro zc
    induction zc with
    | zero => intro n iug hm; exact absurd hm (Nat.not_lt_zero _)
    | succ zc ih7 =>
      intro n iug hm e1 e2
      refine x_iload_n C dM_clear_7 rfl 1 rfl ?_
      refine x_sipush (v := nI 200) C dM_clear_8 (by decide) ?_
      refine x_icmp_geN (tgt := 27) C (by omega) (by decide) dM_clear_11 (by decide) (fun h11 => ?_) (fun h11 => ?_)
      ·
        refine x_aload_n C dM_clear_27 rfl 0 rfl ?_
        refine x_iconst (v := nI 0) C dM_clear_28 (by decide) ?_
        refine x_put C fpM_84 0 (tc_wM mm cmm 0 iug ki mu fs ss tx 0 te my mo mz mi iz ma mf mp od ar lw oc sk sa sl pp re rd co dq bo lc) rfl rfl rfl rfl (Nat.le_of_ble_eq_true rfl) dM_clear_29 ?_
        refine x_aload_n C dM_clear_32 rfl 0 rfl ?_
        refine x_iconst (v := nI 0) C dM_clear_33 (by decide) ?_
        refine x_put C fpM_94 0 (tc_wM mm cmm 0 iug ki mu fs ss tx 0 te 0 mo mz mi iz ma mf mp od ar lw oc sk sa sl pp re rd co dq bo lc) rfl rfl rfl rfl (Nat.le_of_ble_eq_true rfl) dM_clear_34 ?_
        exact x_vret C T rfl dM_clear_37 (⟨_, rfl, rfl, (tc_RM_0 (fun i hi => e2 i (by omega)))⟩)
      ·
        refine x_aload_n C dM_clear_14 rfl 0 rfl ?_
        refine x_get C fgM_7 0 rfl rfl dM_clear_15 ?_
        refine x_iload_n C dM_clear_18 rfl 1 rfl ?_
        refine x_iconst (v := nI 0) C dM_clear_19 (by decide) ?_
        refine x_zst C 1 0 (tc_wM mm cmm 0 (va_up iug n false) ki mu fs ss tx us te my mo mz mi iz ma mf mp od ar lw oc sk sa sl pp re rd co dq bo lc) rfl rfl ((congrArg _ (xk_bZ_nar false)).trans (xk_zA_up iug n false)) rfl (by omega) (by decide) dM_clear_20 ?_
        refine x_iinc (q := 1) C (nI (n + 1)) [(1, .int (nI (n + 1))), (0, .ref (mm 0))] dM_clear_21 rfl (nI_add n 1) (by decide) rfl ?_
        refine x_goto C 7 dM_clear_24 (by decide) ?_
        exact x_sub [1, 0] rfl (ih7 (n + 1) (va_up iug n false) (by omega) h11 (fun i hi => by by_cases q : i = n; rw [q, va_up_self]; rw [va_up_ne _ _ q]; exact e2 i (by omega)))
  exact x_sub [1, 0] rfl (lp7 _ 0 iu (Nat.lt_succ_self _) (Nat.zero_le _) (fun i hi => absurd hi (Nat.not_lt_zero _)))
