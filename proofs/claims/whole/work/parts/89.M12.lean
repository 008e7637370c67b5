set_option maxHeartbeats 4000000 in
set_option maxRecDepth 100000 in
/-- same -/
theorem c_M_same (D : va_G) (mm : Nat → Nat) (cmm : Nat → ClassId) (th : Nat) (iu : Nat → Bool) (ki : Nat → Nat) (mu : Nat → Int64) (fs : Nat → Option Nat) (ss : Nat → Option Nat) (tx : Nat → Nat) (us : Nat) (te : Nat → Nat) (my : Nat) (mo : Nat → Nat) (mz : Nat) (mi : Nat → Nat) (iz : Nat) (ma : Nat) (mf : Nat) (mp : Option Nat) (od : Nat → Nat) (ar : Nat → Option Nat) (lw : Nat → Nat) (oc : Nat) (sk : Nat → Nat) (sa : Nat → Option Nat) (sl : Nat → Nat) (pp : Nat) (re : Nat → Nat) (rd : Nat) (co : Nat → Nat) (dq : Nat → Nat) (bo : Nat → Nat) (lc : Nat → Nat) (Ts : List (List tc_Nd)) (y1 : tc_RM Ts (iu, ki, mu, fs, ss, tx) us te my) : xk_Ct yM_same cM_same 7 (some .boolean) { frames := 1, cells := 0, slots := 0, locals := 27 } D (tc_tM cmm) [.ref (mm 0)] (tc_wM mm cmm th iu ki mu fs ss tx us te my mo mz mi iz ma mf mp od ar lw oc sk sa sl pp re rd co dq bo lc) (fun rv ru => (rv = some (.int (nI 0)) ∧ ru = tc_wM mm cmm 1 iu ki mu fs ss tx us te my mo mz mi iz ma mf mp od ar lw oc sk sa sl pp re rd co dq bo lc ∧ (tc_sm Ts = none)) ∨ (∃ (b : Bool), ∃ (odg : Nat → Nat), ∃ (arg : Nat → Option Nat), ∃ (lwg : Nat → Nat), ∃ (skg : Nat → Nat), ∃ (sag : Nat → Option Nat), ∃ (slg : Nat → Nat), ∃ (ocg : Nat), ∃ (cog : Nat → Nat), rv = some (.int (xk_bZ b)) ∧ ru = tc_wM mm cmm 0 iu ki mu fs ss tx us te my mo mz mi iz ma mf mp odg arg lwg ocg skg sag slg pp re rd cog dq bo lc ∧ (tc_sm Ts = some b))) := by
  refine xk_enter (by decide) (Nat.le_of_ble_eq_true rfl) (fun K C T hin => ?_)
  obtain ⟨yu, yv, yn, yc⟩ := tc_RM_us y1
  show xk_Go K D 7 0 0 (tc_wM mm cmm th iu ki mu fs ss tx us te my mo mz mi iz ma mf mp od ar lw oc sk sa sl pp re rd co dq bo lc) [(0, .ref (mm 0))] 0 []
  refine x_aload_n C dM_same_0 rfl 0 rfl ?_
  refine x_aload_n C dM_same_1 rfl 0 rfl ?_
  refine x_get C fgM_94 0 rfl rfl dM_same_2 ?_
  refine x_iconst (v := nI 2) C dM_same_5 (by decide) ?_
  refine x_icmp_geN (tgt := 13) C (by omega) (by decide) dM_same_6 (by decide) (fun h6 => ?_) (fun h6 => ?_)
  ·
    obtain ⟨ids1, ht1, hg1, hok1⟩ := tc_RM_nth y1 (k := 1) (by omega)
    obtain ⟨ids, ht0, hg0, hok0⟩ := tc_RM_nth y1 (k := 0) (by omega)
    obtain ⟨t, t1, R, rfl⟩ := tc_len2 (l := Ts) (by omega)
    obtain rfl : t1 = ids1.map (tc_mn ki mu tx) := by simpa using ht1
    obtain rfl : t = (ids.map (tc_mn ki mu tx)) := by simpa using ht0
    rw [show my - 1 - 1 = my - 2 by omega] at hg1
    rw [Nat.sub_zero] at hg0
    have hl1 : (ids1.map (tc_mn ki mu tx)).length = ids1.length := List.length_map _
    have hl0 : (ids.map (tc_mn ki mu tx)).length = ids.length := List.length_map _
    have h1200 := hg1.2.1
    have h0200 := hg0.2.1
    refine x_iconst (v := nI 0) C dM_same_13 (by decide) ?_
    refine x_put C fpM_77 0 (tc_wM mm cmm 0 iu ki mu fs ss tx us te my mo mz mi iz ma mf mp od ar lw oc sk sa sl pp re rd co dq bo lc) rfl rfl rfl rfl (Nat.le_of_ble_eq_true rfl) dM_same_14 ?_
    refine x_aload_n C dM_same_17 rfl 0 rfl ?_
    refine x_get C fgM_77 0 rfl rfl dM_same_18 ?_
    refine x_if_le (tgt := 26) C dM_same_21 (by decide) (fun _ => ?_) (fun h => absurd (by decide) h)
    refine x_aload_n C dM_same_26 rfl 0 rfl ?_
    refine x_aload_n C dM_same_27 rfl 0 rfl ?_
    refine x_get C fgM_31 0 rfl rfl dM_same_28 ?_
    refine x_aload_n C dM_same_31 rfl 0 rfl ?_
    refine x_get C fgM_94 0 rfl rfl dM_same_32 ?_
    refine x_iconst (v := nI 2) C dM_same_35 (by decide) ?_
    refine x_isubN C (by omega) dM_same_36 ?_
    refine x_ild C 7 6 rfl rfl (by omega) (by decide) dM_same_37 ?_
    show xk_Go K D 7 0 0 (tc_wM mm cmm 0 iu ki mu fs ss tx us te my mo mz mi iz ma mf mp od ar lw oc sk sa sl pp re rd co dq bo lc) [(0, .ref (mm 0))] 38 [.int (nI (te (my - 2))), .ref (mm 0)]
    refine x_callV C (c_M_go D mm cmm 0 iu ki mu fs ss tx us te my mo mz mi iz ma mf mp od ar lw oc sk sa sl pp re rd co dq bo lc (te (my - 2)) ids1 hg1.1 hg1.2.1 hg1.2.2.1 hg1.2.2.2.1 hg1.2.2.2.2.1) kbM_90 kcM_90 [0, 1, 2, 3, 4, 5, 6, 7, 8, 9, 10, 11, 12, 13, 14, 15, 16, 17, 18, 19, 20] [] [0, 1, 2, 3, 4, 5, 6, 7, 8, 9, 10, 11, 12, 13, 14, 15, 16, 17, 18, 19] ([]) rfl rfl (by decide) (by decide) (by decide) rfl 0 rfl rfl ⟨Nat.le_of_ble_eq_true rfl, Nat.le_of_ble_eq_true rfl⟩ ⟨Nat.le_of_ble_eq_true rfl, Nat.le_of_ble_eq_true rfl⟩ [] rfl rfl (Nat.le_of_ble_eq_true rfl) dM_same_38 (fun rv ru hw => ?_)
    obtain ⟨od1, ar1, lw1, sk1, sa1, sl1, rfl, rfl, g1⟩ := hw
    show xk_Go K D 7 0 0 (tc_wM mm cmm 0 iu ki mu fs ss tx us te my mo mz mi iz ma mf mp od1 ar1 lw1 ids1.length sk1 sa1 sl1 pp re rd co dq bo lc) [(0, .ref (mm 0))] 41 []
    refine x_aload_n C dM_same_41 rfl 0 rfl ?_
    refine x_get C fgM_87 0 rfl rfl dM_same_42 ?_
    refine x_istore_n C [(1, .int (nI ids1.length)), (0, .ref (mm 0))] dM_same_45 rfl (by decide) rfl ?_
    refine x_iconst (v := nI 0) C dM_same_46 (by decide) ?_
    refine x_istore_n C [(2, .int (nI 0)), (1, .int (nI ids1.length)), (0, .ref (mm 0))] dM_same_47 rfl (by decide) rfl ?_
    have lp48 : ∀ (zc : Nat) (k : Nat) (cog : Nat → Nat), (ids1.length - k) < zc → (k ≤ ids1.length) → (∀ j i, j < k → ids1[j]? = some i → cog j = i) → xk_Go K D 7 0 0 (tc_wM mm cmm 0 iu ki mu fs ss tx us te my mo mz mi iz ma mf mp od1 ar1 lw1 ids1.length sk1 sa1 sl1 pp re rd cog dq bo lc) [(0, .ref (mm 0)), (1, .int (nI ids1.length)), (2, .int (nI k))] 48 [] := by
      intro zc
      induction zc with
      | zero => intro k cog hm; exact absurd hm (Nat.not_lt_zero _)
      | succ zc ih48 =>
        intro k cog hm f1 f2
        refine x_iload_n C dM_same_48 rfl 2 rfl ?_
        refine x_iload_n C dM_same_49 rfl 1 rfl ?_
        refine x_icmp_geN (tgt := 71) C (by omega) (by omega) dM_same_50 (by decide) (fun h50 => ?_) (fun h50 => ?_)
        ·
          refine x_aload_n C dM_same_71 rfl 0 rfl ?_
          refine x_aload_n C dM_same_72 rfl 0 rfl ?_
          refine x_get C fgM_31 0 rfl rfl dM_same_73 ?_
          refine x_aload_n C dM_same_76 rfl 0 rfl ?_
          refine x_get C fgM_94 0 rfl rfl dM_same_77 ?_
          refine x_iconst (v := nI 1) C dM_same_80 (by decide) ?_
          refine x_isubN C (by omega) dM_same_81 ?_
          refine x_ild C 7 6 rfl rfl (by omega) (by decide) dM_same_82 ?_
          show xk_Go K D 7 0 0 (tc_wM mm cmm 0 iu ki mu fs ss tx us te my mo mz mi iz ma mf mp od1 ar1 lw1 ids1.length sk1 sa1 sl1 pp re rd cog dq bo lc) [(0, .ref (mm 0)), (1, .int (nI ids1.length)), (2, .int (nI k))] 83 [.int (nI (te (my - 1))), .ref (mm 0)]
          refine x_callV C (c_M_go D mm cmm 0 iu ki mu fs ss tx us te my mo mz mi iz ma mf mp od1 ar1 lw1 ids1.length sk1 sa1 sl1 pp re rd cog dq bo lc (te (my - 1)) ids hg0.1 hg0.2.1 hg0.2.2.1 hg0.2.2.2.1 hg0.2.2.2.2.1) kbM_90 kcM_90 [0, 1, 2, 3, 4, 5, 6, 7, 8, 9, 10, 11, 12, 13, 14, 15, 16, 17, 18, 19, 20] [] [0, 1, 2, 3, 4, 5, 6, 7, 8, 9, 10, 11, 12, 13, 14, 15, 16, 17, 18, 19] ([]) rfl rfl (by decide) (by decide) (by decide) rfl 0 rfl rfl ⟨Nat.le_of_ble_eq_true rfl, Nat.le_of_ble_eq_true rfl⟩ ⟨Nat.le_of_ble_eq_true rfl, Nat.le_of_ble_eq_true rfl⟩ [] rfl rfl (Nat.le_of_ble_eq_true rfl) dM_same_83 (fun rv ru hw => ?_)
          obtain ⟨odgb, argb, lwgb, skgb, sagb, slgb, rfl, rfl, g1b⟩ := hw
          show xk_Go K D 7 0 0 (tc_wM mm cmm 0 iu ki mu fs ss tx us te my mo mz mi iz ma mf mp odgb argb lwgb ids.length skgb sagb slgb pp re rd cog dq bo lc) [(0, .ref (mm 0)), (1, .int (nI ids1.length)), (2, .int (nI k))] 86 []
          refine x_iload_n C dM_same_86 rfl 1 rfl ?_
          refine x_aload_n C dM_same_87 rfl 0 rfl ?_
          refine x_get C fgM_87 0 rfl rfl dM_same_88 ?_
          refine x_icmp_neN (tgt := 98) C (by omega) (by omega) dM_same_91 (by decide) (fun h91 => ?_) (fun h91 => ?_)
          ·
            refine x_iconst (v := nI 0) C dM_same_98 (by decide) ?_
            refine x_istore_n C [(2, .int (nI 0)), (0, .ref (mm 0)), (1, .int (nI ids1.length))] dM_same_99 rfl (by decide) rfl ?_
            refine x_iconst (v := nI 0) C dM_same_100 (by decide) ?_
            refine x_istore_n C [(3, .int (nI 0)), (2, .int (nI 0)), (0, .ref (mm 0)), (1, .int (nI ids1.length))] dM_same_101 rfl (by decide) rfl ?_
            refine x_iload_n C dM_same_102 rfl 0 rfl ?_
            refine x_iload_n C dM_same_103 rfl 3 rfl ?_
            refine x_icmp_geN (tgt := 248) C (by decide) (by omega) dM_same_104 (by decide) (fun h104 => ?_) (fun h104 => ?_)
            ·
              refine x_iload_n C dM_same_248 rfl 1 rfl ?_
              exact x_iret C T .boolean rfl rfl dM_same_249 (Or.inr (⟨false, _, _, _, _, _, _, _, _, rfl, rfl, (by show some (decide _) = _; rw [decide_eq_false (fun z => h91 (by have := congrArg List.length z; rw [hl1, hl0] at this; exact this))])⟩))
            ·
              refine x_iload_n C dM_same_107 rfl 1 rfl ?_
              refine x_if_eq (tgt := 248) C dM_same_108 (by decide) (fun _ => ?_) (fun h => absurd (by decide) h)
              refine x_iload_n C dM_same_248 rfl 1 rfl ?_
              exact x_iret C T .boolean rfl rfl dM_same_249 (Or.inr (⟨false, _, _, _, _, _, _, _, _, rfl, rfl, (by show some (decide _) = _; rw [decide_eq_false (fun z => h91 (by have := congrArg List.length z; rw [hl1, hl0] at this; exact this))])⟩))
          ·
            refine x_iconst (v := nI 1) C dM_same_94 (by decide) ?_
            refine x_goto C 99 dM_same_95 (by decide) ?_
            refine x_istore_n C [(2, .int (nI 1)), (0, .ref (mm 0)), (1, .int (nI ids1.length))] dM_same_99 rfl (by decide) rfl ?_
            refine x_iconst (v := nI 0) C dM_same_100 (by decide) ?_
            refine x_istore_n C [(3, .int (nI 0)), (2, .int (nI 1)), (0, .ref (mm 0)), (1, .int (nI ids1.length))] dM_same_101 rfl (by decide) rfl ?_
            have lp102 : ∀ (zc : Nat) (k : Nat), (ids1.length - k) < zc → (k ≤ ids1.length) → (∀ i, i < k → (ids1.map (tc_mn ki mu tx))[i]? = (ids.map (tc_mn ki mu tx))[i]?) → xk_Go K D 7 0 0 (tc_wM mm cmm 0 iu ki mu fs ss tx us te my mo mz mi iz ma mf mp odgb argb lwgb ids.length skgb sagb slgb pp re rd cog dq bo lc) [(0, .ref (mm 0)), (1, .int (nI ids1.length)), (2, .int (nI 1)), (3, .int (nI k))] 102 [] := by
              intro zc
              induction zc with
              | zero => intro k hm; exact absurd hm (Nat.not_lt_zero _)
              | succ zc ih102 =>
                intro k hm e1 e2
                refine x_iload_n C dM_same_102 rfl 3 rfl ?_
                refine x_iload_n C dM_same_103 rfl 1 rfl ?_
                refine x_icmp_geN (tgt := 248) C (by omega) (by omega) dM_same_104 (by decide) (fun h104 => ?_) (fun h104 => ?_)
                ·
                  refine x_iload_n C dM_same_248 rfl 2 rfl ?_
                  exact x_iret C T .boolean rfl rfl dM_same_249 (Or.inr (⟨true, _, _, _, _, _, _, _, _, rfl, rfl, (by show some (decide _) = _; rw [decide_eq_true (tc_ext_k (by omega) (fun i hi => e2 i (by omega)))])⟩))
                ·
                  obtain ⟨a, ha⟩ : ∃ a, ids1[k]? = some a := ⟨_, List.getElem?_eq_getElem (by omega)⟩
                  obtain ⟨b, hb⟩ : ∃ b, ids[k]? = some b := ⟨_, List.getElem?_eq_getElem (by omega)⟩
                  have hca := f2 k a (by omega) ha
                  have hob := g1b.1 k b hb
                  have ha2 := hg1.2.2.1 a (List.mem_of_getElem? ha)
                  have hb2 := hg0.2.2.1 b (List.mem_of_getElem? hb)
                  have hak := hg1.2.2.2.2.2 a (List.mem_of_getElem? ha)
                  have hbk := hg0.2.2.2.2.2 b (List.mem_of_getElem? hb)
                  have hao := hok1.2.2 _ (List.mem_map_of_mem (f := tc_mn ki mu tx) (List.mem_of_getElem? ha))
                  refine x_iload_n C dM_same_107 rfl 2 rfl ?_
                  refine x_if_eq (tgt := 248) C dM_same_108 (by decide) (fun h => absurd h (by decide)) (fun _ => ?_)
                  refine x_aload_n C dM_same_111 rfl 0 rfl ?_
                  refine x_get C fgM_65 0 rfl rfl dM_same_112 ?_
                  refine x_iload_n C dM_same_115 rfl 3 rfl ?_
                  refine x_ild C 17 16 rfl rfl (by omega) (by decide) dM_same_116 ?_
                  show xk_Go K D 7 0 0 (tc_wM mm cmm 0 iu ki mu fs ss tx us te my mo mz mi iz ma mf mp odgb argb lwgb ids.length skgb sagb slgb pp re rd cog dq bo lc) [(0, .ref (mm 0)), (1, .int (nI ids1.length)), (2, .int (nI 1)), (3, .int (nI k))] 117 [.int (nI (cog k))]
                  rw [hca]
                  refine x_istore C [(4, .int (nI a)), (0, .ref (mm 0)), (1, .int (nI ids1.length)), (2, .int (nI 1)), (3, .int (nI k))] dM_same_117 (by decide) rfl ?_
                  refine x_aload_n C dM_same_119 rfl 1 rfl ?_
                  refine x_get C fgM_44 0 rfl rfl dM_same_120 ?_
                  refine x_iload_n C dM_same_123 rfl 4 rfl ?_
                  refine x_ild C 10 9 rfl rfl (by omega) (by decide) dM_same_124 ?_
                  show xk_Go K D 7 0 0 (tc_wM mm cmm 0 iu ki mu fs ss tx us te my mo mz mi iz ma mf mp odgb argb lwgb ids.length skgb sagb slgb pp re rd cog dq bo lc) [(4, .int (nI a)), (0, .ref (mm 0)), (1, .int (nI ids1.length)), (2, .int (nI 1)), (3, .int (nI k))] 125 [.int (nI (odgb k))]
                  rw [hob]
                  refine x_istore C [(5, .int (nI b)), (4, .int (nI a)), (0, .ref (mm 0)), (1, .int (nI ids1.length)), (2, .int (nI 1)), (3, .int (nI k))] dM_same_125 (by decide) rfl ?_
                  refine x_aload_n C dM_same_127 rfl 2 rfl ?_
                  refine x_get C fgM_13 0 rfl rfl dM_same_128 ?_
                  refine x_iload C dM_same_131 1 rfl ?_
                  refine x_ild C 2 1 rfl rfl (by omega) (by decide) dM_same_133 ?_
                  show xk_Go K D 7 0 0 (tc_wM mm cmm 0 iu ki mu fs ss tx us te my mo mz mi iz ma mf mp odgb argb lwgb ids.length skgb sagb slgb pp re rd cog dq bo lc) [(5, .int (nI b)), (4, .int (nI a)), (0, .ref (mm 0)), (1, .int (nI ids1.length)), (2, .int (nI 1)), (3, .int (nI k))] 134 [.int (nI (ki a))]
                  refine x_aload_n C dM_same_134 rfl 2 rfl ?_
                  refine x_get C fgM_13 0 rfl rfl dM_same_135 ?_
                  refine x_iload C dM_same_138 0 rfl ?_
                  refine x_ild C 2 1 rfl rfl (by omega) (by decide) dM_same_140 ?_
                  show xk_Go K D 7 0 0 (tc_wM mm cmm 0 iu ki mu fs ss tx us te my mo mz mi iz ma mf mp odgb argb lwgb ids.length skgb sagb slgb pp re rd cog dq bo lc) [(5, .int (nI b)), (4, .int (nI a)), (0, .ref (mm 0)), (1, .int (nI ids1.length)), (2, .int (nI 1)), (3, .int (nI k))] 141 [.int (nI (ki b)), .int (nI (ki a))]
                  refine x_icmp_neN (tgt := 166) C (by omega) (by omega) dM_same_141 (by decide) (fun h141 => ?_) (fun h141 => ?_)
                  ·
                    have hne : ¬ (ids1.map (tc_mn ki mu tx)) = (ids.map (tc_mn ki mu tx)) := (fun z => by have z1 := congrArg (fun l => l[k]?) z; simp only [List.getElem?_map, ha, hb, Option.map_some, Option.some.injEq] at z1; exact h141 (congrArg (fun y => y.1) z1))
                    refine x_iconst (v := nI 0) C dM_same_166 (by decide) ?_
                    refine x_istore_n C [(2, .int (nI 0)), (5, .int (nI b)), (4, .int (nI a)), (0, .ref (mm 0)), (1, .int (nI ids1.length)), (3, .int (nI k))] dM_same_167 rfl (by decide) rfl ?_
                    refine x_iconst (v := nI 0) C dM_same_168 (by decide) ?_
                    refine x_istore C [(6, .int (nI 0)), (2, .int (nI 0)), (5, .int (nI b)), (4, .int (nI a)), (0, .ref (mm 0)), (1, .int (nI ids1.length)), (3, .int (nI k))] dM_same_169 (by decide) rfl ?_
                    refine x_iload_n C dM_same_171 rfl 1 rfl ?_
                    refine x_if_eq (tgt := 242) C dM_same_172 (by decide) (fun _ => ?_) (fun h => absurd (by decide) h)
                    refine x_iinc (q := 6) C (nI (k + 1)) [(3, .int (nI (k + 1))), (6, .int (nI 0)), (2, .int (nI 0)), (5, .int (nI b)), (4, .int (nI a)), (0, .ref (mm 0)), (1, .int (nI ids1.length))] dM_same_242 rfl (nI_add k 1) (by decide) rfl ?_
                    refine x_goto C 102 dM_same_245 (by decide) ?_
                    refine x_iload_n C dM_same_102 rfl 0 rfl ?_
                    refine x_iload_n C dM_same_103 rfl 6 rfl ?_
                    refine x_icmp_geN (tgt := 248) C (by omega) (by omega) dM_same_104 (by decide) (fun h104 => ?_) (fun h104 => ?_)
                    ·
                      refine x_iload_n C dM_same_248 rfl 2 rfl ?_
                      exact x_iret C T .boolean rfl rfl dM_same_249 (Or.inr (⟨false, _, _, _, _, _, _, _, _, rfl, rfl, (by show some (decide _) = _; rw [decide_eq_false (hne)])⟩))
                    ·
                      refine x_iload_n C dM_same_107 rfl 2 rfl ?_
                      refine x_if_eq (tgt := 248) C dM_same_108 (by decide) (fun _ => ?_) (fun h => absurd (by decide) h)
                      refine x_iload_n C dM_same_248 rfl 2 rfl ?_
                      exact x_iret C T .boolean rfl rfl dM_same_249 (Or.inr (⟨false, _, _, _, _, _, _, _, _, rfl, rfl, (by show some (decide _) = _; rw [decide_eq_false (hne)])⟩))
                  ·
                    refine x_aload_n C dM_same_144 rfl 2 rfl ?_
                    refine x_get C fgM_17 0 rfl rfl dM_same_145 ?_
                    refine x_iload C dM_same_148 1 rfl ?_
                    refine x_lld C 3 2 rfl rfl (by omega) (by decide) dM_same_150 ?_
                    refine x_aload_n C dM_same_151 rfl 2 rfl ?_
                    refine x_get C fgM_17 0 rfl rfl dM_same_152 ?_
                    refine x_iload C dM_same_155 0 rfl ?_
                    refine x_lld C 3 2 rfl rfl (by omega) (by decide) dM_same_157 ?_
                    refine x_lcmp C dM_same_158 ?_
                    refine x_if_neC (tgt := 166) C dM_same_159 (by decide) (fun h159 => ?_) (fun h159 => ?_)
                    ·
                      have hne : ¬ (ids1.map (tc_mn ki mu tx)) = (ids.map (tc_mn ki mu tx)) := (fun z => by have z1 := congrArg (fun l => l[k]?) z; simp only [List.getElem?_map, ha, hb, Option.map_some, Option.some.injEq] at z1; exact h159 (congrArg (fun y => y.2.1) z1))
                      refine x_iconst (v := nI 0) C dM_same_166 (by decide) ?_
                      refine x_istore_n C [(2, .int (nI 0)), (5, .int (nI b)), (4, .int (nI a)), (0, .ref (mm 0)), (1, .int (nI ids1.length)), (3, .int (nI k))] dM_same_167 rfl (by decide) rfl ?_
                      refine x_iconst (v := nI 0) C dM_same_168 (by decide) ?_
                      refine x_istore C [(6, .int (nI 0)), (2, .int (nI 0)), (5, .int (nI b)), (4, .int (nI a)), (0, .ref (mm 0)), (1, .int (nI ids1.length)), (3, .int (nI k))] dM_same_169 (by decide) rfl ?_
                      refine x_iload_n C dM_same_171 rfl 1 rfl ?_
                      refine x_if_eq (tgt := 242) C dM_same_172 (by decide) (fun _ => ?_) (fun h => absurd (by decide) h)
                      refine x_iinc (q := 6) C (nI (k + 1)) [(3, .int (nI (k + 1))), (6, .int (nI 0)), (2, .int (nI 0)), (5, .int (nI b)), (4, .int (nI a)), (0, .ref (mm 0)), (1, .int (nI ids1.length))] dM_same_242 rfl (nI_add k 1) (by decide) rfl ?_
                      refine x_goto C 102 dM_same_245 (by decide) ?_
                      refine x_iload_n C dM_same_102 rfl 0 rfl ?_
                      refine x_iload_n C dM_same_103 rfl 6 rfl ?_
                      refine x_icmp_geN (tgt := 248) C (by omega) (by omega) dM_same_104 (by decide) (fun h104 => ?_) (fun h104 => ?_)
                      ·
                        refine x_iload_n C dM_same_248 rfl 2 rfl ?_
                        exact x_iret C T .boolean rfl rfl dM_same_249 (Or.inr (⟨false, _, _, _, _, _, _, _, _, rfl, rfl, (by show some (decide _) = _; rw [decide_eq_false (hne)])⟩))
                      ·
                        refine x_iload_n C dM_same_107 rfl 2 rfl ?_
                        refine x_if_eq (tgt := 248) C dM_same_108 (by decide) (fun _ => ?_) (fun h => absurd (by decide) h)
                        refine x_iload_n C dM_same_248 rfl 2 rfl ?_
                        exact x_iret C T .boolean rfl rfl dM_same_249 (Or.inr (⟨false, _, _, _, _, _, _, _, _, rfl, rfl, (by show some (decide _) = _; rw [decide_eq_false (hne)])⟩))
                    ·
                      refine x_iconst (v := nI 1) C dM_same_162 (by decide) ?_
                      refine x_goto C 167 dM_same_163 (by decide) ?_
                      refine x_istore_n C [(2, .int (nI 1)), (5, .int (nI b)), (4, .int (nI a)), (0, .ref (mm 0)), (1, .int (nI ids1.length)), (3, .int (nI k))] dM_same_167 rfl (by decide) rfl ?_
                      refine x_iconst (v := nI 0) C dM_same_168 (by decide) ?_
                      refine x_istore C [(6, .int (nI 0)), (2, .int (nI 1)), (5, .int (nI b)), (4, .int (nI a)), (0, .ref (mm 0)), (1, .int (nI ids1.length)), (3, .int (nI k))] dM_same_169 (by decide) rfl ?_
                      have lp171 : ∀ (zc : Nat) (j : Nat), (64 - j) < zc → (j ≤ 64) → (∀ t, t < j → tx (64 * a + t) % 256 = tx (64 * b + t) % 256) → xk_Go K D 7 0 0 (tc_wM mm cmm 0 iu ki mu fs ss tx us te my mo mz mi iz ma mf mp odgb argb lwgb ids.length skgb sagb slgb pp re rd cog dq bo lc) [(0, .ref (mm 0)), (1, .int (nI ids1.length)), (2, .int (nI 1)), (3, .int (nI k)), (4, .int (nI a)), (5, .int (nI b)), (6, .int (nI j))] 171 [] := by
                        intro zc
                        induction zc with
                        | zero => intro j hm; exact absurd hm (Nat.not_lt_zero _)
                        | succ zc ih171 =>
                          intro j hm d1 d2
                          refine x_iload_n C dM_same_171 rfl 2 rfl ?_
                          refine x_if_eq (tgt := 242) C dM_same_172 (by decide) (fun h => absurd h (by decide)) (fun _ => ?_)
                          refine x_aload_n C dM_same_175 rfl 0 rfl ?_
                          refine x_get C fgM_13 0 rfl rfl dM_same_176 ?_
                          refine x_iload C dM_same_179 4 rfl ?_
                          refine x_ild C 2 1 rfl rfl (by omega) (by decide) dM_same_181 ?_
                          show xk_Go K D 7 0 0 (tc_wM mm cmm 0 iu ki mu fs ss tx us te my mo mz mi iz ma mf mp odgb argb lwgb ids.length skgb sagb slgb pp re rd cog dq bo lc) [(0, .ref (mm 0)), (1, .int (nI ids1.length)), (2, .int (nI 1)), (3, .int (nI k)), (4, .int (nI a)), (5, .int (nI b)), (6, .int (nI j))] 182 [.int (nI (ki a))]
                          refine x_bipush (v := nI 8) C dM_same_182 (by decide) ?_
                          refine x_icmp_neN (tgt := 242) C (by omega) (by decide) dM_same_184 (by decide) (fun h184 => ?_) (fun h184 => ?_)
                          ·
                            refine x_iinc (q := 3) C (nI (k + 1)) [(3, .int (nI (k + 1))), (0, .ref (mm 0)), (1, .int (nI ids1.length)), (2, .int (nI 1)), (4, .int (nI a)), (5, .int (nI b)), (6, .int (nI j))] dM_same_242 rfl (nI_add k 1) (by decide) rfl ?_
                            refine x_goto C 102 dM_same_245 (by decide) ?_
                            exact x_sub [1, 2, 3, 0] rfl (ih102 (k + 1) (by omega) (by omega) (tc_pre1 e2 (tc_map1 ha hb (tc_mn_same h141 h159 (by first | exact fun y => absurd y h184 | exact fun _ t ht => d2 t (by rw [hc3] at ht; omega))))))
                          ·
                            obtain ⟨c, hc1, hc2, hc3, hc4⟩ := tc_mn_cnt hao h184
                            refine x_iload C dM_same_187 6 rfl ?_
                            refine x_i2l (v := lN j) C dM_same_189 (nI_l (by omega)) ?_
                            refine x_aload_n C dM_same_190 rfl 0 rfl ?_
                            refine x_get C fgM_17 0 rfl rfl dM_same_191 ?_
                            refine x_iload C dM_same_194 4 rfl ?_
                            refine x_lld C 3 2 rfl rfl (by omega) (by decide) dM_same_196 ?_
                            rw [hc1]
                            refine x_lcmp C dM_same_197 ?_
                            refine x_if_geC (tgt := 242) C dM_same_198 (by decide) (fun h198 => ?_) (fun h198 => ?_)
                            ·
                              have hjc := (pk_lLE (a := c) (b := j) (by omega) (by omega)).mp h198
                              refine x_iinc (q := 3) C (nI (k + 1)) [(3, .int (nI (k + 1))), (0, .ref (mm 0)), (1, .int (nI ids1.length)), (2, .int (nI 1)), (4, .int (nI a)), (5, .int (nI b)), (6, .int (nI j))] dM_same_242 rfl (nI_add k 1) (by decide) rfl ?_
                              refine x_goto C 102 dM_same_245 (by decide) ?_
                              exact x_sub [1, 2, 3, 0] rfl (ih102 (k + 1) (by omega) (by omega) (tc_pre1 e2 (tc_map1 ha hb (tc_mn_same h141 h159 (by first | exact fun y => absurd y h184 | exact fun _ t ht => d2 t (by rw [hc3] at ht; omega))))))
                            ·
                              have hjc : j < c := Nat.not_le.mp (fun z => h198 ((pk_lLE (a := c) (b := j) (by omega) (by omega)).mpr z))
                              refine x_aload_n C dM_same_201 rfl 0 rfl ?_
                              refine x_get C fgM_27 0 rfl rfl dM_same_202 ?_
                              refine x_bipush (v := nI 64) C dM_same_205 (by decide) ?_
                              refine x_iload C dM_same_207 4 rfl ?_
                              refine x_imulN C dM_same_209 ?_
                              refine x_iload C dM_same_210 6 rfl ?_
                              refine x_iaddN C dM_same_212 ?_
                              refine x_bld C 6 5 rfl rfl (by omega) (by decide) dM_same_213 ?_
                              show xk_Go K D 7 0 0 (tc_wM mm cmm 0 iu ki mu fs ss tx us te my mo mz mi iz ma mf mp odgb argb lwgb ids.length skgb sagb slgb pp re rd cog dq bo lc) [(0, .ref (mm 0)), (1, .int (nI ids1.length)), (2, .int (nI 1)), (3, .int (nI k)), (4, .int (nI a)), (5, .int (nI b)), (6, .int (nI j))] 214 [.int (xk_sb (tx (64 * a + j)))]
                              refine x_aload_n C dM_same_214 rfl 0 rfl ?_
                              refine x_get C fgM_27 0 rfl rfl dM_same_215 ?_
                              refine x_bipush (v := nI 64) C dM_same_218 (by decide) ?_
                              refine x_iload C dM_same_220 5 rfl ?_
                              refine x_imulN C dM_same_222 ?_
                              refine x_iload C dM_same_223 6 rfl ?_
                              refine x_iaddN C dM_same_225 ?_
                              refine x_bld C 6 5 rfl rfl (by omega) (by decide) dM_same_226 ?_
                              show xk_Go K D 7 0 0 (tc_wM mm cmm 0 iu ki mu fs ss tx us te my mo mz mi iz ma mf mp odgb argb lwgb ids.length skgb sagb slgb pp re rd cog dq bo lc) [(0, .ref (mm 0)), (1, .int (nI ids1.length)), (2, .int (nI 1)), (3, .int (nI k)), (4, .int (nI a)), (5, .int (nI b)), (6, .int (nI j))] 227 [.int (xk_sb (tx (64 * b + j))), .int (xk_sb (tx (64 * a + j)))]
                              refine x_icmp_ne (tgt := 234) C dM_same_227 (by decide) (fun h227 => ?_) (fun h227 => ?_)
                              ·
                                have hne : ¬ (ids1.map (tc_mn ki mu tx)) = (ids.map (tc_mn ki mu tx)) := (fun z => by have z1 := congrArg (fun l => l[k]?) z; simp only [List.getElem?_map, ha, hb, Option.map_some, Option.some.injEq] at z1; exact tc_mn_diff h184 (by rw [hc3]; exact hjc) (fun y => h227 (tc_sb_eq.mpr y)) z1)
                                refine x_iconst (v := nI 0) C dM_same_234 (by decide) ?_
                                refine x_istore_n C [(2, .int (nI 0)), (0, .ref (mm 0)), (1, .int (nI ids1.length)), (3, .int (nI k)), (4, .int (nI a)), (5, .int (nI b)), (6, .int (nI j))] dM_same_235 rfl (by decide) rfl ?_
                                refine x_iinc (q := 6) C (nI (j + 1)) [(6, .int (nI (j + 1))), (2, .int (nI 0)), (0, .ref (mm 0)), (1, .int (nI ids1.length)), (3, .int (nI k)), (4, .int (nI a)), (5, .int (nI b))] dM_same_236 rfl (nI_add j 1) (by decide) rfl ?_
                                refine x_goto C 171 dM_same_239 (by decide) ?_
                                refine x_iload_n C dM_same_171 rfl 1 rfl ?_
                                refine x_if_eq (tgt := 242) C dM_same_172 (by decide) (fun _ => ?_) (fun h => absurd (by decide) h)
                                refine x_iinc (q := 4) C (nI (k + 1)) [(3, .int (nI (k + 1))), (6, .int (nI (j + 1))), (2, .int (nI 0)), (0, .ref (mm 0)), (1, .int (nI ids1.length)), (4, .int (nI a)), (5, .int (nI b))] dM_same_242 rfl (nI_add k 1) (by decide) rfl ?_
                                refine x_goto C 102 dM_same_245 (by decide) ?_
                                refine x_iload_n C dM_same_102 rfl 0 rfl ?_
                                refine x_iload_n C dM_same_103 rfl 4 rfl ?_
                                refine x_icmp_geN (tgt := 248) C (by omega) (by omega) dM_same_104 (by decide) (fun h104 => ?_) (fun h104 => ?_)
                                ·
                                  refine x_iload_n C dM_same_248 rfl 2 rfl ?_
                                  exact x_iret C T .boolean rfl rfl dM_same_249 (Or.inr (⟨false, _, _, _, _, _, _, _, _, rfl, rfl, (by show some (decide _) = _; rw [decide_eq_false (hne)])⟩))
                                ·
                                  refine x_iload_n C dM_same_107 rfl 2 rfl ?_
                                  refine x_if_eq (tgt := 248) C dM_same_108 (by decide) (fun _ => ?_) (fun h => absurd (by decide) h)
                                  refine x_iload_n C dM_same_248 rfl 2 rfl ?_
                                  exact x_iret C T .boolean rfl rfl dM_same_249 (Or.inr (⟨false, _, _, _, _, _, _, _, _, rfl, rfl, (by show some (decide _) = _; rw [decide_eq_false (hne)])⟩))
                              ·
                                refine x_iconst (v := nI 1) C dM_same_230 (by decide) ?_
                                refine x_goto C 235 dM_same_231 (by decide) ?_
                                refine x_istore_n C [(2, .int (nI 1)), (0, .ref (mm 0)), (1, .int (nI ids1.length)), (3, .int (nI k)), (4, .int (nI a)), (5, .int (nI b)), (6, .int (nI j))] dM_same_235 rfl (by decide) rfl ?_
                                refine x_iinc (q := 6) C (nI (j + 1)) [(6, .int (nI (j + 1))), (2, .int (nI 1)), (0, .ref (mm 0)), (1, .int (nI ids1.length)), (3, .int (nI k)), (4, .int (nI a)), (5, .int (nI b))] dM_same_236 rfl (nI_add j 1) (by decide) rfl ?_
                                refine x_goto C 171 dM_same_239 (by decide) ?_
                                exact x_sub [2, 3, 1, 4, 5, 6, 0] rfl (ih171 (j + 1) (by omega) (by omega) (tc_pre1 d2 (tc_sb_eq.mp h227)))
                      exact x_sub [4, 5, 1, 6, 3, 2, 0] rfl (lp171 _ 0 (Nat.lt_succ_self _) (by decide) (fun t ht => absurd ht (Nat.not_lt_zero _)))
            exact x_sub [2, 3, 1, 0] rfl (lp102 _ 0 (Nat.lt_succ_self _) (Nat.zero_le _) (fun i hi => absurd hi (Nat.not_lt_zero _)))
        ·
          obtain ⟨i, hi⟩ : ∃ i, ids1[k]? = some i := ⟨_, List.getElem?_eq_getElem (by omega)⟩
          have hok := g1.1 k i hi
          refine x_aload_n C dM_same_53 rfl 0 rfl ?_
          refine x_get C fgM_65 0 rfl rfl dM_same_54 ?_
          refine x_iload_n C dM_same_57 rfl 2 rfl ?_
          refine x_aload_n C dM_same_58 rfl 0 rfl ?_
          refine x_get C fgM_44 0 rfl rfl dM_same_59 ?_
          refine x_iload_n C dM_same_62 rfl 2 rfl ?_
          refine x_ild C 10 9 rfl rfl (by omega) (by decide) dM_same_63 ?_
          show xk_Go K D 7 0 0 (tc_wM mm cmm 0 iu ki mu fs ss tx us te my mo mz mi iz ma mf mp od1 ar1 lw1 ids1.length sk1 sa1 sl1 pp re rd cog dq bo lc) [(0, .ref (mm 0)), (1, .int (nI ids1.length)), (2, .int (nI k))] 64 [.int (nI (od1 k)), .int (nI k), .ref (mm 17)]
          rw [hok]
          refine x_ist C 17 16 (tc_wM mm cmm 0 iu ki mu fs ss tx us te my mo mz mi iz ma mf mp od1 ar1 lw1 ids1.length sk1 sa1 sl1 pp re rd (va_up cog k i) dq bo lc) rfl rfl (xk_nA_up cog k i) rfl (by omega) (by decide) dM_same_64 ?_
          refine x_iinc (q := 2) C (nI (k + 1)) [(2, .int (nI (k + 1))), (0, .ref (mm 0)), (1, .int (nI ids1.length))] dM_same_65 rfl (nI_add k 1) (by decide) rfl ?_
          refine x_goto C 48 dM_same_68 (by decide) ?_
          exact x_sub [1, 2, 0] rfl (ih48 (k + 1) (va_up cog k i) (by omega) (by omega) (tc_copy1 f2 hi))
    exact x_sub [2, 1, 0] rfl (lp48 _ 0 co (Nat.lt_succ_self _) (Nat.zero_le _) (fun j i hj => absurd hj (Nat.not_lt_zero _)))
  ·
    refine x_iconst (v := nI 1) C dM_same_9 (by decide) ?_
    refine x_goto C 14 dM_same_10 (by decide) ?_
    refine x_put C fpM_77 0 (tc_wM mm cmm 1 iu ki mu fs ss tx us te my mo mz mi iz ma mf mp od ar lw oc sk sa sl pp re rd co dq bo lc) rfl rfl rfl rfl (Nat.le_of_ble_eq_true rfl) dM_same_14 ?_
    refine x_aload_n C dM_same_17 rfl 0 rfl ?_
    refine x_get C fgM_77 0 rfl rfl dM_same_18 ?_
    refine x_if_le (tgt := 26) C dM_same_21 (by decide) (fun h => absurd h (by decide)) (fun _ => ?_)
    refine x_iconst (v := nI 0) C dM_same_24 (by decide) ?_
    exact x_iret C T .boolean rfl rfl dM_same_25 (Or.inl (⟨rfl, rfl, (tc_sm_no (by omega))⟩))
