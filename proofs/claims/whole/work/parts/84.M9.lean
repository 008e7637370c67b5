set_option maxHeartbeats 4000000 in
set_option maxRecDepth 100000 in
/-- readNode -/
theorem c_M_readNode (D : va_G) (mm : Nat → Nat) (cmm : Nat → ClassId) (th : Nat) (iu : Nat → Bool) (ki : Nat → Nat) (mu : Nat → Int64) (fs : Nat → Option Nat) (ss : Nat → Option Nat) (tx : Nat → Nat) (us : Nat) (te : Nat → Nat) (my : Nat) (mo : Nat → Nat) (mz : Nat) (mi : Nat → Nat) (iz : Nat) (ma : Nat) (od : Nat → Nat) (ar : Nat → Option Nat) (lw : Nat → Nat) (oc : Nat) (sk : Nat → Nat) (sa : Nat → Option Nat) (sl : Nat → Nat) (pp : Nat) (re : Nat → Nat) (rd : Nat) (co : Nat → Nat) (dq : Nat → Nat) (bo : Nat → Nat) (lc : Nat → Nat) (of : Option Nat) (ids : List Nat) (m0 : tc_St) (l : Nat) (b : Nat) (y1 : pp ≤ iz) (y2 : iz ≤ 4096) (y3 : tc_PF ids m0 (iu, ki, mu, fs, ss, tx)) (y4 : rd = ids.length) (y5 : ∀ j c, ids[j]? = some c → re j = c) (y6 : of = none → l = 1 ∧ b = 0) (y7 : ∀ j, of = some j → l = dq j + 1 ∧ b = bo j ∧ j < rd ∧ 0 < lc j ∧ ∃ o, ids[j]? = some o ∧ (∀ v, fs o = some v → v < 200) ∧ o < 200 ∧ lc j ≤ 2) (y8 : rd ≤ us ∧ us ≤ 200) (y9 : us < 200 → ∃ k, k < 200 ∧ iu k = false) (y10 : l < 1000 ∧ b < 1000) : xk_Ct yM_readNode cM_readNode 9 none { frames := 3, cells := 0, slots := 0, locals := 69 } D (tc_tM cmm) [.ref (mm 0), .int (xk_oI of)] (tc_wM mm cmm th iu ki mu fs ss tx us te my mo mz mi iz ma 0 none od ar lw oc sk sa sl pp re rd co dq bo lc) (fun rv ru => (∃ (x : tc_Nd), ∃ (nw : Nat), ∃ (m : Nat), ∃ (fsg : Nat → Option Nat), ∃ (ssg : Nat → Option Nat), ∃ (mug : Nat → Int64), ∃ (txg : Nat → Nat), ∃ (lcg : Nat → Nat), rv = none ∧ ru = tc_wM mm cmm th (va_up iu m true) (va_up ki m x.1) mug fsg ssg txg (us + 1) te my mo mz mi iz ma 0 none od ar lw oc sk sa sl nw (va_up re rd m) (rd + 1) co (va_up dq rd l) (va_up bo rd (b + if x.1 = 1 then 1 else 0)) lcg ∧ (tc_rN (tc_B mi) iz pp l b us = .inr (x, nw)) ∧ (m < 200 ∧ iu m = false) ∧ (tc_mn (va_up ki m x.1) mug txg m = x) ∧ (∀ i, i ≠ m → mug i = mu i) ∧ (∀ i, i ≠ m → ∀ t, t < 64 → txg (64 * i + t) % 256 = tx (64 * i + t) % 256) ∧ (of = none → fsg = va_up fs m none ∧ ssg = va_up ss m none ∧ lcg = va_up lc rd (tc_tk x.1)) ∧ (∀ j, of = some j → ∃ o, ids[j]? = some o ∧ lcg = va_up (va_up lc rd (tc_tk x.1)) j (lc j - 1) ∧ ((fs o = none ∧ fsg = va_up (va_up fs m none) o (some m) ∧ ssg = va_up ss m none) ∨ (fs o ≠ none ∧ fsg = va_up fs m none ∧ ssg = va_up (va_up ss m none) o (some m)))) ∧ (pp ≤ nw) ∧ (nw ≤ iz)) ∨ (∃ (f : Nat), ∃ (q : Nat), ∃ (nw : Nat), ∃ (iug : Nat → Bool), ∃ (kig : Nat → Nat), ∃ (mug : Nat → Int64), ∃ (fsg : Nat → Option Nat), ∃ (ssg : Nat → Option Nat), ∃ (txg : Nat → Nat), ∃ (usg : Nat), ∃ (reg : Nat → Nat), ∃ (rdg : Nat), ∃ (dqg : Nat → Nat), ∃ (bog : Nat → Nat), ∃ (lcg : Nat → Nat), rv = none ∧ ru = tc_wM mm cmm th iug kig mug fsg ssg txg usg te my mo mz mi iz ma f (some q) od ar lw oc sk sa sl nw reg rdg co dqg bog lcg ∧ (tc_rN (tc_B mi) iz pp l b us = .inl (f, q)) ∧ (0 < f ∧ f < 10) ∧ (∃ js, tc_PF js m0 (iug, kig, mug, fsg, ssg, txg) ∧ rdg = js.length ∧ usg + ids.length = us + js.length ∧ ∀ j c, js[j]? = some c → reg j = c) ∧ (pp ≤ nw) ∧ (nw ≤ iz))) := by
  refine xk_enter (by decide) (Nat.le_of_ble_eq_true rfl) (fun K C T hin => ?_)
  have y3m : ∀ c ∈ ids, iu c = true := (by obtain ⟨iu0, ki0, mu0, fs0, ss0, tx0⟩ := m0; exact fun c hc => (y3.2.1 c hc).2.2)
  obtain ⟨y10a, y10b⟩ := y10
  obtain ⟨y8a, y8b⟩ := y8
  show xk_Go K D 9 0 0 (tc_wM mm cmm th iu ki mu fs ss tx us te my mo mz mi iz ma 0 none od ar lw oc sk sa sl pp re rd co dq bo lc) [(0, .ref (mm 0)), (1, .int (xk_oI of))] 0 []
  rcases of with _ | j
  ·
    obtain ⟨hl, hb⟩ := y6 rfl
    show xk_Go K D 9 0 0 (tc_wM mm cmm th iu ki mu fs ss tx us te my mo mz mi iz ma 0 none od ar lw oc sk sa sl pp re rd co dq bo lc) [(0, .ref (mm 0)), (1, .int (xk_oI none))] 0 []
    refine x_aload_n C dM_readNode_0 rfl 0 rfl ?_
    refine x_get C fgM_168 0 rfl rfl dM_readNode_1 ?_
    refine x_istore_n C [(2, .int (nI pp)), (0, .ref (mm 0)), (1, .int (xk_oI none))] dM_readNode_4 rfl (by decide) rfl ?_
    refine x_aload_n C dM_readNode_5 rfl 1 rfl ?_
    refine x_callV C (c_M_next D mm cmm th iu ki mu fs ss tx us te my mo mz mi iz ma 0 none od ar lw oc sk sa sl pp re rd co dq bo lc (by omega) y2 (by decide)) kbM_175 kcM_175 [0, 1, 2, 3, 4, 5, 6, 7, 8, 9, 10, 11, 12, 13, 14, 15, 16, 17, 18, 19, 20] [] [0, 1, 2, 3, 4, 5, 6, 7, 8, 9, 10, 11, 12, 13, 14, 15, 16, 17, 18, 19] ([]) rfl rfl (by decide) (by decide) (by decide) rfl 0 rfl rfl ⟨Nat.le_of_ble_eq_true rfl, Nat.le_of_ble_eq_true rfl⟩ ⟨Nat.le_of_ble_eq_true rfl, Nat.le_of_ble_eq_true rfl⟩ [] rfl rfl (Nat.le_of_ble_eq_true rfl) dM_readNode_6 (fun rv ru hw => ?_)
    rcases hw with ⟨rfl, rfl, g1t⟩ | ⟨rfl, rfl, g1t, g2t⟩ | ⟨rfl, rfl, g1t, g2t⟩
    ·
      show xk_Go K D 9 0 0 (tc_wM mm cmm th iu ki mu fs ss tx us te my mo mz mi iz ma 0 none od ar lw oc sk sa sl pp re rd co dq bo lc) [(2, .int (nI pp)), (0, .ref (mm 0)), (1, .int (xk_oI none))] 9 [.int (nI 0)]
      exact absurd g1t (by decide)
    ·
      show xk_Go K D 9 0 0 (tc_wM mm cmm th iu ki mu fs ss tx us te my mo mz mi iz ma 1 (some iz) od ar lw oc sk sa sl pp re rd co dq bo lc) [(2, .int (nI pp)), (0, .ref (mm 0)), (1, .int (xk_oI none))] 9 [.int (nI 0)]
      refine x_istore_n C [(3, .int (nI 0)), (2, .int (nI pp)), (0, .ref (mm 0)), (1, .int (xk_oI none))] dM_readNode_9 rfl (by decide) rfl ?_
      refine x_aload_n C dM_readNode_10 rfl 2 rfl ?_
      refine x_aload_n C dM_readNode_11 rfl 2 rfl ?_
      refine x_get C fgM_165 0 rfl rfl dM_readNode_12 ?_
      refine x_if_gt (tgt := 24) C dM_readNode_15 (by decide) (fun _ => ?_) (fun h => absurd (by decide) h)
      refine x_iconst (v := nI 1) C dM_readNode_24 (by decide) ?_
      refine x_goto C 29 dM_readNode_25 (by decide) ?_
      refine x_callV C (c_M_must D mm cmm th iu ki mu fs ss tx us te my mo mz mi iz ma 1 (some iz) od ar lw oc sk sa sl pp re rd co dq bo lc true (by first | decide | omega) (fun z => by cases z)) kbM_182 kcM_182 [0, 1, 2, 3, 4, 5, 6, 7, 8, 9, 10, 11, 12, 13, 14, 15, 16, 17, 18, 19, 20] [] [0, 1, 2, 3, 4, 5, 6, 7, 8, 9, 10, 11, 12, 13, 14, 15, 16, 17, 18, 19] ([]) rfl rfl (by decide) (by decide) (by decide) rfl 0 rfl rfl ⟨Nat.le_of_ble_eq_true rfl, Nat.le_of_ble_eq_true rfl⟩ ⟨Nat.le_of_ble_eq_true rfl, Nat.le_of_ble_eq_true rfl⟩ [] rfl rfl (Nat.le_of_ble_eq_true rfl) dM_readNode_29 (fun rv ru hw => ?_)
      rcases hw with ⟨rfl, rfl, g1u⟩ | ⟨rfl, rfl, g1u⟩
      ·
        show xk_Go K D 9 0 0 (tc_wM mm cmm th iu ki mu fs ss tx us te my mo mz mi iz ma 1 (some iz) od ar lw oc sk sa sl pp re rd co dq bo lc) [(3, .int (nI 0)), (2, .int (nI pp)), (0, .ref (mm 0)), (1, .int (xk_oI none))] 32 []
        refine x_iload_n C dM_readNode_32 rfl 3 rfl ?_
        refine x_if_ge (tgt := 40) C dM_readNode_33 (by decide) (fun h => absurd h (by decide)) (fun _ => ?_)
        refine x_iconst (v := nI 1) C dM_readNode_36 (by decide) ?_
        refine x_goto C 48 dM_readNode_37 (by decide) ?_
        refine x_top (show nI 1 = nI l by rw [hl]) ?_
        refine x_istore C [(4, .int (nI l)), (3, .int (nI 0)), (2, .int (nI pp)), (0, .ref (mm 0)), (1, .int (xk_oI none))] dM_readNode_48 (by decide) rfl ?_
        refine x_aload_n C dM_readNode_50 rfl 3 rfl ?_
        refine x_get C fgM_165 0 rfl rfl dM_readNode_51 ?_
        refine x_if_ne (tgt := 72) C dM_readNode_54 (by decide) (fun _ => ?_) (fun h => absurd h (by decide))
        refine x_aload_n C dM_readNode_72 rfl 3 rfl ?_
        refine x_get C fgM_165 0 rfl rfl dM_readNode_73 ?_
        refine x_if_ne (tgt := 98) C dM_readNode_76 (by decide) (fun _ => ?_) (fun h => absurd h (by decide))
        refine x_aload_n C dM_readNode_98 rfl 3 rfl ?_
        refine x_get C fgM_165 0 rfl rfl dM_readNode_99 ?_
        refine x_if_le (tgt := 106) C dM_readNode_102 (by decide) (fun h => absurd h (by decide)) (fun _ => ?_)
        exact x_vret C T rfl dM_readNode_105 (Or.inr (⟨1, iz, _, _, _, _, _, _, _, _, _, _, _, _, _, rfl, rfl, (tc_rN_1 g2t), (by decide), (⟨ids, y3, y4, rfl, y5⟩), (by omega), (by omega)⟩))
      ·
        show xk_Go K D 9 0 0 (tc_wM mm cmm th iu ki mu fs ss tx us te my mo mz mi iz ma (tc_f1 1 3) (tc_f2 1 (some iz) (pp - 1)) od ar lw oc sk sa sl pp re rd co dq bo lc) [(3, .int (nI 0)), (2, .int (nI pp)), (0, .ref (mm 0)), (1, .int (xk_oI none))] 32 []
        cases g1u
    ·
      show xk_Go K D 9 0 0 (tc_wM mm cmm th iu ki mu fs ss tx us te my mo mz mi iz ma 0 none od ar lw oc sk sa sl (pp + 1) re rd co dq bo lc) [(2, .int (nI pp)), (0, .ref (mm 0)), (1, .int (xk_oI none))] 9 [.int (nI (mi pp % 256))]
      obtain ⟨bk, hbk⟩ : ∃ c, c = mi pp % 256 := ⟨_, rfl⟩
      rw [← hbk]
      have hb256 : bk < 256 := by omega
      refine x_istore_n C [(3, .int (nI bk)), (2, .int (nI pp)), (0, .ref (mm 0)), (1, .int (xk_oI none))] dM_readNode_9 rfl (by decide) rfl ?_
      refine x_aload_n C dM_readNode_10 rfl 2 rfl ?_
      refine x_aload_n C dM_readNode_11 rfl 2 rfl ?_
      refine x_get C fgM_165 0 rfl rfl dM_readNode_12 ?_
      refine x_if_gt (tgt := 24) C dM_readNode_15 (by decide) (fun h => absurd h (by decide)) (fun _ => ?_)
      refine x_iload_n C dM_readNode_18 rfl 0 rfl ?_
      refine x_bipush (v := nI 12) C dM_readNode_19 (by decide) ?_
      refine x_icmp_geN (tgt := 28) C (by omega) (by decide) dM_readNode_21 (by decide) (fun h21 => ?_) (fun h21 => ?_)
      ·
        refine x_iconst (v := nI 0) C dM_readNode_28 (by decide) ?_
        refine x_callV C (c_M_must D mm cmm th iu ki mu fs ss tx us te my mo mz mi iz ma 0 none od ar lw oc sk sa sl (pp + 1) re rd co dq bo lc false (by first | decide | omega) (fun _ => by omega)) kbM_182 kcM_182 [0, 1, 2, 3, 4, 5, 6, 7, 8, 9, 10, 11, 12, 13, 14, 15, 16, 17, 18, 19, 20] [] [0, 1, 2, 3, 4, 5, 6, 7, 8, 9, 10, 11, 12, 13, 14, 15, 16, 17, 18, 19] ([]) rfl rfl (by decide) (by decide) (by decide) rfl 0 rfl rfl ⟨Nat.le_of_ble_eq_true rfl, Nat.le_of_ble_eq_true rfl⟩ ⟨Nat.le_of_ble_eq_true rfl, Nat.le_of_ble_eq_true rfl⟩ [] rfl rfl (Nat.le_of_ble_eq_true rfl) dM_readNode_29 (fun rv ru hw => ?_)
        rcases hw with ⟨rfl, rfl, g1u⟩ | ⟨rfl, rfl, g1u⟩
        ·
          show xk_Go K D 9 0 0 (tc_wM mm cmm th iu ki mu fs ss tx us te my mo mz mi iz ma 0 none od ar lw oc sk sa sl (pp + 1) re rd co dq bo lc) [(3, .int (nI bk)), (2, .int (nI pp)), (0, .ref (mm 0)), (1, .int (xk_oI none))] 32 []
          cases g1u
        ·
          show xk_Go K D 9 0 0 (tc_wM mm cmm th iu ki mu fs ss tx us te my mo mz mi iz ma (tc_f1 0 3) (tc_f2 0 none ((pp + 1) - 1)) od ar lw oc sk sa sl (pp + 1) re rd co dq bo lc) [(3, .int (nI bk)), (2, .int (nI pp)), (0, .ref (mm 0)), (1, .int (xk_oI none))] 32 []
          show xk_Go K D 9 0 0 (tc_wM mm cmm th iu ki mu fs ss tx us te my mo mz mi iz ma 3 (some pp) od ar lw oc sk sa sl (pp + 1) re rd co dq bo lc) [(3, .int (nI bk)), (2, .int (nI pp)), (0, .ref (mm 0)), (1, .int (xk_oI none))] 32 []
          refine x_iload_n C dM_readNode_32 rfl 3 rfl ?_
          refine x_if_ge (tgt := 40) C dM_readNode_33 (by decide) (fun h => absurd h (by decide)) (fun _ => ?_)
          refine x_iconst (v := nI 1) C dM_readNode_36 (by decide) ?_
          refine x_goto C 48 dM_readNode_37 (by decide) ?_
          refine x_top (show nI 1 = nI l by rw [hl]) ?_
          refine x_istore C [(4, .int (nI l)), (3, .int (nI bk)), (2, .int (nI pp)), (0, .ref (mm 0)), (1, .int (xk_oI none))] dM_readNode_48 (by decide) rfl ?_
          refine x_aload_n C dM_readNode_50 rfl 3 rfl ?_
          refine x_get C fgM_165 0 rfl rfl dM_readNode_51 ?_
          refine x_if_ne (tgt := 72) C dM_readNode_54 (by decide) (fun _ => ?_) (fun h => absurd h (by decide))
          refine x_aload_n C dM_readNode_72 rfl 3 rfl ?_
          refine x_get C fgM_165 0 rfl rfl dM_readNode_73 ?_
          refine x_if_ne (tgt := 98) C dM_readNode_76 (by decide) (fun _ => ?_) (fun h => absurd h (by decide))
          refine x_aload_n C dM_readNode_98 rfl 3 rfl ?_
          refine x_get C fgM_165 0 rfl rfl dM_readNode_99 ?_
          refine x_if_le (tgt := 106) C dM_readNode_102 (by decide) (fun h => absurd h (by decide)) (fun _ => ?_)
          exact x_vret C T rfl dM_readNode_105 (Or.inr (⟨3, pp, _, _, _, _, _, _, _, _, _, _, _, _, _, rfl, rfl, (tc_rN_3 (Nat.not_le.mpr g2t) (show 11 < mi pp % 256 by omega)), (by decide), (⟨ids, y3, y4, rfl, y5⟩), (by omega), (by omega)⟩))
      ·
        refine x_iconst (v := nI 1) C dM_readNode_24 (by decide) ?_
        refine x_goto C 29 dM_readNode_25 (by decide) ?_
        refine x_callV C (c_M_must D mm cmm th iu ki mu fs ss tx us te my mo mz mi iz ma 0 none od ar lw oc sk sa sl (pp + 1) re rd co dq bo lc true (by first | decide | omega) (fun z => by cases z)) kbM_182 kcM_182 [0, 1, 2, 3, 4, 5, 6, 7, 8, 9, 10, 11, 12, 13, 14, 15, 16, 17, 18, 19, 20] [] [0, 1, 2, 3, 4, 5, 6, 7, 8, 9, 10, 11, 12, 13, 14, 15, 16, 17, 18, 19] ([]) rfl rfl (by decide) (by decide) (by decide) rfl 0 rfl rfl ⟨Nat.le_of_ble_eq_true rfl, Nat.le_of_ble_eq_true rfl⟩ ⟨Nat.le_of_ble_eq_true rfl, Nat.le_of_ble_eq_true rfl⟩ [] rfl rfl (Nat.le_of_ble_eq_true rfl) dM_readNode_29 (fun rv ru hw => ?_)
        rcases hw with ⟨rfl, rfl, g1u⟩ | ⟨rfl, rfl, g1u⟩
        ·
          show xk_Go K D 9 0 0 (tc_wM mm cmm th iu ki mu fs ss tx us te my mo mz mi iz ma 0 none od ar lw oc sk sa sl (pp + 1) re rd co dq bo lc) [(3, .int (nI bk)), (2, .int (nI pp)), (0, .ref (mm 0)), (1, .int (xk_oI none))] 32 []
          refine x_iload_n C dM_readNode_32 rfl 3 rfl ?_
          refine x_if_ge (tgt := 40) C dM_readNode_33 (by decide) (fun h => absurd h (by decide)) (fun _ => ?_)
          refine x_iconst (v := nI 1) C dM_readNode_36 (by decide) ?_
          refine x_goto C 48 dM_readNode_37 (by decide) ?_
          refine x_top (show nI 1 = nI l by rw [hl]) ?_
          refine x_istore C [(4, .int (nI l)), (3, .int (nI bk)), (2, .int (nI pp)), (0, .ref (mm 0)), (1, .int (xk_oI none))] dM_readNode_48 (by decide) rfl ?_
          refine x_aload_n C dM_readNode_50 rfl 3 rfl ?_
          refine x_get C fgM_165 0 rfl rfl dM_readNode_51 ?_
          refine x_if_ne (tgt := 72) C dM_readNode_54 (by decide) (fun h => absurd (by decide) h) (fun _ => ?_)
          refine x_iload C dM_readNode_57 0 rfl ?_
          refine x_bipush (v := nI 60) C dM_readNode_59 (by decide) ?_
          refine x_icmp_leN (tgt := 72) C (by omega) (by decide) dM_readNode_61 (by decide) (fun h61 => ?_) (fun h61 => ?_)
          ·
            refine x_aload_n C dM_readNode_72 rfl 3 rfl ?_
            refine x_get C fgM_165 0 rfl rfl dM_readNode_73 ?_
            refine x_if_ne (tgt := 98) C dM_readNode_76 (by decide) (fun h => absurd (by decide) h) (fun _ => ?_)
            refine x_aload_n C dM_readNode_79 rfl 3 rfl ?_
            refine x_get C fgM_84 0 rfl rfl dM_readNode_80 ?_
            refine x_sipush (v := nI 200) C dM_readNode_83 (by decide) ?_
            refine x_icmp_neN (tgt := 98) C (by omega) (by decide) dM_readNode_86 (by decide) (fun h86 => ?_) (fun h86 => ?_)
            ·
              refine x_aload_n C dM_readNode_98 rfl 3 rfl ?_
              refine x_get C fgM_165 0 rfl rfl dM_readNode_99 ?_
              refine x_if_le (tgt := 106) C dM_readNode_102 (by decide) (fun _ => ?_) (fun h => absurd (by decide) h)
              refine x_iload_n C dM_readNode_106 rfl 4 rfl ?_
              refine x_if_ge (tgt := 114) C dM_readNode_107 (by decide) (fun h => absurd h (by decide)) (fun _ => ?_)
              refine x_iconst (v := nI 0) C dM_readNode_110 (by decide) ?_
              refine x_goto C 120 dM_readNode_111 (by decide) ?_
              refine x_top (show nI 0 = nI b by rw [hb]) ?_
              refine x_istore C [(5, .int (nI b)), (4, .int (nI l)), (3, .int (nI bk)), (2, .int (nI pp)), (0, .ref (mm 0)), (1, .int (xk_oI none))] dM_readNode_120 (by decide) rfl ?_
              refine x_aload_n C dM_readNode_122 rfl 4 rfl ?_
              refine x_iload_n C dM_readNode_123 rfl 2 rfl ?_
              refine x_lconst (v := 0) C dM_readNode_124 (by decide) ?_
              obtain ⟨k0, hk0, hk1⟩ := y9 (by omega)
              refine x_callV C (c_M_make D mm cmm th iu ki mu fs ss tx us te my mo mz mi iz ma 0 none od ar lw oc sk sa sl (pp + 1) re rd co dq bo lc bk 0 k0 hk0 hk1) kbM_115 kcM_115 [0, 1, 2, 3, 4, 5, 6, 7, 8, 9, 10, 11, 12, 13, 14, 15, 16, 17, 18, 19, 20] [] [0, 1, 2, 3, 4, 5, 6, 7, 8, 9, 10, 11, 12, 13, 14, 15, 16, 17, 18, 19] ([]) rfl rfl (by decide) (by decide) (by decide) rfl 0 rfl rfl ⟨Nat.le_of_ble_eq_true rfl, Nat.le_of_ble_eq_true rfl⟩ ⟨Nat.le_of_ble_eq_true rfl, Nat.le_of_ble_eq_true rfl⟩ [] rfl rfl (Nat.le_of_ble_eq_true rfl) dM_readNode_125 (fun rv ru hw => ?_)
              obtain ⟨m, rfl, rfl, g1m, g2m⟩ := hw
              show xk_Go K D 9 0 0 (tc_wM mm cmm th (va_up iu m true) (va_up ki m bk) (vp_updL mu m 0) (va_up fs m none) (va_up ss m none) tx (us + 1) te my mo mz mi iz ma 0 none od ar lw oc sk sa sl (pp + 1) re rd co dq bo lc) [(5, .int (nI b)), (4, .int (nI l)), (3, .int (nI bk)), (2, .int (nI pp)), (0, .ref (mm 0)), (1, .int (xk_oI none))] 128 [.int (nI m)]
              have hk12 : bk = 0 ∨ bk = 1 ∨ bk = 2 ∨ bk = 3 ∨ bk = 4 ∨ bk = 5 ∨ bk = 6 ∨ bk = 7 ∨ bk = 8 ∨ bk = 9 ∨ bk = 10 ∨ bk = 11 := by omega
              refine x_istore C [(6, .int (nI m)), (5, .int (nI b)), (4, .int (nI l)), (3, .int (nI bk)), (2, .int (nI pp)), (0, .ref (mm 0)), (1, .int (xk_oI none))] dM_readNode_128 (by decide) rfl ?_
              refine x_aload_n C dM_readNode_130 rfl 5 rfl ?_
              refine x_get C fgM_62 0 rfl rfl dM_readNode_131 ?_
              refine x_aload_n C dM_readNode_134 rfl 5 rfl ?_
              refine x_get C fgM_186 0 rfl rfl dM_readNode_135 ?_
              refine x_iload C dM_readNode_138 0 rfl ?_
              refine x_ist C 16 15 (tc_wM mm cmm th (va_up iu m true) (va_up ki m bk) (vp_updL mu m 0) (va_up fs m none) (va_up ss m none) tx (us + 1) te my mo mz mi iz ma 0 none od ar lw oc sk sa sl (pp + 1) (va_up re rd m) rd co dq bo lc) rfl rfl (xk_nA_up re rd m) rfl (by omega) (by decide) dM_readNode_140 ?_
              refine x_aload_n C dM_readNode_141 rfl 5 rfl ?_
              refine x_get C fgM_68 0 rfl rfl dM_readNode_142 ?_
              refine x_aload_n C dM_readNode_145 rfl 5 rfl ?_
              refine x_get C fgM_186 0 rfl rfl dM_readNode_146 ?_
              refine x_iload C dM_readNode_149 2 rfl ?_
              refine x_ist C 18 17 (tc_wM mm cmm th (va_up iu m true) (va_up ki m bk) (vp_updL mu m 0) (va_up fs m none) (va_up ss m none) tx (us + 1) te my mo mz mi iz ma 0 none od ar lw oc sk sa sl (pp + 1) (va_up re rd m) rd co (va_up dq rd l) bo lc) rfl rfl (xk_nA_up dq rd l) rfl (by omega) (by decide) dM_readNode_151 ?_
              refine x_aload_n C dM_readNode_152 rfl 5 rfl ?_
              refine x_get C fgM_71 0 rfl rfl dM_readNode_153 ?_
              refine x_aload_n C dM_readNode_156 rfl 5 rfl ?_
              refine x_get C fgM_186 0 rfl rfl dM_readNode_157 ?_
              refine x_iload C dM_readNode_160 1 rfl ?_
              have jn174 : ∀ (bv : Nat), (bv = b + if bk = 1 then 1 else 0) → xk_Go K D 9 0 0 (tc_wM mm cmm th (va_up iu m true) (va_up ki m bk) (vp_updL mu m 0) (va_up fs m none) (va_up ss m none) tx (us + 1) te my mo mz mi iz ma 0 none od ar lw oc sk sa sl (pp + 1) (va_up re rd m) rd co (va_up dq rd l) (va_up bo rd bv) lc) [(0, .ref (mm 0)), (1, .int (xk_oI none)), (2, .int (nI pp)), (3, .int (nI bk)), (4, .int (nI l)), (5, .int (nI b)), (6, .int (nI m))] 174 [] := by
                intro bv hbv
                refine x_aload_n C dM_readNode_174 rfl 0 rfl ?_
                refine x_get C fgM_74 0 rfl rfl dM_readNode_175 ?_
                refine x_aload_n C dM_readNode_178 rfl 0 rfl ?_
                refine x_get C fgM_186 0 rfl rfl dM_readNode_179 ?_
                refine x_iload_n C dM_readNode_182 rfl 3 rfl ?_
                refine x_callS C (c_M_takes D bk (by omega)) kbM_109 kcM_109 [] [0, 1, 2, 3, 4, 5, 6, 7, 8, 9, 10, 11, 12, 13, 14, 15, 16, 17, 18, 19, 20] [] (tc_wM mm cmm th (va_up iu m true) (va_up ki m bk) (vp_updL mu m 0) (va_up fs m none) (va_up ss m none) tx (us + 1) te my mo mz mi iz ma 0 none od ar lw oc sk sa sl (pp + 1) (va_up re rd m) rd co (va_up dq rd l) (va_up bo rd bv) lc) rfl rfl (by decide) (by decide) (by decide) rfl ⟨Nat.le_of_ble_eq_true rfl, Nat.le_of_ble_eq_true rfl⟩ ⟨Nat.le_of_ble_eq_true rfl, Nat.le_of_ble_eq_true rfl⟩ [.int (nI rd), .ref (mm 20)] rfl rfl (Nat.le_of_ble_eq_true rfl) dM_readNode_183 (fun rv ru hw => ?_)
                obtain ⟨rfl, rfl⟩ := hw
                show xk_Go K D 9 0 0 (tc_wM mm cmm th (va_up iu m true) (va_up ki m bk) (vp_updL mu m 0) (va_up fs m none) (va_up ss m none) tx (us + 1) te my mo mz mi iz ma 0 none od ar lw oc sk sa sl (pp + 1) (va_up re rd m) rd co (va_up dq rd l) (va_up bo rd bv) lc) [(0, .ref (mm 0)), (1, .int (xk_oI none)), (2, .int (nI pp)), (3, .int (nI bk)), (4, .int (nI l)), (5, .int (nI b)), (6, .int (nI m))] 186 [.int (nI (tc_tk bk)), .int (nI rd), .ref (mm 20)]
                refine x_ist C 20 19 (tc_wM mm cmm th (va_up iu m true) (va_up ki m bk) (vp_updL mu m 0) (va_up fs m none) (va_up ss m none) tx (us + 1) te my mo mz mi iz ma 0 none od ar lw oc sk sa sl (pp + 1) (va_up re rd m) rd co (va_up dq rd l) (va_up bo rd bv) (va_up lc rd (tc_tk bk))) rfl rfl (xk_nA_up lc rd (tc_tk bk)) rfl (by omega) (by decide) dM_readNode_186 ?_
                refine x_aload_n C dM_readNode_187 rfl 0 rfl ?_
                refine x_dup C dM_readNode_188 rfl ?_
                refine x_get C fgM_186 0 rfl rfl dM_readNode_189 ?_
                refine x_iconst (v := nI 1) C dM_readNode_192 (by decide) ?_
                refine x_iaddN C dM_readNode_193 ?_
                refine x_put C fpM_186 0 (tc_wM mm cmm th (va_up iu m true) (va_up ki m bk) (vp_updL mu m 0) (va_up fs m none) (va_up ss m none) tx (us + 1) te my mo mz mi iz ma 0 none od ar lw oc sk sa sl (pp + 1) (va_up re rd m) (rd + 1) co (va_up dq rd l) (va_up bo rd bv) (va_up lc rd (tc_tk bk))) rfl rfl rfl rfl (Nat.le_of_ble_eq_true rfl) dM_readNode_194 ?_
                have jn445 : ∀ (mug : Nat → Int64) (txg : Nat → Nat) (nw : Nat) (fv : Nat) (pv : Option Nat), ((fv = 0 ∧ pv = none ∧ ∃ x, tc_rE (tc_B mi) iz bk pp b (pp + 1) = .inr (x, nw) ∧ tc_mn (va_up ki m bk) mug txg m = x) ∨ (0 < fv ∧ fv < 10 ∧ ∃ q, pv = some q ∧ tc_rE (tc_B mi) iz bk pp b (pp + 1) = .inl (fv, q))) → (∀ i, i ≠ m → mug i = mu i) → (∀ i, i ≠ m → ∀ t, t < 64 → txg (64 * i + t) % 256 = tx (64 * i + t) % 256) → (pp ≤ nw ∧ nw ≤ iz) → xk_Go K D 9 0 0 (tc_wM mm cmm th (va_up iu m true) (va_up ki m bk) mug (va_up fs m none) (va_up ss m none) txg (us + 1) te my mo mz mi iz ma fv pv od ar lw oc sk sa sl nw (va_up re rd m) (rd + 1) co (va_up dq rd l) (va_up bo rd bv) (va_up lc rd (tc_tk bk))) [(0, .ref (mm 0)), (1, .int (xk_oI none)), (6, .int (nI m))] 445 [] := by
                  intro mug txg nw fv pv q1 q2 q3 q4
                  refine x_iload_n C dM_readNode_445 rfl 1 rfl ?_
                  rcases q1 with ⟨rfl, rfl, x, q5, q6⟩ | ⟨q5, q6, q, rfl, q7⟩
                  ·
                    have hxk := tc_rE_k q5
                    refine x_if_lt (tgt := 498) C dM_readNode_446 (by decide) (fun _ => ?_) (fun h => absurd (by decide) h)
                    exact x_vret C T rfl dM_readNode_498 (Or.inl (⟨x, _, m, _, _, _, _, _, rfl, by rw [hxk, ← hbv], ((tc_rN_E (Nat.not_le.mpr g2t) (show ¬ 11 < mi pp % 256 by omega) (by omega) (by omega)).trans (by show tc_rE (tc_B mi) iz (mi pp % 256) pp b (pp + 1) = _; rw [← hbk]; exact q5)), (⟨g1m, g2m⟩), (by rw [hxk]; exact q6), q2, q3, (fun _ => ⟨rfl, rfl, by rw [hxk]⟩), (fun j z => by cases z), q4.1, q4.2⟩))
                  ·
                    refine x_if_lt (tgt := 498) C dM_readNode_446 (by decide) (fun _ => ?_) (fun h => absurd (by decide) h)
                    exact x_vret C T rfl dM_readNode_498 (Or.inr (⟨fv, q, _, _, _, _, _, _, _, _, _, _, _, _, _, rfl, rfl, ((tc_rN_E (Nat.not_le.mpr g2t) (show ¬ 11 < mi pp % 256 by omega) (by omega) (by omega)).trans (by show tc_rE (tc_B mi) iz (mi pp % 256) pp b (pp + 1) = _; rw [← hbk]; exact q7)), (⟨q5, q6⟩), (⟨ids ++ [m], tc_PF_new y3 g1m g2m (fun i hi him => ⟨va_up_ne _ _ him, q2 i him, va_up_ne _ _ him, va_up_ne _ _ him, q3 i him⟩), by rw [List.length_append, List.length_singleton]; omega, by rw [List.length_append, List.length_singleton]; omega, by rw [y4]; exact tc_co1 y5⟩), q4.1, q4.2⟩))
                refine x_iload_n C dM_readNode_197 rfl 3 rfl ?_
                rcases hk12 with rfl | rfl | rfl | rfl | rfl | rfl | rfl | rfl | rfl | rfl | rfl | rfl
                ·
                  refine x_if_ne (tgt := 286) C dM_readNode_198 (by decide) (fun h => absurd (by decide) h) (fun _ => ?_)
                  refine x_aload_n C dM_readNode_201 rfl 0 rfl ?_
                  refine x_get C fgM_17 0 rfl rfl dM_readNode_202 ?_
                  refine x_iload C dM_readNode_205 6 rfl ?_
                  refine x_aload_n C dM_readNode_207 rfl 0 rfl ?_
                  refine x_callV C (c_M_readU D mm cmm th (va_up iu m true) (va_up ki m 0) (vp_updL mu m 0) (va_up fs m none) (va_up ss m none) tx (us + 1) te my mo mz mi iz ma od ar lw oc sk sa sl (pp + 1) (va_up re rd m) (rd + 1) co (va_up dq rd l) (va_up bo rd bv) (va_up lc rd (tc_tk 0)) (by omega) y2 (by omega)) kbM_189 kcM_189 [0, 1, 2, 3, 4, 5, 6, 7, 8, 9, 10, 11, 12, 13, 14, 15, 16, 17, 18, 19, 20] [] [0, 1, 2, 3, 4, 5, 6, 7, 8, 9, 10, 11, 12, 13, 14, 15, 16, 17, 18, 19] ([]) rfl rfl (by decide) (by decide) (by decide) rfl 0 rfl rfl ⟨Nat.le_of_ble_eq_true rfl, Nat.le_of_ble_eq_true rfl⟩ ⟨Nat.le_of_ble_eq_true rfl, Nat.le_of_ble_eq_true rfl⟩ [.int (nI m), .ref (mm 3)] rfl rfl (Nat.le_of_ble_eq_true rfl) dM_readNode_208 (fun rv ru hw => ?_)
                  rcases hw with ⟨xv, nw, rfl, rfl, g1r, g2r, g3r⟩ | ⟨xv, nw, f, q, rfl, rfl, g1r, g2r, g3r, g4r⟩
                  ·
                    show xk_Go K D 9 0 0 (tc_wM mm cmm th (va_up iu m true) (va_up ki m 0) (vp_updL mu m 0) (va_up fs m none) (va_up ss m none) tx (us + 1) te my mo mz mi iz ma 0 none od ar lw oc sk sa sl nw (va_up re rd m) (rd + 1) co (va_up dq rd l) (va_up bo rd bv) (va_up lc rd (tc_tk 0))) [(0, .ref (mm 0)), (1, .int (xk_oI none)), (2, .int (nI pp)), (3, .int (nI 0)), (4, .int (nI l)), (5, .int (nI b)), (6, .int (nI m))] 211 [.long xv, .int (nI m), .ref (mm 3)]
                    refine x_lst C 3 2 (tc_wM mm cmm th (va_up iu m true) (va_up ki m 0) (vp_updL (vp_updL mu m 0) m xv) (va_up fs m none) (va_up ss m none) tx (us + 1) te my mo mz mi iz ma 0 none od ar lw oc sk sa sl nw (va_up re rd m) (rd + 1) co (va_up dq rd l) (va_up bo rd bv) (va_up lc rd (tc_tk 0))) rfl rfl rfl rfl (by omega) (by decide) dM_readNode_211 ?_
                    refine x_aload_n C dM_readNode_212 rfl 0 rfl ?_
                    refine x_aload_n C dM_readNode_213 rfl 0 rfl ?_
                    refine x_get C fgM_165 0 rfl rfl dM_readNode_214 ?_
                    refine x_if_gt (tgt := 246) C dM_readNode_217 (by decide) (fun h => absurd h (by decide)) (fun _ => ?_)
                    refine x_aload_n C dM_readNode_220 rfl 0 rfl ?_
                    refine x_get C fgM_17 0 rfl rfl dM_readNode_221 ?_
                    refine x_iload C dM_readNode_224 6 rfl ?_
                    refine x_lld C 3 2 rfl rfl (by omega) (by decide) dM_readNode_226 ?_
                    rw [pk_uLs]
                    refine x_lconst (v := 1) C dM_readNode_227 (by decide) ?_
                    refine x_lcmp C dM_readNode_228 ?_
                    refine x_if_ltC (tgt := 250) C dM_readNode_229 (by decide) (fun h229 => ?_) (fun h229 => ?_)
                    ·
                      refine x_iconst (v := nI 0) C dM_readNode_250 (by decide) ?_
                      refine x_callV C (c_M_must D mm cmm th (va_up iu m true) (va_up ki m 0) (vp_updL (vp_updL mu m 0) m xv) (va_up fs m none) (va_up ss m none) tx (us + 1) te my mo mz mi iz ma 0 none od ar lw oc sk sa sl nw (va_up re rd m) (rd + 1) co (va_up dq rd l) (va_up bo rd bv) (va_up lc rd (tc_tk 0)) false (by first | decide | omega) (fun _ => by omega)) kbM_182 kcM_182 [0, 1, 2, 3, 4, 5, 6, 7, 8, 9, 10, 11, 12, 13, 14, 15, 16, 17, 18, 19, 20] [] [0, 1, 2, 3, 4, 5, 6, 7, 8, 9, 10, 11, 12, 13, 14, 15, 16, 17, 18, 19] ([]) rfl rfl (by decide) (by decide) (by decide) rfl 0 rfl rfl ⟨Nat.le_of_ble_eq_true rfl, Nat.le_of_ble_eq_true rfl⟩ ⟨Nat.le_of_ble_eq_true rfl, Nat.le_of_ble_eq_true rfl⟩ [] rfl rfl (Nat.le_of_ble_eq_true rfl) dM_readNode_251 (fun rv ru hw => ?_)
                      rcases hw with ⟨rfl, rfl, g1u⟩ | ⟨rfl, rfl, g1u⟩
                      ·
                        show xk_Go K D 9 0 0 (tc_wM mm cmm th (va_up iu m true) (va_up ki m 0) (vp_updL (vp_updL mu m 0) m xv) (va_up fs m none) (va_up ss m none) tx (us + 1) te my mo mz mi iz ma 0 none od ar lw oc sk sa sl nw (va_up re rd m) (rd + 1) co (va_up dq rd l) (va_up bo rd bv) (va_up lc rd (tc_tk 0))) [(0, .ref (mm 0)), (1, .int (xk_oI none)), (2, .int (nI pp)), (3, .int (nI 0)), (4, .int (nI l)), (5, .int (nI b)), (6, .int (nI m))] 254 []
                        cases g1u
                      ·
                        show xk_Go K D 9 0 0 (tc_wM mm cmm th (va_up iu m true) (va_up ki m 0) (vp_updL (vp_updL mu m 0) m xv) (va_up fs m none) (va_up ss m none) tx (us + 1) te my mo mz mi iz ma (tc_f1 0 3) (tc_f2 0 none (nw - 1)) od ar lw oc sk sa sl nw (va_up re rd m) (rd + 1) co (va_up dq rd l) (va_up bo rd bv) (va_up lc rd (tc_tk 0))) [(0, .ref (mm 0)), (1, .int (xk_oI none)), (2, .int (nI pp)), (3, .int (nI 0)), (4, .int (nI l)), (5, .int (nI b)), (6, .int (nI m))] 254 []
                        show xk_Go K D 9 0 0 (tc_wM mm cmm th (va_up iu m true) (va_up ki m 0) (vp_updL (vp_updL mu m 0) m xv) (va_up fs m none) (va_up ss m none) tx (us + 1) te my mo mz mi iz ma 3 (some (nw - 1)) od ar lw oc sk sa sl nw (va_up re rd m) (rd + 1) co (va_up dq rd l) (va_up bo rd bv) (va_up lc rd (tc_tk 0))) [(0, .ref (mm 0)), (1, .int (xk_oI none)), (2, .int (nI pp)), (3, .int (nI 0)), (4, .int (nI l)), (5, .int (nI b)), (6, .int (nI m))] 254 []
                        refine x_aload_n C dM_readNode_254 rfl 0 rfl ?_
                        refine x_get C fgM_165 0 rfl rfl dM_readNode_255 ?_
                        refine x_if_ne (tgt := 445) C dM_readNode_258 (by decide) (fun _ => ?_) (fun h => absurd h (by decide))
                        exact x_sub [0, 1, 6] rfl (jn445 (vp_updL (vp_updL mu m 0) m xv) tx nw 3 (some (nw - 1)) (Or.inr ⟨by first | decide | omega, by first | decide | omega, _, rfl, tc_rE_3 (tc_rV_0.trans g1r) (tc_fit_f (fun z => by first | exact absurd h229 (Int64.not_lt.mpr ((tc_fa_0 rfl).mp z).1) | exact absurd h243 (Int64.not_lt.mpr ((tc_fa_0 rfl).mp z).2)))⟩) (fun i hi => (pk_uLn hi).trans (pk_uLn hi)) (fun i hi t ht => rfl) (⟨by omega, by omega⟩))
                    ·
                      refine x_aload_n C dM_readNode_232 rfl 0 rfl ?_
                      refine x_get C fgM_17 0 rfl rfl dM_readNode_233 ?_
                      refine x_iload C dM_readNode_236 6 rfl ?_
                      refine x_lld C 3 2 rfl rfl (by omega) (by decide) dM_readNode_238 ?_
                      rw [pk_uLs]
                      refine x_ldc2 (v := 200) C dM_readNode_239 klM_97 ?_
                      refine x_lcmp C dM_readNode_242 ?_
                      refine x_if_gtC (tgt := 250) C dM_readNode_243 (by decide) (fun h243 => ?_) (fun h243 => ?_)
                      ·
                        refine x_iconst (v := nI 0) C dM_readNode_250 (by decide) ?_
                        refine x_callV C (c_M_must D mm cmm th (va_up iu m true) (va_up ki m 0) (vp_updL (vp_updL mu m 0) m xv) (va_up fs m none) (va_up ss m none) tx (us + 1) te my mo mz mi iz ma 0 none od ar lw oc sk sa sl nw (va_up re rd m) (rd + 1) co (va_up dq rd l) (va_up bo rd bv) (va_up lc rd (tc_tk 0)) false (by first | decide | omega) (fun _ => by omega)) kbM_182 kcM_182 [0, 1, 2, 3, 4, 5, 6, 7, 8, 9, 10, 11, 12, 13, 14, 15, 16, 17, 18, 19, 20] [] [0, 1, 2, 3, 4, 5, 6, 7, 8, 9, 10, 11, 12, 13, 14, 15, 16, 17, 18, 19] ([]) rfl rfl (by decide) (by decide) (by decide) rfl 0 rfl rfl ⟨Nat.le_of_ble_eq_true rfl, Nat.le_of_ble_eq_true rfl⟩ ⟨Nat.le_of_ble_eq_true rfl, Nat.le_of_ble_eq_true rfl⟩ [] rfl rfl (Nat.le_of_ble_eq_true rfl) dM_readNode_251 (fun rv ru hw => ?_)
                        rcases hw with ⟨rfl, rfl, g1u⟩ | ⟨rfl, rfl, g1u⟩
                        ·
                          show xk_Go K D 9 0 0 (tc_wM mm cmm th (va_up iu m true) (va_up ki m 0) (vp_updL (vp_updL mu m 0) m xv) (va_up fs m none) (va_up ss m none) tx (us + 1) te my mo mz mi iz ma 0 none od ar lw oc sk sa sl nw (va_up re rd m) (rd + 1) co (va_up dq rd l) (va_up bo rd bv) (va_up lc rd (tc_tk 0))) [(0, .ref (mm 0)), (1, .int (xk_oI none)), (2, .int (nI pp)), (3, .int (nI 0)), (4, .int (nI l)), (5, .int (nI b)), (6, .int (nI m))] 254 []
                          cases g1u
                        ·
                          show xk_Go K D 9 0 0 (tc_wM mm cmm th (va_up iu m true) (va_up ki m 0) (vp_updL (vp_updL mu m 0) m xv) (va_up fs m none) (va_up ss m none) tx (us + 1) te my mo mz mi iz ma (tc_f1 0 3) (tc_f2 0 none (nw - 1)) od ar lw oc sk sa sl nw (va_up re rd m) (rd + 1) co (va_up dq rd l) (va_up bo rd bv) (va_up lc rd (tc_tk 0))) [(0, .ref (mm 0)), (1, .int (xk_oI none)), (2, .int (nI pp)), (3, .int (nI 0)), (4, .int (nI l)), (5, .int (nI b)), (6, .int (nI m))] 254 []
                          show xk_Go K D 9 0 0 (tc_wM mm cmm th (va_up iu m true) (va_up ki m 0) (vp_updL (vp_updL mu m 0) m xv) (va_up fs m none) (va_up ss m none) tx (us + 1) te my mo mz mi iz ma 3 (some (nw - 1)) od ar lw oc sk sa sl nw (va_up re rd m) (rd + 1) co (va_up dq rd l) (va_up bo rd bv) (va_up lc rd (tc_tk 0))) [(0, .ref (mm 0)), (1, .int (xk_oI none)), (2, .int (nI pp)), (3, .int (nI 0)), (4, .int (nI l)), (5, .int (nI b)), (6, .int (nI m))] 254 []
                          refine x_aload_n C dM_readNode_254 rfl 0 rfl ?_
                          refine x_get C fgM_165 0 rfl rfl dM_readNode_255 ?_
                          refine x_if_ne (tgt := 445) C dM_readNode_258 (by decide) (fun _ => ?_) (fun h => absurd h (by decide))
                          exact x_sub [0, 1, 6] rfl (jn445 (vp_updL (vp_updL mu m 0) m xv) tx nw 3 (some (nw - 1)) (Or.inr ⟨by first | decide | omega, by first | decide | omega, _, rfl, tc_rE_3 (tc_rV_0.trans g1r) (tc_fit_f (fun z => by first | exact absurd h229 (Int64.not_lt.mpr ((tc_fa_0 rfl).mp z).1) | exact absurd h243 (Int64.not_lt.mpr ((tc_fa_0 rfl).mp z).2)))⟩) (fun i hi => (pk_uLn hi).trans (pk_uLn hi)) (fun i hi t ht => rfl) (⟨by omega, by omega⟩))
                      ·
                        refine x_iconst (v := nI 1) C dM_readNode_246 (by decide) ?_
                        refine x_goto C 251 dM_readNode_247 (by decide) ?_
                        refine x_callV C (c_M_must D mm cmm th (va_up iu m true) (va_up ki m 0) (vp_updL (vp_updL mu m 0) m xv) (va_up fs m none) (va_up ss m none) tx (us + 1) te my mo mz mi iz ma 0 none od ar lw oc sk sa sl nw (va_up re rd m) (rd + 1) co (va_up dq rd l) (va_up bo rd bv) (va_up lc rd (tc_tk 0)) true (by first | decide | omega) (fun z => by cases z)) kbM_182 kcM_182 [0, 1, 2, 3, 4, 5, 6, 7, 8, 9, 10, 11, 12, 13, 14, 15, 16, 17, 18, 19, 20] [] [0, 1, 2, 3, 4, 5, 6, 7, 8, 9, 10, 11, 12, 13, 14, 15, 16, 17, 18, 19] ([]) rfl rfl (by decide) (by decide) (by decide) rfl 0 rfl rfl ⟨Nat.le_of_ble_eq_true rfl, Nat.le_of_ble_eq_true rfl⟩ ⟨Nat.le_of_ble_eq_true rfl, Nat.le_of_ble_eq_true rfl⟩ [] rfl rfl (Nat.le_of_ble_eq_true rfl) dM_readNode_251 (fun rv ru hw => ?_)
                        rcases hw with ⟨rfl, rfl, g1u⟩ | ⟨rfl, rfl, g1u⟩
                        ·
                          show xk_Go K D 9 0 0 (tc_wM mm cmm th (va_up iu m true) (va_up ki m 0) (vp_updL (vp_updL mu m 0) m xv) (va_up fs m none) (va_up ss m none) tx (us + 1) te my mo mz mi iz ma 0 none od ar lw oc sk sa sl nw (va_up re rd m) (rd + 1) co (va_up dq rd l) (va_up bo rd bv) (va_up lc rd (tc_tk 0))) [(0, .ref (mm 0)), (1, .int (xk_oI none)), (2, .int (nI pp)), (3, .int (nI 0)), (4, .int (nI l)), (5, .int (nI b)), (6, .int (nI m))] 254 []
                          refine x_aload_n C dM_readNode_254 rfl 0 rfl ?_
                          refine x_get C fgM_165 0 rfl rfl dM_readNode_255 ?_
                          refine x_if_ne (tgt := 445) C dM_readNode_258 (by decide) (fun h => absurd (by decide) h) (fun _ => ?_)
                          refine x_aload_n C dM_readNode_261 rfl 0 rfl ?_
                          refine x_get C fgM_17 0 rfl rfl dM_readNode_262 ?_
                          refine x_iload C dM_readNode_265 6 rfl ?_
                          refine x_lld C 3 2 rfl rfl (by omega) (by decide) dM_readNode_267 ?_
                          rw [pk_uLs]
                          refine x_iload C dM_readNode_268 5 rfl ?_
                          refine x_i2l (v := lN b) C dM_readNode_270 (nI_l (by omega)) ?_
                          refine x_lcmp C dM_readNode_271 ?_
                          refine x_if_leC (tgt := 445) C dM_readNode_272 (by decide) (fun h272 => ?_) (fun h272 => ?_)
                          ·
                            exact x_sub [0, 1, 6] rfl (jn445 (vp_updL (vp_updL mu m 0) m xv) tx nw 0 none (Or.inl ⟨rfl, rfl, _, tc_rE_o (tc_rV_0.trans g1r) (tc_fit_t ((tc_fa_0 rfl).mpr ⟨Int64.not_lt.mp h229, Int64.not_lt.mp h243⟩)) (fun z => absurd z.2 (tc_le_la (by omega) h272)) (by decide), tc_mn_n8 (va_up_self _ _ _) pk_uLs (by decide)⟩) (fun i hi => (pk_uLn hi).trans (pk_uLn hi)) (fun i hi t ht => rfl) (⟨by omega, by omega⟩))
                          ·
                            refine x_aload_n C dM_readNode_275 rfl 0 rfl ?_
                            refine x_iconst (v := nI 4) C dM_readNode_276 (by decide) ?_
                            refine x_iload_n C dM_readNode_277 rfl 2 rfl ?_
                            refine x_callV C (c_M_wrong D mm cmm th (va_up iu m true) (va_up ki m 0) (vp_updL (vp_updL mu m 0) m xv) (va_up fs m none) (va_up ss m none) tx (us + 1) te my mo mz mi iz ma 0 none od ar lw oc sk sa sl nw (va_up re rd m) (rd + 1) co (va_up dq rd l) (va_up bo rd bv) (va_up lc rd (tc_tk 0)) 4 pp (by decide)) kbM_171 kcM_171 [0, 1, 2, 3, 4, 5, 6, 7, 8, 9, 10, 11, 12, 13, 14, 15, 16, 17, 18, 19, 20] [] [0, 1, 2, 3, 4, 5, 6, 7, 8, 9, 10, 11, 12, 13, 14, 15, 16, 17, 18, 19] ([]) rfl rfl (by decide) (by decide) (by decide) rfl 0 rfl rfl ⟨Nat.le_of_ble_eq_true rfl, Nat.le_of_ble_eq_true rfl⟩ ⟨Nat.le_of_ble_eq_true rfl, Nat.le_of_ble_eq_true rfl⟩ [] rfl rfl (Nat.le_of_ble_eq_true rfl) dM_readNode_278 (fun rv ru hw => ?_)
                            obtain ⟨rfl, rfl⟩ := hw
                            show xk_Go K D 9 0 0 (tc_wM mm cmm th (va_up iu m true) (va_up ki m 0) (vp_updL (vp_updL mu m 0) m xv) (va_up fs m none) (va_up ss m none) tx (us + 1) te my mo mz mi iz ma (tc_f1 0 4) (tc_f2 0 none pp) od ar lw oc sk sa sl nw (va_up re rd m) (rd + 1) co (va_up dq rd l) (va_up bo rd bv) (va_up lc rd (tc_tk 0))) [(0, .ref (mm 0)), (1, .int (xk_oI none)), (2, .int (nI pp)), (3, .int (nI 0)), (4, .int (nI l)), (5, .int (nI b)), (6, .int (nI m))] 281 [.int (nI 0)]
                            show xk_Go K D 9 0 0 (tc_wM mm cmm th (va_up iu m true) (va_up ki m 0) (vp_updL (vp_updL mu m 0) m xv) (va_up fs m none) (va_up ss m none) tx (us + 1) te my mo mz mi iz ma 4 (some pp) od ar lw oc sk sa sl nw (va_up re rd m) (rd + 1) co (va_up dq rd l) (va_up bo rd bv) (va_up lc rd (tc_tk 0))) [(0, .ref (mm 0)), (1, .int (xk_oI none)), (2, .int (nI pp)), (3, .int (nI 0)), (4, .int (nI l)), (5, .int (nI b)), (6, .int (nI m))] 281 [.int (nI 0)]
                            refine x_istore C [(7, .int (nI 0)), (0, .ref (mm 0)), (1, .int (xk_oI none)), (2, .int (nI pp)), (3, .int (nI 0)), (4, .int (nI l)), (5, .int (nI b)), (6, .int (nI m))] dM_readNode_281 (by decide) rfl ?_
                            refine x_goto C 445 dM_readNode_283 (by decide) ?_
                            exact x_sub [1, 2, 7] rfl (jn445 (vp_updL (vp_updL mu m 0) m xv) tx nw 4 (some pp) (Or.inr ⟨by first | decide | omega, by first | decide | omega, _, rfl, tc_rE_4 (tc_rV_0.trans g1r) (tc_fit_t ((tc_fa_0 rfl).mpr ⟨Int64.not_lt.mp h229, Int64.not_lt.mp h243⟩)) rfl (tc_gt_la (by omega) h272)⟩) (fun i hi => (pk_uLn hi).trans (pk_uLn hi)) (fun i hi t ht => rfl) (⟨by omega, by omega⟩))
                        ·
                          show xk_Go K D 9 0 0 (tc_wM mm cmm th (va_up iu m true) (va_up ki m 0) (vp_updL (vp_updL mu m 0) m xv) (va_up fs m none) (va_up ss m none) tx (us + 1) te my mo mz mi iz ma (tc_f1 0 3) (tc_f2 0 none (nw - 1)) od ar lw oc sk sa sl nw (va_up re rd m) (rd + 1) co (va_up dq rd l) (va_up bo rd bv) (va_up lc rd (tc_tk 0))) [(0, .ref (mm 0)), (1, .int (xk_oI none)), (2, .int (nI pp)), (3, .int (nI 0)), (4, .int (nI l)), (5, .int (nI b)), (6, .int (nI m))] 254 []
                          cases g1u
                  ·
                    show xk_Go K D 9 0 0 (tc_wM mm cmm th (va_up iu m true) (va_up ki m 0) (vp_updL mu m 0) (va_up fs m none) (va_up ss m none) tx (us + 1) te my mo mz mi iz ma f (some q) od ar lw oc sk sa sl nw (va_up re rd m) (rd + 1) co (va_up dq rd l) (va_up bo rd bv) (va_up lc rd (tc_tk 0))) [(0, .ref (mm 0)), (1, .int (xk_oI none)), (2, .int (nI pp)), (3, .int (nI 0)), (4, .int (nI l)), (5, .int (nI b)), (6, .int (nI m))] 211 [.long xv, .int (nI m), .ref (mm 3)]
                    refine x_lst C 3 2 (tc_wM mm cmm th (va_up iu m true) (va_up ki m 0) (vp_updL (vp_updL mu m 0) m xv) (va_up fs m none) (va_up ss m none) tx (us + 1) te my mo mz mi iz ma f (some q) od ar lw oc sk sa sl nw (va_up re rd m) (rd + 1) co (va_up dq rd l) (va_up bo rd bv) (va_up lc rd (tc_tk 0))) rfl rfl rfl rfl (by omega) (by decide) dM_readNode_211 ?_
                    refine x_aload_n C dM_readNode_212 rfl 0 rfl ?_
                    refine x_aload_n C dM_readNode_213 rfl 0 rfl ?_
                    refine x_get C fgM_165 0 rfl rfl dM_readNode_214 ?_
                    refine x_if_gtN (tgt := 246) C (by omega) dM_readNode_217 (by decide) (fun h217 => ?_) (fun h217 => ?_)
                    ·
                      refine x_iconst (v := nI 1) C dM_readNode_246 (by decide) ?_
                      refine x_goto C 251 dM_readNode_247 (by decide) ?_
                      refine x_callV C (c_M_must D mm cmm th (va_up iu m true) (va_up ki m 0) (vp_updL (vp_updL mu m 0) m xv) (va_up fs m none) (va_up ss m none) tx (us + 1) te my mo mz mi iz ma f (some q) od ar lw oc sk sa sl nw (va_up re rd m) (rd + 1) co (va_up dq rd l) (va_up bo rd bv) (va_up lc rd (tc_tk 0)) true (by first | decide | omega) (fun z => by cases z)) kbM_182 kcM_182 [0, 1, 2, 3, 4, 5, 6, 7, 8, 9, 10, 11, 12, 13, 14, 15, 16, 17, 18, 19, 20] [] [0, 1, 2, 3, 4, 5, 6, 7, 8, 9, 10, 11, 12, 13, 14, 15, 16, 17, 18, 19] ([]) rfl rfl (by decide) (by decide) (by decide) rfl 0 rfl rfl ⟨Nat.le_of_ble_eq_true rfl, Nat.le_of_ble_eq_true rfl⟩ ⟨Nat.le_of_ble_eq_true rfl, Nat.le_of_ble_eq_true rfl⟩ [] rfl rfl (Nat.le_of_ble_eq_true rfl) dM_readNode_251 (fun rv ru hw => ?_)
                      rcases hw with ⟨rfl, rfl, g1u⟩ | ⟨rfl, rfl, g1u⟩
                      ·
                        show xk_Go K D 9 0 0 (tc_wM mm cmm th (va_up iu m true) (va_up ki m 0) (vp_updL (vp_updL mu m 0) m xv) (va_up fs m none) (va_up ss m none) tx (us + 1) te my mo mz mi iz ma f (some q) od ar lw oc sk sa sl nw (va_up re rd m) (rd + 1) co (va_up dq rd l) (va_up bo rd bv) (va_up lc rd (tc_tk 0))) [(0, .ref (mm 0)), (1, .int (xk_oI none)), (2, .int (nI pp)), (3, .int (nI 0)), (4, .int (nI l)), (5, .int (nI b)), (6, .int (nI m))] 254 []
                        refine x_aload_n C dM_readNode_254 rfl 0 rfl ?_
                        refine x_get C fgM_165 0 rfl rfl dM_readNode_255 ?_
                        refine x_if_neN (tgt := 445) C (by omega) dM_readNode_258 (by decide) (fun h258 => ?_) (fun h258 => ?_)
                        ·
                          exact x_sub [0, 1, 6] rfl (jn445 (vp_updL (vp_updL mu m 0) m xv) tx nw f (some q) (Or.inr ⟨by first | decide | omega, by first | decide | omega, _, rfl, tc_rE_l (tc_rV_0.trans g1r)⟩) (fun i hi => (pk_uLn hi).trans (pk_uLn hi)) (fun i hi t ht => rfl) (⟨by omega, by omega⟩))
                        ·
                          exact absurd h258 (by omega)
                      ·
                        show xk_Go K D 9 0 0 (tc_wM mm cmm th (va_up iu m true) (va_up ki m 0) (vp_updL (vp_updL mu m 0) m xv) (va_up fs m none) (va_up ss m none) tx (us + 1) te my mo mz mi iz ma (tc_f1 f 3) (tc_f2 f (some q) (nw - 1)) od ar lw oc sk sa sl nw (va_up re rd m) (rd + 1) co (va_up dq rd l) (va_up bo rd bv) (va_up lc rd (tc_tk 0))) [(0, .ref (mm 0)), (1, .int (xk_oI none)), (2, .int (nI pp)), (3, .int (nI 0)), (4, .int (nI l)), (5, .int (nI b)), (6, .int (nI m))] 254 []
                        cases g1u
                    ·
                      exact absurd h217 (by omega)
                ·
                  refine x_if_ne (tgt := 286) C dM_readNode_198 (by decide) (fun _ => ?_) (fun h => absurd h (by decide))
                  refine x_iload_n C dM_readNode_286 rfl 3 rfl ?_
                  refine x_bipush (v := nI 6) C dM_readNode_287 (by decide) ?_
                  refine x_icmp_eq (tgt := 298) C dM_readNode_289 (by decide) (fun h => absurd h (by decide)) (fun _ => ?_)
                  refine x_iload_n C dM_readNode_292 rfl 3 rfl ?_
                  refine x_bipush (v := nI 9) C dM_readNode_293 (by decide) ?_
                  refine x_icmp_ne (tgt := 355) C dM_readNode_295 (by decide) (fun _ => ?_) (fun h => absurd h (by decide))
                  refine x_iload_n C dM_readNode_355 rfl 3 rfl ?_
                  refine x_bipush (v := nI 7) C dM_readNode_356 (by decide) ?_
                  refine x_icmp_ne (tgt := 375) C dM_readNode_358 (by decide) (fun _ => ?_) (fun h => absurd h (by decide))
                  refine x_iload_n C dM_readNode_375 rfl 3 rfl ?_
                  refine x_bipush (v := nI 8) C dM_readNode_376 (by decide) ?_
                  refine x_icmp_ne (tgt := 445) C dM_readNode_378 (by decide) (fun _ => ?_) (fun h => absurd h (by decide))
                  exact x_sub [0, 1, 6] rfl (jn445 (vp_updL mu m 0) tx (pp + 1) 0 none (Or.inl ⟨rfl, rfl, _, tc_rE_o (x := 0) (q := pp + 1) rfl (tc_fit_t rfl) (fun z => absurd z.1 (by decide)) (by decide), tc_mn_n8 (va_up_self _ _ _) pk_uLs (by decide)⟩) (fun i hi => pk_uLn hi) (fun i hi t ht => rfl) (⟨by omega, by omega⟩))
                ·
                  refine x_if_ne (tgt := 286) C dM_readNode_198 (by decide) (fun _ => ?_) (fun h => absurd h (by decide))
                  refine x_iload_n C dM_readNode_286 rfl 3 rfl ?_
                  refine x_bipush (v := nI 6) C dM_readNode_287 (by decide) ?_
                  refine x_icmp_eq (tgt := 298) C dM_readNode_289 (by decide) (fun h => absurd h (by decide)) (fun _ => ?_)
                  refine x_iload_n C dM_readNode_292 rfl 3 rfl ?_
                  refine x_bipush (v := nI 9) C dM_readNode_293 (by decide) ?_
                  refine x_icmp_ne (tgt := 355) C dM_readNode_295 (by decide) (fun _ => ?_) (fun h => absurd h (by decide))
                  refine x_iload_n C dM_readNode_355 rfl 3 rfl ?_
                  refine x_bipush (v := nI 7) C dM_readNode_356 (by decide) ?_
                  refine x_icmp_ne (tgt := 375) C dM_readNode_358 (by decide) (fun _ => ?_) (fun h => absurd h (by decide))
                  refine x_iload_n C dM_readNode_375 rfl 3 rfl ?_
                  refine x_bipush (v := nI 8) C dM_readNode_376 (by decide) ?_
                  refine x_icmp_ne (tgt := 445) C dM_readNode_378 (by decide) (fun _ => ?_) (fun h => absurd h (by decide))
                  exact x_sub [0, 1, 6] rfl (jn445 (vp_updL mu m 0) tx (pp + 1) 0 none (Or.inl ⟨rfl, rfl, _, tc_rE_o (x := 0) (q := pp + 1) rfl (tc_fit_t rfl) (fun z => absurd z.1 (by decide)) (by decide), tc_mn_n8 (va_up_self _ _ _) pk_uLs (by decide)⟩) (fun i hi => pk_uLn hi) (fun i hi t ht => rfl) (⟨by omega, by omega⟩))
                ·
                  refine x_if_ne (tgt := 286) C dM_readNode_198 (by decide) (fun _ => ?_) (fun h => absurd h (by decide))
                  refine x_iload_n C dM_readNode_286 rfl 3 rfl ?_
                  refine x_bipush (v := nI 6) C dM_readNode_287 (by decide) ?_
                  refine x_icmp_eq (tgt := 298) C dM_readNode_289 (by decide) (fun h => absurd h (by decide)) (fun _ => ?_)
                  refine x_iload_n C dM_readNode_292 rfl 3 rfl ?_
                  refine x_bipush (v := nI 9) C dM_readNode_293 (by decide) ?_
                  refine x_icmp_ne (tgt := 355) C dM_readNode_295 (by decide) (fun _ => ?_) (fun h => absurd h (by decide))
                  refine x_iload_n C dM_readNode_355 rfl 3 rfl ?_
                  refine x_bipush (v := nI 7) C dM_readNode_356 (by decide) ?_
                  refine x_icmp_ne (tgt := 375) C dM_readNode_358 (by decide) (fun _ => ?_) (fun h => absurd h (by decide))
                  refine x_iload_n C dM_readNode_375 rfl 3 rfl ?_
                  refine x_bipush (v := nI 8) C dM_readNode_376 (by decide) ?_
                  refine x_icmp_ne (tgt := 445) C dM_readNode_378 (by decide) (fun _ => ?_) (fun h => absurd h (by decide))
                  exact x_sub [0, 1, 6] rfl (jn445 (vp_updL mu m 0) tx (pp + 1) 0 none (Or.inl ⟨rfl, rfl, _, tc_rE_o (x := 0) (q := pp + 1) rfl (tc_fit_t rfl) (fun z => absurd z.1 (by decide)) (by decide), tc_mn_n8 (va_up_self _ _ _) pk_uLs (by decide)⟩) (fun i hi => pk_uLn hi) (fun i hi t ht => rfl) (⟨by omega, by omega⟩))
                ·
                  refine x_if_ne (tgt := 286) C dM_readNode_198 (by decide) (fun _ => ?_) (fun h => absurd h (by decide))
                  refine x_iload_n C dM_readNode_286 rfl 3 rfl ?_
                  refine x_bipush (v := nI 6) C dM_readNode_287 (by decide) ?_
                  refine x_icmp_eq (tgt := 298) C dM_readNode_289 (by decide) (fun h => absurd h (by decide)) (fun _ => ?_)
                  refine x_iload_n C dM_readNode_292 rfl 3 rfl ?_
                  refine x_bipush (v := nI 9) C dM_readNode_293 (by decide) ?_
                  refine x_icmp_ne (tgt := 355) C dM_readNode_295 (by decide) (fun _ => ?_) (fun h => absurd h (by decide))
                  refine x_iload_n C dM_readNode_355 rfl 3 rfl ?_
                  refine x_bipush (v := nI 7) C dM_readNode_356 (by decide) ?_
                  refine x_icmp_ne (tgt := 375) C dM_readNode_358 (by decide) (fun _ => ?_) (fun h => absurd h (by decide))
                  refine x_iload_n C dM_readNode_375 rfl 3 rfl ?_
                  refine x_bipush (v := nI 8) C dM_readNode_376 (by decide) ?_
                  refine x_icmp_ne (tgt := 445) C dM_readNode_378 (by decide) (fun _ => ?_) (fun h => absurd h (by decide))
                  exact x_sub [0, 1, 6] rfl (jn445 (vp_updL mu m 0) tx (pp + 1) 0 none (Or.inl ⟨rfl, rfl, _, tc_rE_o (x := 0) (q := pp + 1) rfl (tc_fit_t rfl) (fun z => absurd z.1 (by decide)) (by decide), tc_mn_n8 (va_up_self _ _ _) pk_uLs (by decide)⟩) (fun i hi => pk_uLn hi) (fun i hi t ht => rfl) (⟨by omega, by omega⟩))
                ·
                  refine x_if_ne (tgt := 286) C dM_readNode_198 (by decide) (fun _ => ?_) (fun h => absurd h (by decide))
                  refine x_iload_n C dM_readNode_286 rfl 3 rfl ?_
                  refine x_bipush (v := nI 6) C dM_readNode_287 (by decide) ?_
                  refine x_icmp_eq (tgt := 298) C dM_readNode_289 (by decide) (fun h => absurd h (by decide)) (fun _ => ?_)
                  refine x_iload_n C dM_readNode_292 rfl 3 rfl ?_
                  refine x_bipush (v := nI 9) C dM_readNode_293 (by decide) ?_
                  refine x_icmp_ne (tgt := 355) C dM_readNode_295 (by decide) (fun _ => ?_) (fun h => absurd h (by decide))
                  refine x_iload_n C dM_readNode_355 rfl 3 rfl ?_
                  refine x_bipush (v := nI 7) C dM_readNode_356 (by decide) ?_
                  refine x_icmp_ne (tgt := 375) C dM_readNode_358 (by decide) (fun _ => ?_) (fun h => absurd h (by decide))
                  refine x_iload_n C dM_readNode_375 rfl 3 rfl ?_
                  refine x_bipush (v := nI 8) C dM_readNode_376 (by decide) ?_
                  refine x_icmp_ne (tgt := 445) C dM_readNode_378 (by decide) (fun _ => ?_) (fun h => absurd h (by decide))
                  exact x_sub [0, 1, 6] rfl (jn445 (vp_updL mu m 0) tx (pp + 1) 0 none (Or.inl ⟨rfl, rfl, _, tc_rE_o (x := 0) (q := pp + 1) rfl (tc_fit_t rfl) (fun z => absurd z.1 (by decide)) (by decide), tc_mn_n8 (va_up_self _ _ _) pk_uLs (by decide)⟩) (fun i hi => pk_uLn hi) (fun i hi t ht => rfl) (⟨by omega, by omega⟩))
                ·
                  refine x_if_ne (tgt := 286) C dM_readNode_198 (by decide) (fun _ => ?_) (fun h => absurd h (by decide))
                  refine x_iload_n C dM_readNode_286 rfl 3 rfl ?_
                  refine x_bipush (v := nI 6) C dM_readNode_287 (by decide) ?_
                  refine x_icmp_eq (tgt := 298) C dM_readNode_289 (by decide) (fun _ => ?_) (fun h => absurd (by decide) h)
                  refine x_aload_n C dM_readNode_298 rfl 0 rfl ?_
                  refine x_get C fgM_17 0 rfl rfl dM_readNode_299 ?_
                  refine x_iload C dM_readNode_302 6 rfl ?_
                  refine x_aload_n C dM_readNode_304 rfl 0 rfl ?_
                  refine x_callV C (c_M_next D mm cmm th (va_up iu m true) (va_up ki m 6) (vp_updL mu m 0) (va_up fs m none) (va_up ss m none) tx (us + 1) te my mo mz mi iz ma 0 none od ar lw oc sk sa sl (pp + 1) (va_up re rd m) (rd + 1) co (va_up dq rd l) (va_up bo rd bv) (va_up lc rd (tc_tk 6)) (by omega) y2 (by decide)) kbM_175 kcM_175 [0, 1, 2, 3, 4, 5, 6, 7, 8, 9, 10, 11, 12, 13, 14, 15, 16, 17, 18, 19, 20] [] [0, 1, 2, 3, 4, 5, 6, 7, 8, 9, 10, 11, 12, 13, 14, 15, 16, 17, 18, 19] ([]) rfl rfl (by decide) (by decide) (by decide) rfl 0 rfl rfl ⟨Nat.le_of_ble_eq_true rfl, Nat.le_of_ble_eq_true rfl⟩ ⟨Nat.le_of_ble_eq_true rfl, Nat.le_of_ble_eq_true rfl⟩ [.int (nI m), .ref (mm 3)] rfl rfl (Nat.le_of_ble_eq_true rfl) dM_readNode_305 (fun rv ru hw => ?_)
                  rcases hw with ⟨rfl, rfl, g1n⟩ | ⟨rfl, rfl, g1n, g2n⟩ | ⟨rfl, rfl, g1n, g2n⟩
                  ·
                    show xk_Go K D 9 0 0 (tc_wM mm cmm th (va_up iu m true) (va_up ki m 6) (vp_updL mu m 0) (va_up fs m none) (va_up ss m none) tx (us + 1) te my mo mz mi iz ma 0 none od ar lw oc sk sa sl (pp + 1) (va_up re rd m) (rd + 1) co (va_up dq rd l) (va_up bo rd bv) (va_up lc rd (tc_tk 6))) [(0, .ref (mm 0)), (1, .int (xk_oI none)), (2, .int (nI pp)), (3, .int (nI 6)), (4, .int (nI l)), (5, .int (nI b)), (6, .int (nI m))] 308 [.int (nI 0), .int (nI m), .ref (mm 3)]
                    exact absurd g1n (by decide)
                  ·
                    show xk_Go K D 9 0 0 (tc_wM mm cmm th (va_up iu m true) (va_up ki m 6) (vp_updL mu m 0) (va_up fs m none) (va_up ss m none) tx (us + 1) te my mo mz mi iz ma 1 (some iz) od ar lw oc sk sa sl (pp + 1) (va_up re rd m) (rd + 1) co (va_up dq rd l) (va_up bo rd bv) (va_up lc rd (tc_tk 6))) [(0, .ref (mm 0)), (1, .int (xk_oI none)), (2, .int (nI pp)), (3, .int (nI 6)), (4, .int (nI l)), (5, .int (nI b)), (6, .int (nI m))] 308 [.int (nI 0), .int (nI m), .ref (mm 3)]
                    refine x_i2l (v := 0) C dM_readNode_308 (by decide) ?_
                    refine x_lst C 3 2 (tc_wM mm cmm th (va_up iu m true) (va_up ki m 6) (vp_updL (vp_updL mu m 0) m 0) (va_up fs m none) (va_up ss m none) tx (us + 1) te my mo mz mi iz ma 1 (some iz) od ar lw oc sk sa sl (pp + 1) (va_up re rd m) (rd + 1) co (va_up dq rd l) (va_up bo rd bv) (va_up lc rd (tc_tk 6))) rfl rfl rfl rfl (by omega) (by decide) dM_readNode_309 ?_
                    refine x_aload_n C dM_readNode_310 rfl 0 rfl ?_
                    refine x_aload_n C dM_readNode_311 rfl 0 rfl ?_
                    refine x_get C fgM_165 0 rfl rfl dM_readNode_312 ?_
                    refine x_if_gt (tgt := 344) C dM_readNode_315 (by decide) (fun _ => ?_) (fun h => absurd (by decide) h)
                    refine x_iconst (v := nI 1) C dM_readNode_344 (by decide) ?_
                    refine x_goto C 349 dM_readNode_345 (by decide) ?_
                    refine x_callV C (c_M_must D mm cmm th (va_up iu m true) (va_up ki m 6) (vp_updL (vp_updL mu m 0) m 0) (va_up fs m none) (va_up ss m none) tx (us + 1) te my mo mz mi iz ma 1 (some iz) od ar lw oc sk sa sl (pp + 1) (va_up re rd m) (rd + 1) co (va_up dq rd l) (va_up bo rd bv) (va_up lc rd (tc_tk 6)) true (by first | decide | omega) (fun z => by cases z)) kbM_182 kcM_182 [0, 1, 2, 3, 4, 5, 6, 7, 8, 9, 10, 11, 12, 13, 14, 15, 16, 17, 18, 19, 20] [] [0, 1, 2, 3, 4, 5, 6, 7, 8, 9, 10, 11, 12, 13, 14, 15, 16, 17, 18, 19] ([]) rfl rfl (by decide) (by decide) (by decide) rfl 0 rfl rfl ⟨Nat.le_of_ble_eq_true rfl, Nat.le_of_ble_eq_true rfl⟩ ⟨Nat.le_of_ble_eq_true rfl, Nat.le_of_ble_eq_true rfl⟩ [] rfl rfl (Nat.le_of_ble_eq_true rfl) dM_readNode_349 (fun rv ru hw => ?_)
                    rcases hw with ⟨rfl, rfl, g1u⟩ | ⟨rfl, rfl, g1u⟩
                    ·
                      show xk_Go K D 9 0 0 (tc_wM mm cmm th (va_up iu m true) (va_up ki m 6) (vp_updL (vp_updL mu m 0) m 0) (va_up fs m none) (va_up ss m none) tx (us + 1) te my mo mz mi iz ma 1 (some iz) od ar lw oc sk sa sl (pp + 1) (va_up re rd m) (rd + 1) co (va_up dq rd l) (va_up bo rd bv) (va_up lc rd (tc_tk 6))) [(0, .ref (mm 0)), (1, .int (xk_oI none)), (2, .int (nI pp)), (3, .int (nI 6)), (4, .int (nI l)), (5, .int (nI b)), (6, .int (nI m))] 352 []
                      refine x_goto C 445 dM_readNode_352 (by decide) ?_
                      exact x_sub [0, 1, 6] rfl (jn445 (vp_updL (vp_updL mu m 0) m 0) tx (pp + 1) 1 (some iz) (Or.inr ⟨by first | decide | omega, by first | decide | omega, _, rfl, tc_rE_l (tc_rV_e (by decide) g2n)⟩) (fun i hi => (pk_uLn hi).trans (pk_uLn hi)) (fun i hi t ht => rfl) (⟨by omega, by omega⟩))
                    ·
                      show xk_Go K D 9 0 0 (tc_wM mm cmm th (va_up iu m true) (va_up ki m 6) (vp_updL (vp_updL mu m 0) m 0) (va_up fs m none) (va_up ss m none) tx (us + 1) te my mo mz mi iz ma (tc_f1 1 3) (tc_f2 1 (some iz) ((pp + 1) - 1)) od ar lw oc sk sa sl (pp + 1) (va_up re rd m) (rd + 1) co (va_up dq rd l) (va_up bo rd bv) (va_up lc rd (tc_tk 6))) [(0, .ref (mm 0)), (1, .int (xk_oI none)), (2, .int (nI pp)), (3, .int (nI 6)), (4, .int (nI l)), (5, .int (nI b)), (6, .int (nI m))] 352 []
                      cases g1u
                  ·
                    show xk_Go K D 9 0 0 (tc_wM mm cmm th (va_up iu m true) (va_up ki m 6) (vp_updL mu m 0) (va_up fs m none) (va_up ss m none) tx (us + 1) te my mo mz mi iz ma 0 none od ar lw oc sk sa sl ((pp + 1) + 1) (va_up re rd m) (rd + 1) co (va_up dq rd l) (va_up bo rd bv) (va_up lc rd (tc_tk 6))) [(0, .ref (mm 0)), (1, .int (xk_oI none)), (2, .int (nI pp)), (3, .int (nI 6)), (4, .int (nI l)), (5, .int (nI b)), (6, .int (nI m))] 308 [.int (nI (mi (pp + 1) % 256)), .int (nI m), .ref (mm 3)]
                    refine x_i2l (v := lN (mi (pp + 1) % 256)) C dM_readNode_308 (nI_l (by omega)) ?_
                    refine x_lst C 3 2 (tc_wM mm cmm th (va_up iu m true) (va_up ki m 6) (vp_updL (vp_updL mu m 0) m (lN (mi (pp + 1) % 256))) (va_up fs m none) (va_up ss m none) tx (us + 1) te my mo mz mi iz ma 0 none od ar lw oc sk sa sl ((pp + 1) + 1) (va_up re rd m) (rd + 1) co (va_up dq rd l) (va_up bo rd bv) (va_up lc rd (tc_tk 6))) rfl rfl rfl rfl (by omega) (by decide) dM_readNode_309 ?_
                    refine x_aload_n C dM_readNode_310 rfl 0 rfl ?_
                    refine x_aload_n C dM_readNode_311 rfl 0 rfl ?_
                    refine x_get C fgM_165 0 rfl rfl dM_readNode_312 ?_
                    refine x_if_gt (tgt := 344) C dM_readNode_315 (by decide) (fun h => absurd h (by decide)) (fun _ => ?_)
                    refine x_aload_n C dM_readNode_318 rfl 0 rfl ?_
                    refine x_get C fgM_17 0 rfl rfl dM_readNode_319 ?_
                    refine x_iload C dM_readNode_322 6 rfl ?_
                    refine x_lld C 3 2 rfl rfl (by omega) (by decide) dM_readNode_324 ?_
                    rw [pk_uLs]
                    refine x_iload_n C dM_readNode_325 rfl 3 rfl ?_
                    refine x_bipush (v := nI 6) C dM_readNode_326 (by decide) ?_
                    refine x_icmp_ne (tgt := 337) C dM_readNode_328 (by decide) (fun h => absurd (by decide) h) (fun _ => ?_)
                    refine x_ldc2 (v := 32) C dM_readNode_331 klM_193 ?_
                    refine x_goto C 340 dM_readNode_334 (by decide) ?_
                    refine x_lcmp C dM_readNode_340 ?_
                    refine x_if_geC (tgt := 348) C dM_readNode_341 (by decide) (fun h341 => ?_) (fun h341 => ?_)
                    ·
                      refine x_iconst (v := nI 0) C dM_readNode_348 (by decide) ?_
                      refine x_callV C (c_M_must D mm cmm th (va_up iu m true) (va_up ki m 6) (vp_updL (vp_updL mu m 0) m (lN (mi (pp + 1) % 256))) (va_up fs m none) (va_up ss m none) tx (us + 1) te my mo mz mi iz ma 0 none od ar lw oc sk sa sl ((pp + 1) + 1) (va_up re rd m) (rd + 1) co (va_up dq rd l) (va_up bo rd bv) (va_up lc rd (tc_tk 6)) false (by first | decide | omega) (fun _ => by omega)) kbM_182 kcM_182 [0, 1, 2, 3, 4, 5, 6, 7, 8, 9, 10, 11, 12, 13, 14, 15, 16, 17, 18, 19, 20] [] [0, 1, 2, 3, 4, 5, 6, 7, 8, 9, 10, 11, 12, 13, 14, 15, 16, 17, 18, 19] ([]) rfl rfl (by decide) (by decide) (by decide) rfl 0 rfl rfl ⟨Nat.le_of_ble_eq_true rfl, Nat.le_of_ble_eq_true rfl⟩ ⟨Nat.le_of_ble_eq_true rfl, Nat.le_of_ble_eq_true rfl⟩ [] rfl rfl (Nat.le_of_ble_eq_true rfl) dM_readNode_349 (fun rv ru hw => ?_)
                      rcases hw with ⟨rfl, rfl, g1u⟩ | ⟨rfl, rfl, g1u⟩
                      ·
                        show xk_Go K D 9 0 0 (tc_wM mm cmm th (va_up iu m true) (va_up ki m 6) (vp_updL (vp_updL mu m 0) m (lN (mi (pp + 1) % 256))) (va_up fs m none) (va_up ss m none) tx (us + 1) te my mo mz mi iz ma 0 none od ar lw oc sk sa sl ((pp + 1) + 1) (va_up re rd m) (rd + 1) co (va_up dq rd l) (va_up bo rd bv) (va_up lc rd (tc_tk 6))) [(0, .ref (mm 0)), (1, .int (xk_oI none)), (2, .int (nI pp)), (3, .int (nI 6)), (4, .int (nI l)), (5, .int (nI b)), (6, .int (nI m))] 352 []
                        cases g1u
                      ·
                        show xk_Go K D 9 0 0 (tc_wM mm cmm th (va_up iu m true) (va_up ki m 6) (vp_updL (vp_updL mu m 0) m (lN (mi (pp + 1) % 256))) (va_up fs m none) (va_up ss m none) tx (us + 1) te my mo mz mi iz ma (tc_f1 0 3) (tc_f2 0 none (((pp + 1) + 1) - 1)) od ar lw oc sk sa sl ((pp + 1) + 1) (va_up re rd m) (rd + 1) co (va_up dq rd l) (va_up bo rd bv) (va_up lc rd (tc_tk 6))) [(0, .ref (mm 0)), (1, .int (xk_oI none)), (2, .int (nI pp)), (3, .int (nI 6)), (4, .int (nI l)), (5, .int (nI b)), (6, .int (nI m))] 352 []
                        show xk_Go K D 9 0 0 (tc_wM mm cmm th (va_up iu m true) (va_up ki m 6) (vp_updL (vp_updL mu m 0) m (lN (mi (pp + 1) % 256))) (va_up fs m none) (va_up ss m none) tx (us + 1) te my mo mz mi iz ma 3 (some ((pp + 1) + 1 - 1)) od ar lw oc sk sa sl ((pp + 1) + 1) (va_up re rd m) (rd + 1) co (va_up dq rd l) (va_up bo rd bv) (va_up lc rd (tc_tk 6))) [(0, .ref (mm 0)), (1, .int (xk_oI none)), (2, .int (nI pp)), (3, .int (nI 6)), (4, .int (nI l)), (5, .int (nI b)), (6, .int (nI m))] 352 []
                        refine x_goto C 445 dM_readNode_352 (by decide) ?_
                        exact x_sub [0, 1, 6] rfl (jn445 (vp_updL (vp_updL mu m 0) m (lN (mi (pp + 1) % 256))) tx ((pp + 1) + 1) 3 (some ((pp + 1) + 1 - 1)) (Or.inr ⟨by first | decide | omega, by first | decide | omega, _, rfl, tc_rE_3 (tc_rV_b (by decide) g2n) (tc_fit_f (fun z => by have z1 := (tc_fit6 (c := mi (pp + 1) % 256) (by omega)).mp z; have z2 := (pk_lLE (a := 32) (b := mi (pp + 1) % 256) (by decide) (by omega)).mp h341; omega))⟩) (fun i hi => (pk_uLn hi).trans (pk_uLn hi)) (fun i hi t ht => rfl) (⟨by omega, by omega⟩))
                    ·
                      refine x_iconst (v := nI 1) C dM_readNode_344 (by decide) ?_
                      refine x_goto C 349 dM_readNode_345 (by decide) ?_
                      refine x_callV C (c_M_must D mm cmm th (va_up iu m true) (va_up ki m 6) (vp_updL (vp_updL mu m 0) m (lN (mi (pp + 1) % 256))) (va_up fs m none) (va_up ss m none) tx (us + 1) te my mo mz mi iz ma 0 none od ar lw oc sk sa sl ((pp + 1) + 1) (va_up re rd m) (rd + 1) co (va_up dq rd l) (va_up bo rd bv) (va_up lc rd (tc_tk 6)) true (by first | decide | omega) (fun z => by cases z)) kbM_182 kcM_182 [0, 1, 2, 3, 4, 5, 6, 7, 8, 9, 10, 11, 12, 13, 14, 15, 16, 17, 18, 19, 20] [] [0, 1, 2, 3, 4, 5, 6, 7, 8, 9, 10, 11, 12, 13, 14, 15, 16, 17, 18, 19] ([]) rfl rfl (by decide) (by decide) (by decide) rfl 0 rfl rfl ⟨Nat.le_of_ble_eq_true rfl, Nat.le_of_ble_eq_true rfl⟩ ⟨Nat.le_of_ble_eq_true rfl, Nat.le_of_ble_eq_true rfl⟩ [] rfl rfl (Nat.le_of_ble_eq_true rfl) dM_readNode_349 (fun rv ru hw => ?_)
                      rcases hw with ⟨rfl, rfl, g1u⟩ | ⟨rfl, rfl, g1u⟩
                      ·
                        show xk_Go K D 9 0 0 (tc_wM mm cmm th (va_up iu m true) (va_up ki m 6) (vp_updL (vp_updL mu m 0) m (lN (mi (pp + 1) % 256))) (va_up fs m none) (va_up ss m none) tx (us + 1) te my mo mz mi iz ma 0 none od ar lw oc sk sa sl ((pp + 1) + 1) (va_up re rd m) (rd + 1) co (va_up dq rd l) (va_up bo rd bv) (va_up lc rd (tc_tk 6))) [(0, .ref (mm 0)), (1, .int (xk_oI none)), (2, .int (nI pp)), (3, .int (nI 6)), (4, .int (nI l)), (5, .int (nI b)), (6, .int (nI m))] 352 []
                        refine x_goto C 445 dM_readNode_352 (by decide) ?_
                        exact x_sub [0, 1, 6] rfl (jn445 (vp_updL (vp_updL mu m 0) m (lN (mi (pp + 1) % 256))) tx ((pp + 1) + 1) 0 none (Or.inl ⟨rfl, rfl, _, tc_rE_o (tc_rV_b (by decide) g2n) (tc_fit_t ((tc_fit6 (c := mi (pp + 1) % 256) (by omega)).mpr (Nat.not_le.mp (fun z => h341 ((pk_lLE (a := 32) (b := mi (pp + 1) % 256) (by decide) (by omega)).mpr z))))) (fun z => absurd z.1 (by decide)) (by decide), tc_mn_n8 (va_up_self _ _ _) pk_uLs (by decide)⟩) (fun i hi => (pk_uLn hi).trans (pk_uLn hi)) (fun i hi t ht => rfl) (⟨by omega, by omega⟩))
                      ·
                        show xk_Go K D 9 0 0 (tc_wM mm cmm th (va_up iu m true) (va_up ki m 6) (vp_updL (vp_updL mu m 0) m (lN (mi (pp + 1) % 256))) (va_up fs m none) (va_up ss m none) tx (us + 1) te my mo mz mi iz ma (tc_f1 0 3) (tc_f2 0 none (((pp + 1) + 1) - 1)) od ar lw oc sk sa sl ((pp + 1) + 1) (va_up re rd m) (rd + 1) co (va_up dq rd l) (va_up bo rd bv) (va_up lc rd (tc_tk 6))) [(0, .ref (mm 0)), (1, .int (xk_oI none)), (2, .int (nI pp)), (3, .int (nI 6)), (4, .int (nI l)), (5, .int (nI b)), (6, .int (nI m))] 352 []
                        cases g1u
                ·
                  refine x_if_ne (tgt := 286) C dM_readNode_198 (by decide) (fun _ => ?_) (fun h => absurd h (by decide))
                  refine x_iload_n C dM_readNode_286 rfl 3 rfl ?_
                  refine x_bipush (v := nI 6) C dM_readNode_287 (by decide) ?_
                  refine x_icmp_eq (tgt := 298) C dM_readNode_289 (by decide) (fun h => absurd h (by decide)) (fun _ => ?_)
                  refine x_iload_n C dM_readNode_292 rfl 3 rfl ?_
                  refine x_bipush (v := nI 9) C dM_readNode_293 (by decide) ?_
                  refine x_icmp_ne (tgt := 355) C dM_readNode_295 (by decide) (fun _ => ?_) (fun h => absurd h (by decide))
                  refine x_iload_n C dM_readNode_355 rfl 3 rfl ?_
                  refine x_bipush (v := nI 7) C dM_readNode_356 (by decide) ?_
                  refine x_icmp_ne (tgt := 375) C dM_readNode_358 (by decide) (fun h => absurd (by decide) h) (fun _ => ?_)
                  refine x_aload_n C dM_readNode_361 rfl 0 rfl ?_
                  refine x_get C fgM_17 0 rfl rfl dM_readNode_362 ?_
                  refine x_iload C dM_readNode_365 6 rfl ?_
                  refine x_aload_n C dM_readNode_367 rfl 0 rfl ?_
                  refine x_callV C (c_M_readS D mm cmm th (va_up iu m true) (va_up ki m 7) (vp_updL mu m 0) (va_up fs m none) (va_up ss m none) tx (us + 1) te my mo mz mi iz ma od ar lw oc sk sa sl (pp + 1) (va_up re rd m) (rd + 1) co (va_up dq rd l) (va_up bo rd bv) (va_up lc rd (tc_tk 7)) (by omega) y2 (by omega)) kbM_197 kcM_197 [0, 1, 2, 3, 4, 5, 6, 7, 8, 9, 10, 11, 12, 13, 14, 15, 16, 17, 18, 19, 20] [] [0, 1, 2, 3, 4, 5, 6, 7, 8, 9, 10, 11, 12, 13, 14, 15, 16, 17, 18, 19] ([]) rfl rfl (by decide) (by decide) (by decide) rfl 0 rfl rfl ⟨Nat.le_of_ble_eq_true rfl, Nat.le_of_ble_eq_true rfl⟩ ⟨Nat.le_of_ble_eq_true rfl, Nat.le_of_ble_eq_true rfl⟩ [.int (nI m), .ref (mm 3)] rfl rfl (Nat.le_of_ble_eq_true rfl) dM_readNode_368 (fun rv ru hw => ?_)
                  rcases hw with ⟨xv, nw, rfl, rfl, g1r, g2r, g3r⟩ | ⟨xv, nw, f, q, rfl, rfl, g1r, g2r, g3r, g4r⟩
                  ·
                    show xk_Go K D 9 0 0 (tc_wM mm cmm th (va_up iu m true) (va_up ki m 7) (vp_updL mu m 0) (va_up fs m none) (va_up ss m none) tx (us + 1) te my mo mz mi iz ma 0 none od ar lw oc sk sa sl nw (va_up re rd m) (rd + 1) co (va_up dq rd l) (va_up bo rd bv) (va_up lc rd (tc_tk 7))) [(0, .ref (mm 0)), (1, .int (xk_oI none)), (2, .int (nI pp)), (3, .int (nI 7)), (4, .int (nI l)), (5, .int (nI b)), (6, .int (nI m))] 371 [.long xv, .int (nI m), .ref (mm 3)]
                    refine x_lst C 3 2 (tc_wM mm cmm th (va_up iu m true) (va_up ki m 7) (vp_updL (vp_updL mu m 0) m xv) (va_up fs m none) (va_up ss m none) tx (us + 1) te my mo mz mi iz ma 0 none od ar lw oc sk sa sl nw (va_up re rd m) (rd + 1) co (va_up dq rd l) (va_up bo rd bv) (va_up lc rd (tc_tk 7))) rfl rfl rfl rfl (by omega) (by decide) dM_readNode_371 ?_
                    refine x_goto C 445 dM_readNode_372 (by decide) ?_
                    exact x_sub [0, 1, 6] rfl (jn445 (vp_updL (vp_updL mu m 0) m xv) tx nw 0 none (Or.inl ⟨rfl, rfl, _, tc_rE_o (tc_rV_7.trans g1r) (tc_fit_t (tc_fa_7 rfl)) (fun z => absurd z.1 (by decide)) (by decide), tc_mn_n8 (va_up_self _ _ _) pk_uLs (by decide)⟩) (fun i hi => (pk_uLn hi).trans (pk_uLn hi)) (fun i hi t ht => rfl) (⟨by omega, by omega⟩))
                  ·
                    show xk_Go K D 9 0 0 (tc_wM mm cmm th (va_up iu m true) (va_up ki m 7) (vp_updL mu m 0) (va_up fs m none) (va_up ss m none) tx (us + 1) te my mo mz mi iz ma f (some q) od ar lw oc sk sa sl nw (va_up re rd m) (rd + 1) co (va_up dq rd l) (va_up bo rd bv) (va_up lc rd (tc_tk 7))) [(0, .ref (mm 0)), (1, .int (xk_oI none)), (2, .int (nI pp)), (3, .int (nI 7)), (4, .int (nI l)), (5, .int (nI b)), (6, .int (nI m))] 371 [.long xv, .int (nI m), .ref (mm 3)]
                    refine x_lst C 3 2 (tc_wM mm cmm th (va_up iu m true) (va_up ki m 7) (vp_updL (vp_updL mu m 0) m xv) (va_up fs m none) (va_up ss m none) tx (us + 1) te my mo mz mi iz ma f (some q) od ar lw oc sk sa sl nw (va_up re rd m) (rd + 1) co (va_up dq rd l) (va_up bo rd bv) (va_up lc rd (tc_tk 7))) rfl rfl rfl rfl (by omega) (by decide) dM_readNode_371 ?_
                    refine x_goto C 445 dM_readNode_372 (by decide) ?_
                    exact x_sub [0, 1, 6] rfl (jn445 (vp_updL (vp_updL mu m 0) m xv) tx nw f (some q) (Or.inr ⟨by first | decide | omega, by first | decide | omega, _, rfl, tc_rE_l (tc_rV_7.trans g1r)⟩) (fun i hi => (pk_uLn hi).trans (pk_uLn hi)) (fun i hi t ht => rfl) (⟨by omega, by omega⟩))
                ·
                  refine x_if_ne (tgt := 286) C dM_readNode_198 (by decide) (fun _ => ?_) (fun h => absurd h (by decide))
                  refine x_iload_n C dM_readNode_286 rfl 3 rfl ?_
                  refine x_bipush (v := nI 6) C dM_readNode_287 (by decide) ?_
                  refine x_icmp_eq (tgt := 298) C dM_readNode_289 (by decide) (fun h => absurd h (by decide)) (fun _ => ?_)
                  refine x_iload_n C dM_readNode_292 rfl 3 rfl ?_
                  refine x_bipush (v := nI 9) C dM_readNode_293 (by decide) ?_
                  refine x_icmp_ne (tgt := 355) C dM_readNode_295 (by decide) (fun _ => ?_) (fun h => absurd h (by decide))
                  refine x_iload_n C dM_readNode_355 rfl 3 rfl ?_
                  refine x_bipush (v := nI 7) C dM_readNode_356 (by decide) ?_
                  refine x_icmp_ne (tgt := 375) C dM_readNode_358 (by decide) (fun _ => ?_) (fun h => absurd h (by decide))
                  refine x_iload_n C dM_readNode_375 rfl 3 rfl ?_
                  refine x_bipush (v := nI 8) C dM_readNode_376 (by decide) ?_
                  refine x_icmp_ne (tgt := 445) C dM_readNode_378 (by decide) (fun h => absurd (by decide) h) (fun _ => ?_)
                  refine x_aload_n C dM_readNode_381 rfl 0 rfl ?_
                  refine x_callV C (c_M_next D mm cmm th (va_up iu m true) (va_up ki m 8) (vp_updL mu m 0) (va_up fs m none) (va_up ss m none) tx (us + 1) te my mo mz mi iz ma 0 none od ar lw oc sk sa sl (pp + 1) (va_up re rd m) (rd + 1) co (va_up dq rd l) (va_up bo rd bv) (va_up lc rd (tc_tk 8)) (by omega) y2 (by decide)) kbM_175 kcM_175 [0, 1, 2, 3, 4, 5, 6, 7, 8, 9, 10, 11, 12, 13, 14, 15, 16, 17, 18, 19, 20] [] [0, 1, 2, 3, 4, 5, 6, 7, 8, 9, 10, 11, 12, 13, 14, 15, 16, 17, 18, 19] ([]) rfl rfl (by decide) (by decide) (by decide) rfl 0 rfl rfl ⟨Nat.le_of_ble_eq_true rfl, Nat.le_of_ble_eq_true rfl⟩ ⟨Nat.le_of_ble_eq_true rfl, Nat.le_of_ble_eq_true rfl⟩ [] rfl rfl (Nat.le_of_ble_eq_true rfl) dM_readNode_382 (fun rv ru hw => ?_)
                  rcases hw with ⟨rfl, rfl, g1n⟩ | ⟨rfl, rfl, g1n, g2n⟩ | ⟨rfl, rfl, g1n, g2n⟩
                  ·
                    show xk_Go K D 9 0 0 (tc_wM mm cmm th (va_up iu m true) (va_up ki m 8) (vp_updL mu m 0) (va_up fs m none) (va_up ss m none) tx (us + 1) te my mo mz mi iz ma 0 none od ar lw oc sk sa sl (pp + 1) (va_up re rd m) (rd + 1) co (va_up dq rd l) (va_up bo rd bv) (va_up lc rd (tc_tk 8))) [(0, .ref (mm 0)), (1, .int (xk_oI none)), (2, .int (nI pp)), (3, .int (nI 8)), (4, .int (nI l)), (5, .int (nI b)), (6, .int (nI m))] 385 [.int (nI 0)]
                    exact absurd g1n (by decide)
                  ·
                    show xk_Go K D 9 0 0 (tc_wM mm cmm th (va_up iu m true) (va_up ki m 8) (vp_updL mu m 0) (va_up fs m none) (va_up ss m none) tx (us + 1) te my mo mz mi iz ma 1 (some iz) od ar lw oc sk sa sl (pp + 1) (va_up re rd m) (rd + 1) co (va_up dq rd l) (va_up bo rd bv) (va_up lc rd (tc_tk 8))) [(0, .ref (mm 0)), (1, .int (xk_oI none)), (2, .int (nI pp)), (3, .int (nI 8)), (4, .int (nI l)), (5, .int (nI b)), (6, .int (nI m))] 385 [.int (nI 0)]
                    refine x_istore C [(7, .int (nI 0)), (0, .ref (mm 0)), (1, .int (xk_oI none)), (2, .int (nI pp)), (3, .int (nI 8)), (4, .int (nI l)), (5, .int (nI b)), (6, .int (nI m))] dM_readNode_385 (by decide) rfl ?_
                    refine x_aload_n C dM_readNode_387 rfl 1 rfl ?_
                    refine x_aload_n C dM_readNode_388 rfl 1 rfl ?_
                    refine x_get C fgM_165 0 rfl rfl dM_readNode_389 ?_
                    refine x_if_gt (tgt := 402) C dM_readNode_392 (by decide) (fun _ => ?_) (fun h => absurd (by decide) h)
                    refine x_iconst (v := nI 1) C dM_readNode_402 (by decide) ?_
                    refine x_goto C 407 dM_readNode_403 (by decide) ?_
                    refine x_callV C (c_M_must D mm cmm th (va_up iu m true) (va_up ki m 8) (vp_updL mu m 0) (va_up fs m none) (va_up ss m none) tx (us + 1) te my mo mz mi iz ma 1 (some iz) od ar lw oc sk sa sl (pp + 1) (va_up re rd m) (rd + 1) co (va_up dq rd l) (va_up bo rd bv) (va_up lc rd (tc_tk 8)) true (by first | decide | omega) (fun z => by cases z)) kbM_182 kcM_182 [0, 1, 2, 3, 4, 5, 6, 7, 8, 9, 10, 11, 12, 13, 14, 15, 16, 17, 18, 19, 20] [] [0, 1, 2, 3, 4, 5, 6, 7, 8, 9, 10, 11, 12, 13, 14, 15, 16, 17, 18, 19] ([]) rfl rfl (by decide) (by decide) (by decide) rfl 0 rfl rfl ⟨Nat.le_of_ble_eq_true rfl, Nat.le_of_ble_eq_true rfl⟩ ⟨Nat.le_of_ble_eq_true rfl, Nat.le_of_ble_eq_true rfl⟩ [] rfl rfl (Nat.le_of_ble_eq_true rfl) dM_readNode_407 (fun rv ru hw => ?_)
                    rcases hw with ⟨rfl, rfl, g1u⟩ | ⟨rfl, rfl, g1u⟩
                    ·
                      show xk_Go K D 9 0 0 (tc_wM mm cmm th (va_up iu m true) (va_up ki m 8) (vp_updL mu m 0) (va_up fs m none) (va_up ss m none) tx (us + 1) te my mo mz mi iz ma 1 (some iz) od ar lw oc sk sa sl (pp + 1) (va_up re rd m) (rd + 1) co (va_up dq rd l) (va_up bo rd bv) (va_up lc rd (tc_tk 8))) [(7, .int (nI 0)), (0, .ref (mm 0)), (1, .int (xk_oI none)), (2, .int (nI pp)), (3, .int (nI 8)), (4, .int (nI l)), (5, .int (nI b)), (6, .int (nI m))] 410 []
                      refine x_iconst (v := nI 0) C dM_readNode_410 (by decide) ?_
                      refine x_istore C [(8, .int (nI 0)), (7, .int (nI 0)), (0, .ref (mm 0)), (1, .int (xk_oI none)), (2, .int (nI pp)), (3, .int (nI 8)), (4, .int (nI l)), (5, .int (nI b)), (6, .int (nI m))] dM_readNode_411 (by decide) rfl ?_
                      refine x_iload C dM_readNode_413 0 rfl ?_
                      refine x_iload C dM_readNode_415 1 rfl ?_
                      refine x_icmp_ge (tgt := 445) C dM_readNode_417 (by decide) (fun _ => ?_) (fun h => absurd (by decide) h)
                      exact x_sub [2, 3, 8] rfl (jn445 (vp_updL mu m 0) tx (pp + 1) 1 (some iz) (Or.inr ⟨by first | decide | omega, by first | decide | omega, _, rfl, tc_rE_l (tc_rV_e (by decide) g2n)⟩) (fun i hi => pk_uLn hi) (fun i hi t ht => rfl) (⟨by omega, by omega⟩))
                    ·
                      show xk_Go K D 9 0 0 (tc_wM mm cmm th (va_up iu m true) (va_up ki m 8) (vp_updL mu m 0) (va_up fs m none) (va_up ss m none) tx (us + 1) te my mo mz mi iz ma (tc_f1 1 3) (tc_f2 1 (some iz) ((pp + 1) - 1)) od ar lw oc sk sa sl (pp + 1) (va_up re rd m) (rd + 1) co (va_up dq rd l) (va_up bo rd bv) (va_up lc rd (tc_tk 8))) [(7, .int (nI 0)), (0, .ref (mm 0)), (1, .int (xk_oI none)), (2, .int (nI pp)), (3, .int (nI 8)), (4, .int (nI l)), (5, .int (nI b)), (6, .int (nI m))] 410 []
                      cases g1u
                  ·
                    show xk_Go K D 9 0 0 (tc_wM mm cmm th (va_up iu m true) (va_up ki m 8) (vp_updL mu m 0) (va_up fs m none) (va_up ss m none) tx (us + 1) te my mo mz mi iz ma 0 none od ar lw oc sk sa sl ((pp + 1) + 1) (va_up re rd m) (rd + 1) co (va_up dq rd l) (va_up bo rd bv) (va_up lc rd (tc_tk 8))) [(0, .ref (mm 0)), (1, .int (xk_oI none)), (2, .int (nI pp)), (3, .int (nI 8)), (4, .int (nI l)), (5, .int (nI b)), (6, .int (nI m))] 385 [.int (nI (mi (pp + 1) % 256))]
                    obtain ⟨c, hcc⟩ : ∃ c, c = mi (pp + 1) % 256 := ⟨_, rfl⟩
                    rw [← hcc]
                    have hc256 : c < 256 := by omega
                    have hrv : tc_rV (tc_B mi) iz 8 (pp + 1) = .inr (lN c, pp + 2) := by rw [hcc]; exact tc_rV_b (by decide) g2n
                    refine x_istore C [(7, .int (nI c)), (0, .ref (mm 0)), (1, .int (xk_oI none)), (2, .int (nI pp)), (3, .int (nI 8)), (4, .int (nI l)), (5, .int (nI b)), (6, .int (nI m))] dM_readNode_385 (by decide) rfl ?_
                    refine x_aload_n C dM_readNode_387 rfl 1 rfl ?_
                    refine x_aload_n C dM_readNode_388 rfl 1 rfl ?_
                    refine x_get C fgM_165 0 rfl rfl dM_readNode_389 ?_
                    refine x_if_gt (tgt := 402) C dM_readNode_392 (by decide) (fun h => absurd h (by decide)) (fun _ => ?_)
                    refine x_iload C dM_readNode_395 0 rfl ?_
                    refine x_bipush (v := nI 64) C dM_readNode_397 (by decide) ?_
                    refine x_icmp_gtN (tgt := 406) C (by omega) (by decide) dM_readNode_399 (by decide) (fun h399 => ?_) (fun h399 => ?_)
                    ·
                      refine x_iconst (v := nI 0) C dM_readNode_406 (by decide) ?_
                      refine x_callV C (c_M_must D mm cmm th (va_up iu m true) (va_up ki m 8) (vp_updL mu m 0) (va_up fs m none) (va_up ss m none) tx (us + 1) te my mo mz mi iz ma 0 none od ar lw oc sk sa sl ((pp + 1) + 1) (va_up re rd m) (rd + 1) co (va_up dq rd l) (va_up bo rd bv) (va_up lc rd (tc_tk 8)) false (by first | decide | omega) (fun _ => by omega)) kbM_182 kcM_182 [0, 1, 2, 3, 4, 5, 6, 7, 8, 9, 10, 11, 12, 13, 14, 15, 16, 17, 18, 19, 20] [] [0, 1, 2, 3, 4, 5, 6, 7, 8, 9, 10, 11, 12, 13, 14, 15, 16, 17, 18, 19] ([]) rfl rfl (by decide) (by decide) (by decide) rfl 0 rfl rfl ⟨Nat.le_of_ble_eq_true rfl, Nat.le_of_ble_eq_true rfl⟩ ⟨Nat.le_of_ble_eq_true rfl, Nat.le_of_ble_eq_true rfl⟩ [] rfl rfl (Nat.le_of_ble_eq_true rfl) dM_readNode_407 (fun rv ru hw => ?_)
                      rcases hw with ⟨rfl, rfl, g1u⟩ | ⟨rfl, rfl, g1u⟩
                      ·
                        show xk_Go K D 9 0 0 (tc_wM mm cmm th (va_up iu m true) (va_up ki m 8) (vp_updL mu m 0) (va_up fs m none) (va_up ss m none) tx (us + 1) te my mo mz mi iz ma 0 none od ar lw oc sk sa sl ((pp + 1) + 1) (va_up re rd m) (rd + 1) co (va_up dq rd l) (va_up bo rd bv) (va_up lc rd (tc_tk 8))) [(7, .int (nI c)), (0, .ref (mm 0)), (1, .int (xk_oI none)), (2, .int (nI pp)), (3, .int (nI 8)), (4, .int (nI l)), (5, .int (nI b)), (6, .int (nI m))] 410 []
                        cases g1u
                      ·
                        show xk_Go K D 9 0 0 (tc_wM mm cmm th (va_up iu m true) (va_up ki m 8) (vp_updL mu m 0) (va_up fs m none) (va_up ss m none) tx (us + 1) te my mo mz mi iz ma (tc_f1 0 3) (tc_f2 0 none (((pp + 1) + 1) - 1)) od ar lw oc sk sa sl ((pp + 1) + 1) (va_up re rd m) (rd + 1) co (va_up dq rd l) (va_up bo rd bv) (va_up lc rd (tc_tk 8))) [(7, .int (nI c)), (0, .ref (mm 0)), (1, .int (xk_oI none)), (2, .int (nI pp)), (3, .int (nI 8)), (4, .int (nI l)), (5, .int (nI b)), (6, .int (nI m))] 410 []
                        show xk_Go K D 9 0 0 (tc_wM mm cmm th (va_up iu m true) (va_up ki m 8) (vp_updL mu m 0) (va_up fs m none) (va_up ss m none) tx (us + 1) te my mo mz mi iz ma 3 (some ((pp + 1) + 1 - 1)) od ar lw oc sk sa sl ((pp + 1) + 1) (va_up re rd m) (rd + 1) co (va_up dq rd l) (va_up bo rd bv) (va_up lc rd (tc_tk 8))) [(7, .int (nI c)), (0, .ref (mm 0)), (1, .int (xk_oI none)), (2, .int (nI pp)), (3, .int (nI 8)), (4, .int (nI l)), (5, .int (nI b)), (6, .int (nI m))] 410 []
                        refine x_iconst (v := nI 0) C dM_readNode_410 (by decide) ?_
                        refine x_istore C [(8, .int (nI 0)), (7, .int (nI c)), (0, .ref (mm 0)), (1, .int (xk_oI none)), (2, .int (nI pp)), (3, .int (nI 8)), (4, .int (nI l)), (5, .int (nI b)), (6, .int (nI m))] dM_readNode_411 (by decide) rfl ?_
                        refine x_iload C dM_readNode_413 0 rfl ?_
                        refine x_iload C dM_readNode_415 1 rfl ?_
                        refine x_icmp_geN (tgt := 445) C (by decide) (by omega) dM_readNode_417 (by decide) (fun h417 => ?_) (fun h417 => ?_)
                        ·
                          exact x_sub [2, 3, 8] rfl (jn445 (vp_updL mu m 0) tx ((pp + 1) + 1) 3 (some ((pp + 1) + 1 - 1)) (Or.inr ⟨by first | decide | omega, by first | decide | omega, _, rfl, tc_rE_3 (tc_rV_b (by decide) g2n) (tc_fit_f (fun z => by have z1 := (tc_fit8' (c := mi (pp + 1) % 256) (by omega)).mp z; omega))⟩) (fun i hi => pk_uLn hi) (fun i hi t ht => rfl) (⟨by omega, by omega⟩))
                        ·
                          refine x_aload_n C dM_readNode_420 rfl 2 rfl ?_
                          refine x_get C fgM_165 0 rfl rfl dM_readNode_421 ?_
                          refine x_if_ne (tgt := 445) C dM_readNode_424 (by decide) (fun _ => ?_) (fun h => absurd h (by decide))
                          exact x_sub [2, 3, 8] rfl (jn445 (vp_updL mu m 0) tx ((pp + 1) + 1) 3 (some ((pp + 1) + 1 - 1)) (Or.inr ⟨by first | decide | omega, by first | decide | omega, _, rfl, tc_rE_3 (tc_rV_b (by decide) g2n) (tc_fit_f (fun z => by have z1 := (tc_fit8' (c := mi (pp + 1) % 256) (by omega)).mp z; omega))⟩) (fun i hi => pk_uLn hi) (fun i hi t ht => rfl) (⟨by omega, by omega⟩))
                    ·
                      refine x_iconst (v := nI 1) C dM_readNode_402 (by decide) ?_
                      refine x_goto C 407 dM_readNode_403 (by decide) ?_
                      refine x_callV C (c_M_must D mm cmm th (va_up iu m true) (va_up ki m 8) (vp_updL mu m 0) (va_up fs m none) (va_up ss m none) tx (us + 1) te my mo mz mi iz ma 0 none od ar lw oc sk sa sl ((pp + 1) + 1) (va_up re rd m) (rd + 1) co (va_up dq rd l) (va_up bo rd bv) (va_up lc rd (tc_tk 8)) true (by first | decide | omega) (fun z => by cases z)) kbM_182 kcM_182 [0, 1, 2, 3, 4, 5, 6, 7, 8, 9, 10, 11, 12, 13, 14, 15, 16, 17, 18, 19, 20] [] [0, 1, 2, 3, 4, 5, 6, 7, 8, 9, 10, 11, 12, 13, 14, 15, 16, 17, 18, 19] ([]) rfl rfl (by decide) (by decide) (by decide) rfl 0 rfl rfl ⟨Nat.le_of_ble_eq_true rfl, Nat.le_of_ble_eq_true rfl⟩ ⟨Nat.le_of_ble_eq_true rfl, Nat.le_of_ble_eq_true rfl⟩ [] rfl rfl (Nat.le_of_ble_eq_true rfl) dM_readNode_407 (fun rv ru hw => ?_)
                      rcases hw with ⟨rfl, rfl, g1u⟩ | ⟨rfl, rfl, g1u⟩
                      ·
                        show xk_Go K D 9 0 0 (tc_wM mm cmm th (va_up iu m true) (va_up ki m 8) (vp_updL mu m 0) (va_up fs m none) (va_up ss m none) tx (us + 1) te my mo mz mi iz ma 0 none od ar lw oc sk sa sl ((pp + 1) + 1) (va_up re rd m) (rd + 1) co (va_up dq rd l) (va_up bo rd bv) (va_up lc rd (tc_tk 8))) [(7, .int (nI c)), (0, .ref (mm 0)), (1, .int (xk_oI none)), (2, .int (nI pp)), (3, .int (nI 8)), (4, .int (nI l)), (5, .int (nI b)), (6, .int (nI m))] 410 []
                        refine x_iconst (v := nI 0) C dM_readNode_410 (by decide) ?_
                        refine x_istore C [(8, .int (nI 0)), (7, .int (nI c)), (0, .ref (mm 0)), (1, .int (xk_oI none)), (2, .int (nI pp)), (3, .int (nI 8)), (4, .int (nI l)), (5, .int (nI b)), (6, .int (nI m))] dM_readNode_411 (by decide) rfl ?_
                        have lp413 : ∀ (zc : Nat) (i : Nat) (mu1 : Nat → Int64) (tx1 : Nat → Nat), (c - i) < zc → (i ≤ c) → (mu1 m = lN i) → (∀ i, i ≠ m → mu1 i = mu i) → (∀ i, i ≠ m → ∀ t, t < 64 → tx1 (64 * i + t) % 256 = tx (64 * i + t) % 256) → (∀ t, t < i → tx1 (64 * m + t) % 256 = tc_B mi (pp + 2 + t)) → (pp + 2 + i ≤ iz) → xk_Go K D 9 0 0 (tc_wM mm cmm th (va_up iu m true) (va_up ki m 8) mu1 (va_up fs m none) (va_up ss m none) tx1 (us + 1) te my mo mz mi iz ma 0 none od ar lw oc sk sa sl (pp + 2 + i) (va_up re rd m) (rd + 1) co (va_up dq rd l) (va_up bo rd bv) (va_up lc rd (tc_tk 8))) [(0, .ref (mm 0)), (1, .int (xk_oI none)), (2, .int (nI pp)), (3, .int (nI 8)), (6, .int (nI m)), (7, .int (nI c)), (8, .int (nI i))] 413 [] := by
                          intro zc
                          induction zc with
                          | zero => intro i mu1 tx1 hm; exact absurd hm (Nat.not_lt_zero _)
                          | succ zc ih413 =>
                            intro i mu1 tx1 hm e1 e2 e3 e4 e5 e6
                            refine x_iload C dM_readNode_413 6 rfl ?_
                            refine x_iload C dM_readNode_415 5 rfl ?_
                            refine x_icmp_geN (tgt := 445) C (by omega) (by omega) dM_readNode_417 (by decide) (fun h417 => ?_) (fun h417 => ?_)
                            ·
                              obtain rfl : i = c := by omega
                              exact x_sub [0, 1, 4] rfl (jn445 mu1 tx1 (pp + 2 + i) 0 none (Or.inl ⟨rfl, rfl, _, tc_rE_8o hrv (tc_fit_t ((tc_fit8' (c := i) (by omega)).mpr h399)) rfl (show (lN i).toInt.toNat = i by rw [pk_lT (by omega), Int.toNat_natCast]) (by omega), tc_mn_8 (va_up_self _ _ _) e2 h399 e5⟩) e3 e4 (⟨by omega, by omega⟩))
                            ·
                              refine x_aload_n C dM_readNode_420 rfl 0 rfl ?_
                              refine x_get C fgM_165 0 rfl rfl dM_readNode_421 ?_
                              refine x_if_ne (tgt := 445) C dM_readNode_424 (by decide) (fun h => absurd (by decide) h) (fun _ => ?_)
                              refine x_aload_n C dM_readNode_427 rfl 0 rfl ?_
                              refine x_iload C dM_readNode_428 4 rfl ?_
                              refine x_aload_n C dM_readNode_430 rfl 0 rfl ?_
                              refine x_callV C (c_M_next D mm cmm th (va_up iu m true) (va_up ki m 8) mu1 (va_up fs m none) (va_up ss m none) tx1 (us + 1) te my mo mz mi iz ma 0 none od ar lw oc sk sa sl (pp + 2 + i) (va_up re rd m) (rd + 1) co (va_up dq rd l) (va_up bo rd bv) (va_up lc rd (tc_tk 8)) (by omega) y2 (by decide)) kbM_175 kcM_175 [0, 1, 2, 3, 4, 5, 6, 7, 8, 9, 10, 11, 12, 13, 14, 15, 16, 17, 18, 19, 20] [] [0, 1, 2, 3, 4, 5, 6, 7, 8, 9, 10, 11, 12, 13, 14, 15, 16, 17, 18, 19] ([]) rfl rfl (by decide) (by decide) (by decide) rfl 0 rfl rfl ⟨Nat.le_of_ble_eq_true rfl, Nat.le_of_ble_eq_true rfl⟩ ⟨Nat.le_of_ble_eq_true rfl, Nat.le_of_ble_eq_true rfl⟩ [.int (nI m), .ref (mm 0)] rfl rfl (Nat.le_of_ble_eq_true rfl) dM_readNode_431 (fun rv ru hw => ?_)
                              rcases hw with ⟨rfl, rfl, g1v⟩ | ⟨rfl, rfl, g1v, g2v⟩ | ⟨rfl, rfl, g1v, g2v⟩
                              ·
                                show xk_Go K D 9 0 0 (tc_wM mm cmm th (va_up iu m true) (va_up ki m 8) mu1 (va_up fs m none) (va_up ss m none) tx1 (us + 1) te my mo mz mi iz ma 0 none od ar lw oc sk sa sl (pp + 2 + i) (va_up re rd m) (rd + 1) co (va_up dq rd l) (va_up bo rd bv) (va_up lc rd (tc_tk 8))) [(0, .ref (mm 0)), (1, .int (xk_oI none)), (2, .int (nI pp)), (3, .int (nI 8)), (6, .int (nI m)), (7, .int (nI c)), (8, .int (nI i))] 434 [.int (nI 0), .int (nI m), .ref (mm 0)]
                                exact absurd g1v (by decide)
                              ·
                                show xk_Go K D 9 0 0 (tc_wM mm cmm th (va_up iu m true) (va_up ki m 8) mu1 (va_up fs m none) (va_up ss m none) tx1 (us + 1) te my mo mz mi iz ma 1 (some iz) od ar lw oc sk sa sl (pp + 2 + i) (va_up re rd m) (rd + 1) co (va_up dq rd l) (va_up bo rd bv) (va_up lc rd (tc_tk 8))) [(0, .ref (mm 0)), (1, .int (xk_oI none)), (2, .int (nI pp)), (3, .int (nI 8)), (6, .int (nI m)), (7, .int (nI c)), (8, .int (nI i))] 434 [.int (nI 0), .int (nI m), .ref (mm 0)]
                                refine x_i2l (v := 0) C dM_readNode_434 (by decide) ?_
                                refine x_iconst (v := nI 1) C dM_readNode_435 (by decide) ?_
                                refine x_callV C (c_M_append D mm cmm th (va_up iu m true) (va_up ki m 8) mu1 (va_up fs m none) (va_up ss m none) tx1 (us + 1) te my mo mz mi iz ma 1 (some iz) od ar lw oc sk sa sl (pp + 2 + i) (va_up re rd m) (rd + 1) co (va_up dq rd l) (va_up bo rd bv) (va_up lc rd (tc_tk 8)) m 0 1 i g1m (by decide) e2 (by omega)) kbM_119 kcM_119 [0, 1, 2, 3, 4, 5, 6, 7, 8, 9, 10, 11, 12, 13, 14, 15, 16, 17, 18, 19, 20] [] [0, 1, 2, 3, 4, 5, 6, 7, 8, 9, 10, 11, 12, 13, 14, 15, 16, 17, 18, 19] ([]) rfl rfl (by decide) (by decide) (by decide) rfl 0 rfl rfl ⟨Nat.le_of_ble_eq_true rfl, Nat.le_of_ble_eq_true rfl⟩ ⟨Nat.le_of_ble_eq_true rfl, Nat.le_of_ble_eq_true rfl⟩ [] rfl rfl (Nat.le_of_ble_eq_true rfl) dM_readNode_436 (fun rv ru hw => ?_)
                                obtain ⟨mu2, tx2, rfl, rfl, g1a, g2a, g3a⟩ := hw
                                show xk_Go K D 9 0 0 (tc_wM mm cmm th (va_up iu m true) (va_up ki m 8) mu2 (va_up fs m none) (va_up ss m none) tx2 (us + 1) te my mo mz mi iz ma 1 (some iz) od ar lw oc sk sa sl (pp + 2 + i) (va_up re rd m) (rd + 1) co (va_up dq rd l) (va_up bo rd bv) (va_up lc rd (tc_tk 8))) [(0, .ref (mm 0)), (1, .int (xk_oI none)), (2, .int (nI pp)), (3, .int (nI 8)), (6, .int (nI m)), (7, .int (nI c)), (8, .int (nI i))] 439 []
                                refine x_iinc (q := 6) C (nI (i + 1)) [(8, .int (nI (i + 1))), (0, .ref (mm 0)), (1, .int (xk_oI none)), (2, .int (nI pp)), (3, .int (nI 8)), (6, .int (nI m)), (7, .int (nI c))] dM_readNode_439 rfl (nI_add i 1) (by decide) rfl ?_
                                refine x_goto C 413 dM_readNode_442 (by decide) ?_
                                refine x_iload C dM_readNode_413 0 rfl ?_
                                refine x_iload C dM_readNode_415 6 rfl ?_
                                refine x_icmp_geN (tgt := 445) C (by omega) (by omega) dM_readNode_417 (by decide) (fun h417 => ?_) (fun h417 => ?_)
                                ·
                                  exact x_sub [1, 2, 5] rfl (jn445 mu2 tx2 (pp + 2 + i) 1 (some iz) (Or.inr ⟨by first | decide | omega, by first | decide | omega, _, rfl, tc_rE_8f hrv (tc_fit_t ((tc_fit8' (c := c) (by omega)).mpr h399)) rfl (show (lN c).toInt.toNat = c by rw [pk_lT (by omega), Int.toNat_natCast]) (by omega)⟩) (fun i hi => (g2a i hi).trans (e3 i hi)) (fun i hi t ht => ((tc_ap_keep (by omega) g3a).1 i hi t ht).trans (e4 i hi t ht)) (⟨by omega, by omega⟩))
                                ·
                                  refine x_aload_n C dM_readNode_420 rfl 1 rfl ?_
                                  refine x_get C fgM_165 0 rfl rfl dM_readNode_421 ?_
                                  refine x_if_ne (tgt := 445) C dM_readNode_424 (by decide) (fun _ => ?_) (fun h => absurd h (by decide))
                                  exact x_sub [1, 2, 5] rfl (jn445 mu2 tx2 (pp + 2 + i) 1 (some iz) (Or.inr ⟨by first | decide | omega, by first | decide | omega, _, rfl, tc_rE_8f hrv (tc_fit_t ((tc_fit8' (c := c) (by omega)).mpr h399)) rfl (show (lN c).toInt.toNat = c by rw [pk_lT (by omega), Int.toNat_natCast]) (by omega)⟩) (fun i hi => (g2a i hi).trans (e3 i hi)) (fun i hi t ht => ((tc_ap_keep (by omega) g3a).1 i hi t ht).trans (e4 i hi t ht)) (⟨by omega, by omega⟩))
                              ·
                                show xk_Go K D 9 0 0 (tc_wM mm cmm th (va_up iu m true) (va_up ki m 8) mu1 (va_up fs m none) (va_up ss m none) tx1 (us + 1) te my mo mz mi iz ma 0 none od ar lw oc sk sa sl ((pp + 2 + i) + 1) (va_up re rd m) (rd + 1) co (va_up dq rd l) (va_up bo rd bv) (va_up lc rd (tc_tk 8))) [(0, .ref (mm 0)), (1, .int (xk_oI none)), (2, .int (nI pp)), (3, .int (nI 8)), (6, .int (nI m)), (7, .int (nI c)), (8, .int (nI i))] 434 [.int (nI (mi (pp + 2 + i) % 256)), .int (nI m), .ref (mm 0)]
                                refine x_i2l (v := lN (mi (pp + 2 + i) % 256)) C dM_readNode_434 (nI_l (by omega)) ?_
                                refine x_iconst (v := nI 1) C dM_readNode_435 (by decide) ?_
                                refine x_callV C (c_M_append D mm cmm th (va_up iu m true) (va_up ki m 8) mu1 (va_up fs m none) (va_up ss m none) tx1 (us + 1) te my mo mz mi iz ma 0 none od ar lw oc sk sa sl ((pp + 2 + i) + 1) (va_up re rd m) (rd + 1) co (va_up dq rd l) (va_up bo rd bv) (va_up lc rd (tc_tk 8)) m (lN (mi (pp + 2 + i) % 256)) 1 i g1m (by decide) e2 (by omega)) kbM_119 kcM_119 [0, 1, 2, 3, 4, 5, 6, 7, 8, 9, 10, 11, 12, 13, 14, 15, 16, 17, 18, 19, 20] [] [0, 1, 2, 3, 4, 5, 6, 7, 8, 9, 10, 11, 12, 13, 14, 15, 16, 17, 18, 19] ([]) rfl rfl (by decide) (by decide) (by decide) rfl 0 rfl rfl ⟨Nat.le_of_ble_eq_true rfl, Nat.le_of_ble_eq_true rfl⟩ ⟨Nat.le_of_ble_eq_true rfl, Nat.le_of_ble_eq_true rfl⟩ [] rfl rfl (Nat.le_of_ble_eq_true rfl) dM_readNode_436 (fun rv ru hw => ?_)
                                obtain ⟨mu2, tx2, rfl, rfl, g1a, g2a, g3a⟩ := hw
                                show xk_Go K D 9 0 0 (tc_wM mm cmm th (va_up iu m true) (va_up ki m 8) mu2 (va_up fs m none) (va_up ss m none) tx2 (us + 1) te my mo mz mi iz ma 0 none od ar lw oc sk sa sl ((pp + 2 + i) + 1) (va_up re rd m) (rd + 1) co (va_up dq rd l) (va_up bo rd bv) (va_up lc rd (tc_tk 8))) [(0, .ref (mm 0)), (1, .int (xk_oI none)), (2, .int (nI pp)), (3, .int (nI 8)), (6, .int (nI m)), (7, .int (nI c)), (8, .int (nI i))] 439 []
                                refine x_iinc (q := 6) C (nI (i + 1)) [(8, .int (nI (i + 1))), (0, .ref (mm 0)), (1, .int (xk_oI none)), (2, .int (nI pp)), (3, .int (nI 8)), (6, .int (nI m)), (7, .int (nI c))] dM_readNode_439 rfl (nI_add i 1) (by decide) rfl ?_
                                refine x_goto C 413 dM_readNode_442 (by decide) ?_
                                exact x_sub [1, 2, 3, 4, 5, 6, 0] rfl (ih413 (i + 1) mu2 tx2 (by omega) (by omega) g1a (fun q hq => (g2a q hq).trans (e3 q hq)) (fun q hq t ht => ((tc_ap_keep (by omega) g3a).1 q hq t ht).trans (e4 q hq t ht)) (tc_seg1 e5 (tc_ap_keep (by omega) g3a).2 ((tc_ap_one g3a).trans (tc_by_0 (by omega)))) (by omega))
                        exact x_sub [2, 3, 4, 5, 8, 1, 0] rfl (lp413 _ 0 (vp_updL mu m 0) tx (Nat.lt_succ_self _) (Nat.zero_le _) pk_uLs (fun i hi => pk_uLn hi) (fun i hi t ht => rfl) (fun t ht => absurd ht (Nat.not_lt_zero _)) (by omega))
                      ·
                        show xk_Go K D 9 0 0 (tc_wM mm cmm th (va_up iu m true) (va_up ki m 8) (vp_updL mu m 0) (va_up fs m none) (va_up ss m none) tx (us + 1) te my mo mz mi iz ma (tc_f1 0 3) (tc_f2 0 none (((pp + 1) + 1) - 1)) od ar lw oc sk sa sl ((pp + 1) + 1) (va_up re rd m) (rd + 1) co (va_up dq rd l) (va_up bo rd bv) (va_up lc rd (tc_tk 8))) [(7, .int (nI c)), (0, .ref (mm 0)), (1, .int (xk_oI none)), (2, .int (nI pp)), (3, .int (nI 8)), (4, .int (nI l)), (5, .int (nI b)), (6, .int (nI m))] 410 []
                        cases g1u
                ·
                  refine x_if_ne (tgt := 286) C dM_readNode_198 (by decide) (fun _ => ?_) (fun h => absurd h (by decide))
                  refine x_iload_n C dM_readNode_286 rfl 3 rfl ?_
                  refine x_bipush (v := nI 6) C dM_readNode_287 (by decide) ?_
                  refine x_icmp_eq (tgt := 298) C dM_readNode_289 (by decide) (fun h => absurd h (by decide)) (fun _ => ?_)
                  refine x_iload_n C dM_readNode_292 rfl 3 rfl ?_
                  refine x_bipush (v := nI 9) C dM_readNode_293 (by decide) ?_
                  refine x_icmp_ne (tgt := 355) C dM_readNode_295 (by decide) (fun h => absurd (by decide) h) (fun _ => ?_)
                  refine x_aload_n C dM_readNode_298 rfl 0 rfl ?_
                  refine x_get C fgM_17 0 rfl rfl dM_readNode_299 ?_
                  refine x_iload C dM_readNode_302 6 rfl ?_
                  refine x_aload_n C dM_readNode_304 rfl 0 rfl ?_
                  refine x_callV C (c_M_next D mm cmm th (va_up iu m true) (va_up ki m 9) (vp_updL mu m 0) (va_up fs m none) (va_up ss m none) tx (us + 1) te my mo mz mi iz ma 0 none od ar lw oc sk sa sl (pp + 1) (va_up re rd m) (rd + 1) co (va_up dq rd l) (va_up bo rd bv) (va_up lc rd (tc_tk 9)) (by omega) y2 (by decide)) kbM_175 kcM_175 [0, 1, 2, 3, 4, 5, 6, 7, 8, 9, 10, 11, 12, 13, 14, 15, 16, 17, 18, 19, 20] [] [0, 1, 2, 3, 4, 5, 6, 7, 8, 9, 10, 11, 12, 13, 14, 15, 16, 17, 18, 19] ([]) rfl rfl (by decide) (by decide) (by decide) rfl 0 rfl rfl ⟨Nat.le_of_ble_eq_true rfl, Nat.le_of_ble_eq_true rfl⟩ ⟨Nat.le_of_ble_eq_true rfl, Nat.le_of_ble_eq_true rfl⟩ [.int (nI m), .ref (mm 3)] rfl rfl (Nat.le_of_ble_eq_true rfl) dM_readNode_305 (fun rv ru hw => ?_)
                  rcases hw with ⟨rfl, rfl, g1n⟩ | ⟨rfl, rfl, g1n, g2n⟩ | ⟨rfl, rfl, g1n, g2n⟩
                  ·
                    show xk_Go K D 9 0 0 (tc_wM mm cmm th (va_up iu m true) (va_up ki m 9) (vp_updL mu m 0) (va_up fs m none) (va_up ss m none) tx (us + 1) te my mo mz mi iz ma 0 none od ar lw oc sk sa sl (pp + 1) (va_up re rd m) (rd + 1) co (va_up dq rd l) (va_up bo rd bv) (va_up lc rd (tc_tk 9))) [(0, .ref (mm 0)), (1, .int (xk_oI none)), (2, .int (nI pp)), (3, .int (nI 9)), (4, .int (nI l)), (5, .int (nI b)), (6, .int (nI m))] 308 [.int (nI 0), .int (nI m), .ref (mm 3)]
                    exact absurd g1n (by decide)
                  ·
                    show xk_Go K D 9 0 0 (tc_wM mm cmm th (va_up iu m true) (va_up ki m 9) (vp_updL mu m 0) (va_up fs m none) (va_up ss m none) tx (us + 1) te my mo mz mi iz ma 1 (some iz) od ar lw oc sk sa sl (pp + 1) (va_up re rd m) (rd + 1) co (va_up dq rd l) (va_up bo rd bv) (va_up lc rd (tc_tk 9))) [(0, .ref (mm 0)), (1, .int (xk_oI none)), (2, .int (nI pp)), (3, .int (nI 9)), (4, .int (nI l)), (5, .int (nI b)), (6, .int (nI m))] 308 [.int (nI 0), .int (nI m), .ref (mm 3)]
                    refine x_i2l (v := 0) C dM_readNode_308 (by decide) ?_
                    refine x_lst C 3 2 (tc_wM mm cmm th (va_up iu m true) (va_up ki m 9) (vp_updL (vp_updL mu m 0) m 0) (va_up fs m none) (va_up ss m none) tx (us + 1) te my mo mz mi iz ma 1 (some iz) od ar lw oc sk sa sl (pp + 1) (va_up re rd m) (rd + 1) co (va_up dq rd l) (va_up bo rd bv) (va_up lc rd (tc_tk 9))) rfl rfl rfl rfl (by omega) (by decide) dM_readNode_309 ?_
                    refine x_aload_n C dM_readNode_310 rfl 0 rfl ?_
                    refine x_aload_n C dM_readNode_311 rfl 0 rfl ?_
                    refine x_get C fgM_165 0 rfl rfl dM_readNode_312 ?_
                    refine x_if_gt (tgt := 344) C dM_readNode_315 (by decide) (fun _ => ?_) (fun h => absurd (by decide) h)
                    refine x_iconst (v := nI 1) C dM_readNode_344 (by decide) ?_
                    refine x_goto C 349 dM_readNode_345 (by decide) ?_
                    refine x_callV C (c_M_must D mm cmm th (va_up iu m true) (va_up ki m 9) (vp_updL (vp_updL mu m 0) m 0) (va_up fs m none) (va_up ss m none) tx (us + 1) te my mo mz mi iz ma 1 (some iz) od ar lw oc sk sa sl (pp + 1) (va_up re rd m) (rd + 1) co (va_up dq rd l) (va_up bo rd bv) (va_up lc rd (tc_tk 9)) true (by first | decide | omega) (fun z => by cases z)) kbM_182 kcM_182 [0, 1, 2, 3, 4, 5, 6, 7, 8, 9, 10, 11, 12, 13, 14, 15, 16, 17, 18, 19, 20] [] [0, 1, 2, 3, 4, 5, 6, 7, 8, 9, 10, 11, 12, 13, 14, 15, 16, 17, 18, 19] ([]) rfl rfl (by decide) (by decide) (by decide) rfl 0 rfl rfl ⟨Nat.le_of_ble_eq_true rfl, Nat.le_of_ble_eq_true rfl⟩ ⟨Nat.le_of_ble_eq_true rfl, Nat.le_of_ble_eq_true rfl⟩ [] rfl rfl (Nat.le_of_ble_eq_true rfl) dM_readNode_349 (fun rv ru hw => ?_)
                    rcases hw with ⟨rfl, rfl, g1u⟩ | ⟨rfl, rfl, g1u⟩
                    ·
                      show xk_Go K D 9 0 0 (tc_wM mm cmm th (va_up iu m true) (va_up ki m 9) (vp_updL (vp_updL mu m 0) m 0) (va_up fs m none) (va_up ss m none) tx (us + 1) te my mo mz mi iz ma 1 (some iz) od ar lw oc sk sa sl (pp + 1) (va_up re rd m) (rd + 1) co (va_up dq rd l) (va_up bo rd bv) (va_up lc rd (tc_tk 9))) [(0, .ref (mm 0)), (1, .int (xk_oI none)), (2, .int (nI pp)), (3, .int (nI 9)), (4, .int (nI l)), (5, .int (nI b)), (6, .int (nI m))] 352 []
                      refine x_goto C 445 dM_readNode_352 (by decide) ?_
                      exact x_sub [0, 1, 6] rfl (jn445 (vp_updL (vp_updL mu m 0) m 0) tx (pp + 1) 1 (some iz) (Or.inr ⟨by first | decide | omega, by first | decide | omega, _, rfl, tc_rE_l (tc_rV_e (by decide) g2n)⟩) (fun i hi => (pk_uLn hi).trans (pk_uLn hi)) (fun i hi t ht => rfl) (⟨by omega, by omega⟩))
                    ·
                      show xk_Go K D 9 0 0 (tc_wM mm cmm th (va_up iu m true) (va_up ki m 9) (vp_updL (vp_updL mu m 0) m 0) (va_up fs m none) (va_up ss m none) tx (us + 1) te my mo mz mi iz ma (tc_f1 1 3) (tc_f2 1 (some iz) ((pp + 1) - 1)) od ar lw oc sk sa sl (pp + 1) (va_up re rd m) (rd + 1) co (va_up dq rd l) (va_up bo rd bv) (va_up lc rd (tc_tk 9))) [(0, .ref (mm 0)), (1, .int (xk_oI none)), (2, .int (nI pp)), (3, .int (nI 9)), (4, .int (nI l)), (5, .int (nI b)), (6, .int (nI m))] 352 []
                      cases g1u
                  ·
                    show xk_Go K D 9 0 0 (tc_wM mm cmm th (va_up iu m true) (va_up ki m 9) (vp_updL mu m 0) (va_up fs m none) (va_up ss m none) tx (us + 1) te my mo mz mi iz ma 0 none od ar lw oc sk sa sl ((pp + 1) + 1) (va_up re rd m) (rd + 1) co (va_up dq rd l) (va_up bo rd bv) (va_up lc rd (tc_tk 9))) [(0, .ref (mm 0)), (1, .int (xk_oI none)), (2, .int (nI pp)), (3, .int (nI 9)), (4, .int (nI l)), (5, .int (nI b)), (6, .int (nI m))] 308 [.int (nI (mi (pp + 1) % 256)), .int (nI m), .ref (mm 3)]
                    refine x_i2l (v := lN (mi (pp + 1) % 256)) C dM_readNode_308 (nI_l (by omega)) ?_
                    refine x_lst C 3 2 (tc_wM mm cmm th (va_up iu m true) (va_up ki m 9) (vp_updL (vp_updL mu m 0) m (lN (mi (pp + 1) % 256))) (va_up fs m none) (va_up ss m none) tx (us + 1) te my mo mz mi iz ma 0 none od ar lw oc sk sa sl ((pp + 1) + 1) (va_up re rd m) (rd + 1) co (va_up dq rd l) (va_up bo rd bv) (va_up lc rd (tc_tk 9))) rfl rfl rfl rfl (by omega) (by decide) dM_readNode_309 ?_
                    refine x_aload_n C dM_readNode_310 rfl 0 rfl ?_
                    refine x_aload_n C dM_readNode_311 rfl 0 rfl ?_
                    refine x_get C fgM_165 0 rfl rfl dM_readNode_312 ?_
                    refine x_if_gt (tgt := 344) C dM_readNode_315 (by decide) (fun h => absurd h (by decide)) (fun _ => ?_)
                    refine x_aload_n C dM_readNode_318 rfl 0 rfl ?_
                    refine x_get C fgM_17 0 rfl rfl dM_readNode_319 ?_
                    refine x_iload C dM_readNode_322 6 rfl ?_
                    refine x_lld C 3 2 rfl rfl (by omega) (by decide) dM_readNode_324 ?_
                    rw [pk_uLs]
                    refine x_iload_n C dM_readNode_325 rfl 3 rfl ?_
                    refine x_bipush (v := nI 6) C dM_readNode_326 (by decide) ?_
                    refine x_icmp_ne (tgt := 337) C dM_readNode_328 (by decide) (fun _ => ?_) (fun h => absurd h (by decide))
                    refine x_ldc2 (v := 2) C dM_readNode_337 klM_195 ?_
                    refine x_lcmp C dM_readNode_340 ?_
                    refine x_if_geC (tgt := 348) C dM_readNode_341 (by decide) (fun h341 => ?_) (fun h341 => ?_)
                    ·
                      refine x_iconst (v := nI 0) C dM_readNode_348 (by decide) ?_
                      refine x_callV C (c_M_must D mm cmm th (va_up iu m true) (va_up ki m 9) (vp_updL (vp_updL mu m 0) m (lN (mi (pp + 1) % 256))) (va_up fs m none) (va_up ss m none) tx (us + 1) te my mo mz mi iz ma 0 none od ar lw oc sk sa sl ((pp + 1) + 1) (va_up re rd m) (rd + 1) co (va_up dq rd l) (va_up bo rd bv) (va_up lc rd (tc_tk 9)) false (by first | decide | omega) (fun _ => by omega)) kbM_182 kcM_182 [0, 1, 2, 3, 4, 5, 6, 7, 8, 9, 10, 11, 12, 13, 14, 15, 16, 17, 18, 19, 20] [] [0, 1, 2, 3, 4, 5, 6, 7, 8, 9, 10, 11, 12, 13, 14, 15, 16, 17, 18, 19] ([]) rfl rfl (by decide) (by decide) (by decide) rfl 0 rfl rfl ⟨Nat.le_of_ble_eq_true rfl, Nat.le_of_ble_eq_true rfl⟩ ⟨Nat.le_of_ble_eq_true rfl, Nat.le_of_ble_eq_true rfl⟩ [] rfl rfl (Nat.le_of_ble_eq_true rfl) dM_readNode_349 (fun rv ru hw => ?_)
                      rcases hw with ⟨rfl, rfl, g1u⟩ | ⟨rfl, rfl, g1u⟩
                      ·
                        show xk_Go K D 9 0 0 (tc_wM mm cmm th (va_up iu m true) (va_up ki m 9) (vp_updL (vp_updL mu m 0) m (lN (mi (pp + 1) % 256))) (va_up fs m none) (va_up ss m none) tx (us + 1) te my mo mz mi iz ma 0 none od ar lw oc sk sa sl ((pp + 1) + 1) (va_up re rd m) (rd + 1) co (va_up dq rd l) (va_up bo rd bv) (va_up lc rd (tc_tk 9))) [(0, .ref (mm 0)), (1, .int (xk_oI none)), (2, .int (nI pp)), (3, .int (nI 9)), (4, .int (nI l)), (5, .int (nI b)), (6, .int (nI m))] 352 []
                        cases g1u
                      ·
                        show xk_Go K D 9 0 0 (tc_wM mm cmm th (va_up iu m true) (va_up ki m 9) (vp_updL (vp_updL mu m 0) m (lN (mi (pp + 1) % 256))) (va_up fs m none) (va_up ss m none) tx (us + 1) te my mo mz mi iz ma (tc_f1 0 3) (tc_f2 0 none (((pp + 1) + 1) - 1)) od ar lw oc sk sa sl ((pp + 1) + 1) (va_up re rd m) (rd + 1) co (va_up dq rd l) (va_up bo rd bv) (va_up lc rd (tc_tk 9))) [(0, .ref (mm 0)), (1, .int (xk_oI none)), (2, .int (nI pp)), (3, .int (nI 9)), (4, .int (nI l)), (5, .int (nI b)), (6, .int (nI m))] 352 []
                        show xk_Go K D 9 0 0 (tc_wM mm cmm th (va_up iu m true) (va_up ki m 9) (vp_updL (vp_updL mu m 0) m (lN (mi (pp + 1) % 256))) (va_up fs m none) (va_up ss m none) tx (us + 1) te my mo mz mi iz ma 3 (some ((pp + 1) + 1 - 1)) od ar lw oc sk sa sl ((pp + 1) + 1) (va_up re rd m) (rd + 1) co (va_up dq rd l) (va_up bo rd bv) (va_up lc rd (tc_tk 9))) [(0, .ref (mm 0)), (1, .int (xk_oI none)), (2, .int (nI pp)), (3, .int (nI 9)), (4, .int (nI l)), (5, .int (nI b)), (6, .int (nI m))] 352 []
                        refine x_goto C 445 dM_readNode_352 (by decide) ?_
                        exact x_sub [0, 1, 6] rfl (jn445 (vp_updL (vp_updL mu m 0) m (lN (mi (pp + 1) % 256))) tx ((pp + 1) + 1) 3 (some ((pp + 1) + 1 - 1)) (Or.inr ⟨by first | decide | omega, by first | decide | omega, _, rfl, tc_rE_3 (tc_rV_b (by decide) g2n) (tc_fit_f (fun z => by have z1 := (tc_fit9 (c := mi (pp + 1) % 256) (by omega)).mp z; have z2 := (pk_lLE (a := 2) (b := mi (pp + 1) % 256) (by decide) (by omega)).mp h341; omega))⟩) (fun i hi => (pk_uLn hi).trans (pk_uLn hi)) (fun i hi t ht => rfl) (⟨by omega, by omega⟩))
                    ·
                      refine x_iconst (v := nI 1) C dM_readNode_344 (by decide) ?_
                      refine x_goto C 349 dM_readNode_345 (by decide) ?_
                      refine x_callV C (c_M_must D mm cmm th (va_up iu m true) (va_up ki m 9) (vp_updL (vp_updL mu m 0) m (lN (mi (pp + 1) % 256))) (va_up fs m none) (va_up ss m none) tx (us + 1) te my mo mz mi iz ma 0 none od ar lw oc sk sa sl ((pp + 1) + 1) (va_up re rd m) (rd + 1) co (va_up dq rd l) (va_up bo rd bv) (va_up lc rd (tc_tk 9)) true (by first | decide | omega) (fun z => by cases z)) kbM_182 kcM_182 [0, 1, 2, 3, 4, 5, 6, 7, 8, 9, 10, 11, 12, 13, 14, 15, 16, 17, 18, 19, 20] [] [0, 1, 2, 3, 4, 5, 6, 7, 8, 9, 10, 11, 12, 13, 14, 15, 16, 17, 18, 19] ([]) rfl rfl (by decide) (by decide) (by decide) rfl 0 rfl rfl ⟨Nat.le_of_ble_eq_true rfl, Nat.le_of_ble_eq_true rfl⟩ ⟨Nat.le_of_ble_eq_true rfl, Nat.le_of_ble_eq_true rfl⟩ [] rfl rfl (Nat.le_of_ble_eq_true rfl) dM_readNode_349 (fun rv ru hw => ?_)
                      rcases hw with ⟨rfl, rfl, g1u⟩ | ⟨rfl, rfl, g1u⟩
                      ·
                        show xk_Go K D 9 0 0 (tc_wM mm cmm th (va_up iu m true) (va_up ki m 9) (vp_updL (vp_updL mu m 0) m (lN (mi (pp + 1) % 256))) (va_up fs m none) (va_up ss m none) tx (us + 1) te my mo mz mi iz ma 0 none od ar lw oc sk sa sl ((pp + 1) + 1) (va_up re rd m) (rd + 1) co (va_up dq rd l) (va_up bo rd bv) (va_up lc rd (tc_tk 9))) [(0, .ref (mm 0)), (1, .int (xk_oI none)), (2, .int (nI pp)), (3, .int (nI 9)), (4, .int (nI l)), (5, .int (nI b)), (6, .int (nI m))] 352 []
                        refine x_goto C 445 dM_readNode_352 (by decide) ?_
                        exact x_sub [0, 1, 6] rfl (jn445 (vp_updL (vp_updL mu m 0) m (lN (mi (pp + 1) % 256))) tx ((pp + 1) + 1) 0 none (Or.inl ⟨rfl, rfl, _, tc_rE_o (tc_rV_b (by decide) g2n) (tc_fit_t ((tc_fit9 (c := mi (pp + 1) % 256) (by omega)).mpr (Nat.not_le.mp (fun z => h341 ((pk_lLE (a := 2) (b := mi (pp + 1) % 256) (by decide) (by omega)).mpr z))))) (fun z => absurd z.1 (by decide)) (by decide), tc_mn_n8 (va_up_self _ _ _) pk_uLs (by decide)⟩) (fun i hi => (pk_uLn hi).trans (pk_uLn hi)) (fun i hi t ht => rfl) (⟨by omega, by omega⟩))
                      ·
                        show xk_Go K D 9 0 0 (tc_wM mm cmm th (va_up iu m true) (va_up ki m 9) (vp_updL (vp_updL mu m 0) m (lN (mi (pp + 1) % 256))) (va_up fs m none) (va_up ss m none) tx (us + 1) te my mo mz mi iz ma (tc_f1 0 3) (tc_f2 0 none (((pp + 1) + 1) - 1)) od ar lw oc sk sa sl ((pp + 1) + 1) (va_up re rd m) (rd + 1) co (va_up dq rd l) (va_up bo rd bv) (va_up lc rd (tc_tk 9))) [(0, .ref (mm 0)), (1, .int (xk_oI none)), (2, .int (nI pp)), (3, .int (nI 9)), (4, .int (nI l)), (5, .int (nI b)), (6, .int (nI m))] 352 []
                        cases g1u
                ·
                  refine x_if_ne (tgt := 286) C dM_readNode_198 (by decide) (fun _ => ?_) (fun h => absurd h (by decide))
                  refine x_iload_n C dM_readNode_286 rfl 3 rfl ?_
                  refine x_bipush (v := nI 6) C dM_readNode_287 (by decide) ?_
                  refine x_icmp_eq (tgt := 298) C dM_readNode_289 (by decide) (fun h => absurd h (by decide)) (fun _ => ?_)
                  refine x_iload_n C dM_readNode_292 rfl 3 rfl ?_
                  refine x_bipush (v := nI 9) C dM_readNode_293 (by decide) ?_
                  refine x_icmp_ne (tgt := 355) C dM_readNode_295 (by decide) (fun _ => ?_) (fun h => absurd h (by decide))
                  refine x_iload_n C dM_readNode_355 rfl 3 rfl ?_
                  refine x_bipush (v := nI 7) C dM_readNode_356 (by decide) ?_
                  refine x_icmp_ne (tgt := 375) C dM_readNode_358 (by decide) (fun _ => ?_) (fun h => absurd h (by decide))
                  refine x_iload_n C dM_readNode_375 rfl 3 rfl ?_
                  refine x_bipush (v := nI 8) C dM_readNode_376 (by decide) ?_
                  refine x_icmp_ne (tgt := 445) C dM_readNode_378 (by decide) (fun _ => ?_) (fun h => absurd h (by decide))
                  exact x_sub [0, 1, 6] rfl (jn445 (vp_updL mu m 0) tx (pp + 1) 0 none (Or.inl ⟨rfl, rfl, _, tc_rE_o (x := 0) (q := pp + 1) rfl (tc_fit_t rfl) (fun z => absurd z.1 (by decide)) (by decide), tc_mn_n8 (va_up_self _ _ _) pk_uLs (by decide)⟩) (fun i hi => pk_uLn hi) (fun i hi t ht => rfl) (⟨by omega, by omega⟩))
                ·
                  refine x_if_ne (tgt := 286) C dM_readNode_198 (by decide) (fun _ => ?_) (fun h => absurd h (by decide))
                  refine x_iload_n C dM_readNode_286 rfl 3 rfl ?_
                  refine x_bipush (v := nI 6) C dM_readNode_287 (by decide) ?_
                  refine x_icmp_eq (tgt := 298) C dM_readNode_289 (by decide) (fun h => absurd h (by decide)) (fun _ => ?_)
                  refine x_iload_n C dM_readNode_292 rfl 3 rfl ?_
                  refine x_bipush (v := nI 9) C dM_readNode_293 (by decide) ?_
                  refine x_icmp_ne (tgt := 355) C dM_readNode_295 (by decide) (fun _ => ?_) (fun h => absurd h (by decide))
                  refine x_iload_n C dM_readNode_355 rfl 3 rfl ?_
                  refine x_bipush (v := nI 7) C dM_readNode_356 (by decide) ?_
                  refine x_icmp_ne (tgt := 375) C dM_readNode_358 (by decide) (fun _ => ?_) (fun h => absurd h (by decide))
                  refine x_iload_n C dM_readNode_375 rfl 3 rfl ?_
                  refine x_bipush (v := nI 8) C dM_readNode_376 (by decide) ?_
                  refine x_icmp_ne (tgt := 445) C dM_readNode_378 (by decide) (fun _ => ?_) (fun h => absurd h (by decide))
                  exact x_sub [0, 1, 6] rfl (jn445 (vp_updL mu m 0) tx (pp + 1) 0 none (Or.inl ⟨rfl, rfl, _, tc_rE_o (x := 0) (q := pp + 1) rfl (tc_fit_t rfl) (fun z => absurd z.1 (by decide)) (by decide), tc_mn_n8 (va_up_self _ _ _) pk_uLs (by decide)⟩) (fun i hi => pk_uLn hi) (fun i hi t ht => rfl) (⟨by omega, by omega⟩))
              refine x_iload_n C dM_readNode_162 rfl 3 rfl ?_
              refine x_iconst (v := nI 1) C dM_readNode_163 (by decide) ?_
              refine x_icmp_neN (tgt := 171) C (by omega) (by decide) dM_readNode_164 (by decide) (fun h164 => ?_) (fun h164 => ?_)
              ·
                refine x_iconst (v := nI 0) C dM_readNode_171 (by decide) ?_
                refine x_iaddN C dM_readNode_172 ?_
                refine x_ist C 19 18 (tc_wM mm cmm th (va_up iu m true) (va_up ki m bk) (vp_updL mu m 0) (va_up fs m none) (va_up ss m none) tx (us + 1) te my mo mz mi iz ma 0 none od ar lw oc sk sa sl (pp + 1) (va_up re rd m) rd co (va_up dq rd l) (va_up bo rd (b + 0)) lc) rfl rfl (xk_nA_up bo rd (b + 0)) rfl (by omega) (by decide) dM_readNode_173 ?_
                exact x_sub [5, 6, 4, 3, 2, 1, 0] rfl (jn174 _ (by rw [if_neg h164]))
              ·
                refine x_iconst (v := nI 1) C dM_readNode_167 (by decide) ?_
                refine x_goto C 172 dM_readNode_168 (by decide) ?_
                refine x_iaddN C dM_readNode_172 ?_
                refine x_ist C 19 18 (tc_wM mm cmm th (va_up iu m true) (va_up ki m bk) (vp_updL mu m 0) (va_up fs m none) (va_up ss m none) tx (us + 1) te my mo mz mi iz ma 0 none od ar lw oc sk sa sl (pp + 1) (va_up re rd m) rd co (va_up dq rd l) (va_up bo rd (b + 1)) lc) rfl rfl (xk_nA_up bo rd (b + 1)) rfl (by omega) (by decide) dM_readNode_173 ?_
                exact x_sub [5, 6, 4, 3, 2, 1, 0] rfl (jn174 _ (by rw [if_pos h164]))
            ·
              refine x_aload_n C dM_readNode_89 rfl 3 rfl ?_
              refine x_bipush (v := nI 6) C dM_readNode_90 (by decide) ?_
              refine x_iload_n C dM_readNode_92 rfl 2 rfl ?_
              refine x_callV C (c_M_wrong D mm cmm th iu ki mu fs ss tx us te my mo mz mi iz ma 0 none od ar lw oc sk sa sl (pp + 1) re rd co dq bo lc 6 pp (by decide)) kbM_171 kcM_171 [0, 1, 2, 3, 4, 5, 6, 7, 8, 9, 10, 11, 12, 13, 14, 15, 16, 17, 18, 19, 20] [] [0, 1, 2, 3, 4, 5, 6, 7, 8, 9, 10, 11, 12, 13, 14, 15, 16, 17, 18, 19] ([]) rfl rfl (by decide) (by decide) (by decide) rfl 0 rfl rfl ⟨Nat.le_of_ble_eq_true rfl, Nat.le_of_ble_eq_true rfl⟩ ⟨Nat.le_of_ble_eq_true rfl, Nat.le_of_ble_eq_true rfl⟩ [] rfl rfl (Nat.le_of_ble_eq_true rfl) dM_readNode_93 (fun rv ru hw => ?_)
              obtain ⟨rfl, rfl⟩ := hw
              show xk_Go K D 9 0 0 (tc_wM mm cmm th iu ki mu fs ss tx us te my mo mz mi iz ma (tc_f1 0 6) (tc_f2 0 none pp) od ar lw oc sk sa sl (pp + 1) re rd co dq bo lc) [(4, .int (nI l)), (3, .int (nI bk)), (2, .int (nI pp)), (0, .ref (mm 0)), (1, .int (xk_oI none))] 96 [.int (nI 0)]
              show xk_Go K D 9 0 0 (tc_wM mm cmm th iu ki mu fs ss tx us te my mo mz mi iz ma 6 (some pp) od ar lw oc sk sa sl (pp + 1) re rd co dq bo lc) [(4, .int (nI l)), (3, .int (nI bk)), (2, .int (nI pp)), (0, .ref (mm 0)), (1, .int (xk_oI none))] 96 [.int (nI 0)]
              refine x_istore C [(5, .int (nI 0)), (4, .int (nI l)), (3, .int (nI bk)), (2, .int (nI pp)), (0, .ref (mm 0)), (1, .int (xk_oI none))] dM_readNode_96 (by decide) rfl ?_
              refine x_aload_n C dM_readNode_98 rfl 4 rfl ?_
              refine x_get C fgM_165 0 rfl rfl dM_readNode_99 ?_
              refine x_if_le (tgt := 106) C dM_readNode_102 (by decide) (fun h => absurd h (by decide)) (fun _ => ?_)
              exact x_vret C T rfl dM_readNode_105 (Or.inr (⟨6, pp, _, _, _, _, _, _, _, _, _, _, _, _, _, rfl, rfl, (tc_rN_6 (Nat.not_le.mpr g2t) (show ¬ 11 < mi pp % 256 by omega) (by omega) (by omega)), (by decide), (⟨ids, y3, y4, rfl, y5⟩), (by omega), (by omega)⟩))
          ·
            refine x_aload_n C dM_readNode_64 rfl 3 rfl ?_
            refine x_iconst (v := nI 5) C dM_readNode_65 (by decide) ?_
            refine x_iload_n C dM_readNode_66 rfl 2 rfl ?_
            refine x_callV C (c_M_wrong D mm cmm th iu ki mu fs ss tx us te my mo mz mi iz ma 0 none od ar lw oc sk sa sl (pp + 1) re rd co dq bo lc 5 pp (by decide)) kbM_171 kcM_171 [0, 1, 2, 3, 4, 5, 6, 7, 8, 9, 10, 11, 12, 13, 14, 15, 16, 17, 18, 19, 20] [] [0, 1, 2, 3, 4, 5, 6, 7, 8, 9, 10, 11, 12, 13, 14, 15, 16, 17, 18, 19] ([]) rfl rfl (by decide) (by decide) (by decide) rfl 0 rfl rfl ⟨Nat.le_of_ble_eq_true rfl, Nat.le_of_ble_eq_true rfl⟩ ⟨Nat.le_of_ble_eq_true rfl, Nat.le_of_ble_eq_true rfl⟩ [] rfl rfl (Nat.le_of_ble_eq_true rfl) dM_readNode_67 (fun rv ru hw => ?_)
            obtain ⟨rfl, rfl⟩ := hw
            show xk_Go K D 9 0 0 (tc_wM mm cmm th iu ki mu fs ss tx us te my mo mz mi iz ma (tc_f1 0 5) (tc_f2 0 none pp) od ar lw oc sk sa sl (pp + 1) re rd co dq bo lc) [(4, .int (nI l)), (3, .int (nI bk)), (2, .int (nI pp)), (0, .ref (mm 0)), (1, .int (xk_oI none))] 70 [.int (nI 0)]
            show xk_Go K D 9 0 0 (tc_wM mm cmm th iu ki mu fs ss tx us te my mo mz mi iz ma 5 (some pp) od ar lw oc sk sa sl (pp + 1) re rd co dq bo lc) [(4, .int (nI l)), (3, .int (nI bk)), (2, .int (nI pp)), (0, .ref (mm 0)), (1, .int (xk_oI none))] 70 [.int (nI 0)]
            refine x_istore C [(5, .int (nI 0)), (4, .int (nI l)), (3, .int (nI bk)), (2, .int (nI pp)), (0, .ref (mm 0)), (1, .int (xk_oI none))] dM_readNode_70 (by decide) rfl ?_
            refine x_aload_n C dM_readNode_72 rfl 4 rfl ?_
            refine x_get C fgM_165 0 rfl rfl dM_readNode_73 ?_
            refine x_if_ne (tgt := 98) C dM_readNode_76 (by decide) (fun _ => ?_) (fun h => absurd h (by decide))
            refine x_aload_n C dM_readNode_98 rfl 4 rfl ?_
            refine x_get C fgM_165 0 rfl rfl dM_readNode_99 ?_
            refine x_if_le (tgt := 106) C dM_readNode_102 (by decide) (fun h => absurd h (by decide)) (fun _ => ?_)
            exact x_vret C T rfl dM_readNode_105 (Or.inr (⟨5, pp, _, _, _, _, _, _, _, _, _, _, _, _, _, rfl, rfl, (tc_rN_5 (Nat.not_le.mpr g2t) (show ¬ 11 < mi pp % 256 by omega) (by omega)), (by decide), (⟨ids, y3, y4, rfl, y5⟩), (by omega), (by omega)⟩))
        ·
          show xk_Go K D 9 0 0 (tc_wM mm cmm th iu ki mu fs ss tx us te my mo mz mi iz ma (tc_f1 0 3) (tc_f2 0 none ((pp + 1) - 1)) od ar lw oc sk sa sl (pp + 1) re rd co dq bo lc) [(3, .int (nI bk)), (2, .int (nI pp)), (0, .ref (mm 0)), (1, .int (xk_oI none))] 32 []
          cases g1u
  ·
    obtain ⟨hl, hb, hj, hlc, o, ho, ho2, ho3, ho4⟩ := y7 j rfl
    have hro := y5 j o ho
    have hom := y3m o (List.mem_of_getElem? ho)
    show xk_Go K D 9 0 0 (tc_wM mm cmm th iu ki mu fs ss tx us te my mo mz mi iz ma 0 none od ar lw oc sk sa sl pp re rd co dq bo lc) [(0, .ref (mm 0)), (1, .int (nI j))] 0 []
    refine x_aload_n C dM_readNode_0 rfl 0 rfl ?_
    refine x_get C fgM_168 0 rfl rfl dM_readNode_1 ?_
    refine x_istore_n C [(2, .int (nI pp)), (0, .ref (mm 0)), (1, .int (nI j))] dM_readNode_4 rfl (by decide) rfl ?_
    refine x_aload_n C dM_readNode_5 rfl 1 rfl ?_
    refine x_callV C (c_M_next D mm cmm th iu ki mu fs ss tx us te my mo mz mi iz ma 0 none od ar lw oc sk sa sl pp re rd co dq bo lc (by omega) y2 (by decide)) kbM_175 kcM_175 [0, 1, 2, 3, 4, 5, 6, 7, 8, 9, 10, 11, 12, 13, 14, 15, 16, 17, 18, 19, 20] [] [0, 1, 2, 3, 4, 5, 6, 7, 8, 9, 10, 11, 12, 13, 14, 15, 16, 17, 18, 19] ([]) rfl rfl (by decide) (by decide) (by decide) rfl 0 rfl rfl ⟨Nat.le_of_ble_eq_true rfl, Nat.le_of_ble_eq_true rfl⟩ ⟨Nat.le_of_ble_eq_true rfl, Nat.le_of_ble_eq_true rfl⟩ [] rfl rfl (Nat.le_of_ble_eq_true rfl) dM_readNode_6 (fun rv ru hw => ?_)
    rcases hw with ⟨rfl, rfl, g1t⟩ | ⟨rfl, rfl, g1t, g2t⟩ | ⟨rfl, rfl, g1t, g2t⟩
    ·
      show xk_Go K D 9 0 0 (tc_wM mm cmm th iu ki mu fs ss tx us te my mo mz mi iz ma 0 none od ar lw oc sk sa sl pp re rd co dq bo lc) [(2, .int (nI pp)), (0, .ref (mm 0)), (1, .int (nI j))] 9 [.int (nI 0)]
      exact absurd g1t (by decide)
    ·
      show xk_Go K D 9 0 0 (tc_wM mm cmm th iu ki mu fs ss tx us te my mo mz mi iz ma 1 (some iz) od ar lw oc sk sa sl pp re rd co dq bo lc) [(2, .int (nI pp)), (0, .ref (mm 0)), (1, .int (nI j))] 9 [.int (nI 0)]
      refine x_istore_n C [(3, .int (nI 0)), (2, .int (nI pp)), (0, .ref (mm 0)), (1, .int (nI j))] dM_readNode_9 rfl (by decide) rfl ?_
      refine x_aload_n C dM_readNode_10 rfl 2 rfl ?_
      refine x_aload_n C dM_readNode_11 rfl 2 rfl ?_
      refine x_get C fgM_165 0 rfl rfl dM_readNode_12 ?_
      refine x_if_gt (tgt := 24) C dM_readNode_15 (by decide) (fun _ => ?_) (fun h => absurd (by decide) h)
      refine x_iconst (v := nI 1) C dM_readNode_24 (by decide) ?_
      refine x_goto C 29 dM_readNode_25 (by decide) ?_
      refine x_callV C (c_M_must D mm cmm th iu ki mu fs ss tx us te my mo mz mi iz ma 1 (some iz) od ar lw oc sk sa sl pp re rd co dq bo lc true (by first | decide | omega) (fun z => by cases z)) kbM_182 kcM_182 [0, 1, 2, 3, 4, 5, 6, 7, 8, 9, 10, 11, 12, 13, 14, 15, 16, 17, 18, 19, 20] [] [0, 1, 2, 3, 4, 5, 6, 7, 8, 9, 10, 11, 12, 13, 14, 15, 16, 17, 18, 19] ([]) rfl rfl (by decide) (by decide) (by decide) rfl 0 rfl rfl ⟨Nat.le_of_ble_eq_true rfl, Nat.le_of_ble_eq_true rfl⟩ ⟨Nat.le_of_ble_eq_true rfl, Nat.le_of_ble_eq_true rfl⟩ [] rfl rfl (Nat.le_of_ble_eq_true rfl) dM_readNode_29 (fun rv ru hw => ?_)
      rcases hw with ⟨rfl, rfl, g1u⟩ | ⟨rfl, rfl, g1u⟩
      ·
        show xk_Go K D 9 0 0 (tc_wM mm cmm th iu ki mu fs ss tx us te my mo mz mi iz ma 1 (some iz) od ar lw oc sk sa sl pp re rd co dq bo lc) [(3, .int (nI 0)), (2, .int (nI pp)), (0, .ref (mm 0)), (1, .int (nI j))] 32 []
        refine x_iload_n C dM_readNode_32 rfl 3 rfl ?_
        refine x_if_geN (tgt := 40) C (by omega) dM_readNode_33 (by decide) ?_
        refine x_aload_n C dM_readNode_40 rfl 2 rfl ?_
        refine x_get C fgM_68 0 rfl rfl dM_readNode_41 ?_
        refine x_iload_n C dM_readNode_44 rfl 3 rfl ?_
        refine x_ild C 18 17 rfl rfl (by omega) (by decide) dM_readNode_45 ?_
        show xk_Go K D 9 0 0 (tc_wM mm cmm th iu ki mu fs ss tx us te my mo mz mi iz ma 1 (some iz) od ar lw oc sk sa sl pp re rd co dq bo lc) [(3, .int (nI 0)), (2, .int (nI pp)), (0, .ref (mm 0)), (1, .int (nI j))] 46 [.int (nI (dq j))]
        refine x_iconst (v := nI 1) C dM_readNode_46 (by decide) ?_
        refine x_iaddN C dM_readNode_47 ?_
        rw [← hl]
        refine x_istore C [(4, .int (nI l)), (3, .int (nI 0)), (2, .int (nI pp)), (0, .ref (mm 0)), (1, .int (nI j))] dM_readNode_48 (by decide) rfl ?_
        refine x_aload_n C dM_readNode_50 rfl 3 rfl ?_
        refine x_get C fgM_165 0 rfl rfl dM_readNode_51 ?_
        refine x_if_ne (tgt := 72) C dM_readNode_54 (by decide) (fun _ => ?_) (fun h => absurd h (by decide))
        refine x_aload_n C dM_readNode_72 rfl 3 rfl ?_
        refine x_get C fgM_165 0 rfl rfl dM_readNode_73 ?_
        refine x_if_ne (tgt := 98) C dM_readNode_76 (by decide) (fun _ => ?_) (fun h => absurd h (by decide))
        refine x_aload_n C dM_readNode_98 rfl 3 rfl ?_
        refine x_get C fgM_165 0 rfl rfl dM_readNode_99 ?_
        refine x_if_le (tgt := 106) C dM_readNode_102 (by decide) (fun h => absurd h (by decide)) (fun _ => ?_)
        exact x_vret C T rfl dM_readNode_105 (Or.inr (⟨1, iz, _, _, _, _, _, _, _, _, _, _, _, _, _, rfl, rfl, (tc_rN_1 g2t), (by decide), (⟨ids, y3, y4, rfl, y5⟩), (by omega), (by omega)⟩))
      ·
        show xk_Go K D 9 0 0 (tc_wM mm cmm th iu ki mu fs ss tx us te my mo mz mi iz ma (tc_f1 1 3) (tc_f2 1 (some iz) (pp - 1)) od ar lw oc sk sa sl pp re rd co dq bo lc) [(3, .int (nI 0)), (2, .int (nI pp)), (0, .ref (mm 0)), (1, .int (nI j))] 32 []
        cases g1u
    ·
      show xk_Go K D 9 0 0 (tc_wM mm cmm th iu ki mu fs ss tx us te my mo mz mi iz ma 0 none od ar lw oc sk sa sl (pp + 1) re rd co dq bo lc) [(2, .int (nI pp)), (0, .ref (mm 0)), (1, .int (nI j))] 9 [.int (nI (mi pp % 256))]
      obtain ⟨bk, hbk⟩ : ∃ c, c = mi pp % 256 := ⟨_, rfl⟩
      rw [← hbk]
      have hb256 : bk < 256 := by omega
      refine x_istore_n C [(3, .int (nI bk)), (2, .int (nI pp)), (0, .ref (mm 0)), (1, .int (nI j))] dM_readNode_9 rfl (by decide) rfl ?_
      refine x_aload_n C dM_readNode_10 rfl 2 rfl ?_
      refine x_aload_n C dM_readNode_11 rfl 2 rfl ?_
      refine x_get C fgM_165 0 rfl rfl dM_readNode_12 ?_
      refine x_if_gt (tgt := 24) C dM_readNode_15 (by decide) (fun h => absurd h (by decide)) (fun _ => ?_)
      refine x_iload_n C dM_readNode_18 rfl 0 rfl ?_
      refine x_bipush (v := nI 12) C dM_readNode_19 (by decide) ?_
      refine x_icmp_geN (tgt := 28) C (by omega) (by decide) dM_readNode_21 (by decide) (fun h21 => ?_) (fun h21 => ?_)
      ·
        refine x_iconst (v := nI 0) C dM_readNode_28 (by decide) ?_
        refine x_callV C (c_M_must D mm cmm th iu ki mu fs ss tx us te my mo mz mi iz ma 0 none od ar lw oc sk sa sl (pp + 1) re rd co dq bo lc false (by first | decide | omega) (fun _ => by omega)) kbM_182 kcM_182 [0, 1, 2, 3, 4, 5, 6, 7, 8, 9, 10, 11, 12, 13, 14, 15, 16, 17, 18, 19, 20] [] [0, 1, 2, 3, 4, 5, 6, 7, 8, 9, 10, 11, 12, 13, 14, 15, 16, 17, 18, 19] ([]) rfl rfl (by decide) (by decide) (by decide) rfl 0 rfl rfl ⟨Nat.le_of_ble_eq_true rfl, Nat.le_of_ble_eq_true rfl⟩ ⟨Nat.le_of_ble_eq_true rfl, Nat.le_of_ble_eq_true rfl⟩ [] rfl rfl (Nat.le_of_ble_eq_true rfl) dM_readNode_29 (fun rv ru hw => ?_)
        rcases hw with ⟨rfl, rfl, g1u⟩ | ⟨rfl, rfl, g1u⟩
        ·
          show xk_Go K D 9 0 0 (tc_wM mm cmm th iu ki mu fs ss tx us te my mo mz mi iz ma 0 none od ar lw oc sk sa sl (pp + 1) re rd co dq bo lc) [(3, .int (nI bk)), (2, .int (nI pp)), (0, .ref (mm 0)), (1, .int (nI j))] 32 []
          cases g1u
        ·
          show xk_Go K D 9 0 0 (tc_wM mm cmm th iu ki mu fs ss tx us te my mo mz mi iz ma (tc_f1 0 3) (tc_f2 0 none ((pp + 1) - 1)) od ar lw oc sk sa sl (pp + 1) re rd co dq bo lc) [(3, .int (nI bk)), (2, .int (nI pp)), (0, .ref (mm 0)), (1, .int (nI j))] 32 []
          show xk_Go K D 9 0 0 (tc_wM mm cmm th iu ki mu fs ss tx us te my mo mz mi iz ma 3 (some pp) od ar lw oc sk sa sl (pp + 1) re rd co dq bo lc) [(3, .int (nI bk)), (2, .int (nI pp)), (0, .ref (mm 0)), (1, .int (nI j))] 32 []
          refine x_iload_n C dM_readNode_32 rfl 3 rfl ?_
          refine x_if_geN (tgt := 40) C (by omega) dM_readNode_33 (by decide) ?_
          refine x_aload_n C dM_readNode_40 rfl 2 rfl ?_
          refine x_get C fgM_68 0 rfl rfl dM_readNode_41 ?_
          refine x_iload_n C dM_readNode_44 rfl 3 rfl ?_
          refine x_ild C 18 17 rfl rfl (by omega) (by decide) dM_readNode_45 ?_
          show xk_Go K D 9 0 0 (tc_wM mm cmm th iu ki mu fs ss tx us te my mo mz mi iz ma 3 (some pp) od ar lw oc sk sa sl (pp + 1) re rd co dq bo lc) [(3, .int (nI bk)), (2, .int (nI pp)), (0, .ref (mm 0)), (1, .int (nI j))] 46 [.int (nI (dq j))]
          refine x_iconst (v := nI 1) C dM_readNode_46 (by decide) ?_
          refine x_iaddN C dM_readNode_47 ?_
          rw [← hl]
          refine x_istore C [(4, .int (nI l)), (3, .int (nI bk)), (2, .int (nI pp)), (0, .ref (mm 0)), (1, .int (nI j))] dM_readNode_48 (by decide) rfl ?_
          refine x_aload_n C dM_readNode_50 rfl 3 rfl ?_
          refine x_get C fgM_165 0 rfl rfl dM_readNode_51 ?_
          refine x_if_ne (tgt := 72) C dM_readNode_54 (by decide) (fun _ => ?_) (fun h => absurd h (by decide))
          refine x_aload_n C dM_readNode_72 rfl 3 rfl ?_
          refine x_get C fgM_165 0 rfl rfl dM_readNode_73 ?_
          refine x_if_ne (tgt := 98) C dM_readNode_76 (by decide) (fun _ => ?_) (fun h => absurd h (by decide))
          refine x_aload_n C dM_readNode_98 rfl 3 rfl ?_
          refine x_get C fgM_165 0 rfl rfl dM_readNode_99 ?_
          refine x_if_le (tgt := 106) C dM_readNode_102 (by decide) (fun h => absurd h (by decide)) (fun _ => ?_)
          exact x_vret C T rfl dM_readNode_105 (Or.inr (⟨3, pp, _, _, _, _, _, _, _, _, _, _, _, _, _, rfl, rfl, (tc_rN_3 (Nat.not_le.mpr g2t) (show 11 < mi pp % 256 by omega)), (by decide), (⟨ids, y3, y4, rfl, y5⟩), (by omega), (by omega)⟩))
      ·
        refine x_iconst (v := nI 1) C dM_readNode_24 (by decide) ?_
        refine x_goto C 29 dM_readNode_25 (by decide) ?_
        refine x_callV C (c_M_must D mm cmm th iu ki mu fs ss tx us te my mo mz mi iz ma 0 none od ar lw oc sk sa sl (pp + 1) re rd co dq bo lc true (by first | decide | omega) (fun z => by cases z)) kbM_182 kcM_182 [0, 1, 2, 3, 4, 5, 6, 7, 8, 9, 10, 11, 12, 13, 14, 15, 16, 17, 18, 19, 20] [] [0, 1, 2, 3, 4, 5, 6, 7, 8, 9, 10, 11, 12, 13, 14, 15, 16, 17, 18, 19] ([]) rfl rfl (by decide) (by decide) (by decide) rfl 0 rfl rfl ⟨Nat.le_of_ble_eq_true rfl, Nat.le_of_ble_eq_true rfl⟩ ⟨Nat.le_of_ble_eq_true rfl, Nat.le_of_ble_eq_true rfl⟩ [] rfl rfl (Nat.le_of_ble_eq_true rfl) dM_readNode_29 (fun rv ru hw => ?_)
        rcases hw with ⟨rfl, rfl, g1u⟩ | ⟨rfl, rfl, g1u⟩
        ·
          show xk_Go K D 9 0 0 (tc_wM mm cmm th iu ki mu fs ss tx us te my mo mz mi iz ma 0 none od ar lw oc sk sa sl (pp + 1) re rd co dq bo lc) [(3, .int (nI bk)), (2, .int (nI pp)), (0, .ref (mm 0)), (1, .int (nI j))] 32 []
          refine x_iload_n C dM_readNode_32 rfl 3 rfl ?_
          refine x_if_geN (tgt := 40) C (by omega) dM_readNode_33 (by decide) ?_
          refine x_aload_n C dM_readNode_40 rfl 2 rfl ?_
          refine x_get C fgM_68 0 rfl rfl dM_readNode_41 ?_
          refine x_iload_n C dM_readNode_44 rfl 3 rfl ?_
          refine x_ild C 18 17 rfl rfl (by omega) (by decide) dM_readNode_45 ?_
          show xk_Go K D 9 0 0 (tc_wM mm cmm th iu ki mu fs ss tx us te my mo mz mi iz ma 0 none od ar lw oc sk sa sl (pp + 1) re rd co dq bo lc) [(3, .int (nI bk)), (2, .int (nI pp)), (0, .ref (mm 0)), (1, .int (nI j))] 46 [.int (nI (dq j))]
          refine x_iconst (v := nI 1) C dM_readNode_46 (by decide) ?_
          refine x_iaddN C dM_readNode_47 ?_
          rw [← hl]
          refine x_istore C [(4, .int (nI l)), (3, .int (nI bk)), (2, .int (nI pp)), (0, .ref (mm 0)), (1, .int (nI j))] dM_readNode_48 (by decide) rfl ?_
          refine x_aload_n C dM_readNode_50 rfl 3 rfl ?_
          refine x_get C fgM_165 0 rfl rfl dM_readNode_51 ?_
          refine x_if_ne (tgt := 72) C dM_readNode_54 (by decide) (fun h => absurd (by decide) h) (fun _ => ?_)
          refine x_iload C dM_readNode_57 0 rfl ?_
          refine x_bipush (v := nI 60) C dM_readNode_59 (by decide) ?_
          refine x_icmp_leN (tgt := 72) C (by omega) (by decide) dM_readNode_61 (by decide) (fun h61 => ?_) (fun h61 => ?_)
          ·
            refine x_aload_n C dM_readNode_72 rfl 3 rfl ?_
            refine x_get C fgM_165 0 rfl rfl dM_readNode_73 ?_
            refine x_if_ne (tgt := 98) C dM_readNode_76 (by decide) (fun h => absurd (by decide) h) (fun _ => ?_)
            refine x_aload_n C dM_readNode_79 rfl 3 rfl ?_
            refine x_get C fgM_84 0 rfl rfl dM_readNode_80 ?_
            refine x_sipush (v := nI 200) C dM_readNode_83 (by decide) ?_
            refine x_icmp_neN (tgt := 98) C (by omega) (by decide) dM_readNode_86 (by decide) (fun h86 => ?_) (fun h86 => ?_)
            ·
              refine x_aload_n C dM_readNode_98 rfl 3 rfl ?_
              refine x_get C fgM_165 0 rfl rfl dM_readNode_99 ?_
              refine x_if_le (tgt := 106) C dM_readNode_102 (by decide) (fun _ => ?_) (fun h => absurd (by decide) h)
              refine x_iload_n C dM_readNode_106 rfl 4 rfl ?_
              refine x_if_geN (tgt := 114) C (by omega) dM_readNode_107 (by decide) ?_
              refine x_aload_n C dM_readNode_114 rfl 3 rfl ?_
              refine x_get C fgM_71 0 rfl rfl dM_readNode_115 ?_
              refine x_iload_n C dM_readNode_118 rfl 4 rfl ?_
              refine x_ild C 19 18 rfl rfl (by omega) (by decide) dM_readNode_119 ?_
              show xk_Go K D 9 0 0 (tc_wM mm cmm th iu ki mu fs ss tx us te my mo mz mi iz ma 0 none od ar lw oc sk sa sl (pp + 1) re rd co dq bo lc) [(4, .int (nI l)), (3, .int (nI bk)), (2, .int (nI pp)), (0, .ref (mm 0)), (1, .int (nI j))] 120 [.int (nI (bo j))]
              rw [← hb]
              refine x_istore C [(5, .int (nI b)), (4, .int (nI l)), (3, .int (nI bk)), (2, .int (nI pp)), (0, .ref (mm 0)), (1, .int (nI j))] dM_readNode_120 (by decide) rfl ?_
              refine x_aload_n C dM_readNode_122 rfl 4 rfl ?_
              refine x_iload_n C dM_readNode_123 rfl 2 rfl ?_
              refine x_lconst (v := 0) C dM_readNode_124 (by decide) ?_
              obtain ⟨k0, hk0, hk1⟩ := y9 (by omega)
              refine x_callV C (c_M_make D mm cmm th iu ki mu fs ss tx us te my mo mz mi iz ma 0 none od ar lw oc sk sa sl (pp + 1) re rd co dq bo lc bk 0 k0 hk0 hk1) kbM_115 kcM_115 [0, 1, 2, 3, 4, 5, 6, 7, 8, 9, 10, 11, 12, 13, 14, 15, 16, 17, 18, 19, 20] [] [0, 1, 2, 3, 4, 5, 6, 7, 8, 9, 10, 11, 12, 13, 14, 15, 16, 17, 18, 19] ([]) rfl rfl (by decide) (by decide) (by decide) rfl 0 rfl rfl ⟨Nat.le_of_ble_eq_true rfl, Nat.le_of_ble_eq_true rfl⟩ ⟨Nat.le_of_ble_eq_true rfl, Nat.le_of_ble_eq_true rfl⟩ [] rfl rfl (Nat.le_of_ble_eq_true rfl) dM_readNode_125 (fun rv ru hw => ?_)
              obtain ⟨m, rfl, rfl, g1m, g2m⟩ := hw
              show xk_Go K D 9 0 0 (tc_wM mm cmm th (va_up iu m true) (va_up ki m bk) (vp_updL mu m 0) (va_up fs m none) (va_up ss m none) tx (us + 1) te my mo mz mi iz ma 0 none od ar lw oc sk sa sl (pp + 1) re rd co dq bo lc) [(5, .int (nI b)), (4, .int (nI l)), (3, .int (nI bk)), (2, .int (nI pp)), (0, .ref (mm 0)), (1, .int (nI j))] 128 [.int (nI m)]
              have hk12 : bk = 0 ∨ bk = 1 ∨ bk = 2 ∨ bk = 3 ∨ bk = 4 ∨ bk = 5 ∨ bk = 6 ∨ bk = 7 ∨ bk = 8 ∨ bk = 9 ∨ bk = 10 ∨ bk = 11 := by omega
              refine x_istore C [(6, .int (nI m)), (5, .int (nI b)), (4, .int (nI l)), (3, .int (nI bk)), (2, .int (nI pp)), (0, .ref (mm 0)), (1, .int (nI j))] dM_readNode_128 (by decide) rfl ?_
              refine x_aload_n C dM_readNode_130 rfl 5 rfl ?_
              refine x_get C fgM_62 0 rfl rfl dM_readNode_131 ?_
              refine x_aload_n C dM_readNode_134 rfl 5 rfl ?_
              refine x_get C fgM_186 0 rfl rfl dM_readNode_135 ?_
              refine x_iload C dM_readNode_138 0 rfl ?_
              refine x_ist C 16 15 (tc_wM mm cmm th (va_up iu m true) (va_up ki m bk) (vp_updL mu m 0) (va_up fs m none) (va_up ss m none) tx (us + 1) te my mo mz mi iz ma 0 none od ar lw oc sk sa sl (pp + 1) (va_up re rd m) rd co dq bo lc) rfl rfl (xk_nA_up re rd m) rfl (by omega) (by decide) dM_readNode_140 ?_
              refine x_aload_n C dM_readNode_141 rfl 5 rfl ?_
              refine x_get C fgM_68 0 rfl rfl dM_readNode_142 ?_
              refine x_aload_n C dM_readNode_145 rfl 5 rfl ?_
              refine x_get C fgM_186 0 rfl rfl dM_readNode_146 ?_
              refine x_iload C dM_readNode_149 2 rfl ?_
              refine x_ist C 18 17 (tc_wM mm cmm th (va_up iu m true) (va_up ki m bk) (vp_updL mu m 0) (va_up fs m none) (va_up ss m none) tx (us + 1) te my mo mz mi iz ma 0 none od ar lw oc sk sa sl (pp + 1) (va_up re rd m) rd co (va_up dq rd l) bo lc) rfl rfl (xk_nA_up dq rd l) rfl (by omega) (by decide) dM_readNode_151 ?_
              refine x_aload_n C dM_readNode_152 rfl 5 rfl ?_
              refine x_get C fgM_71 0 rfl rfl dM_readNode_153 ?_
              refine x_aload_n C dM_readNode_156 rfl 5 rfl ?_
              refine x_get C fgM_186 0 rfl rfl dM_readNode_157 ?_
              refine x_iload C dM_readNode_160 1 rfl ?_
              have jn174 : ∀ (bv : Nat), (bv = b + if bk = 1 then 1 else 0) → xk_Go K D 9 0 0 (tc_wM mm cmm th (va_up iu m true) (va_up ki m bk) (vp_updL mu m 0) (va_up fs m none) (va_up ss m none) tx (us + 1) te my mo mz mi iz ma 0 none od ar lw oc sk sa sl (pp + 1) (va_up re rd m) rd co (va_up dq rd l) (va_up bo rd bv) lc) [(0, .ref (mm 0)), (1, .int (nI j)), (2, .int (nI pp)), (3, .int (nI bk)), (4, .int (nI l)), (5, .int (nI b)), (6, .int (nI m))] 174 [] := by
                intro bv hbv
                refine x_aload_n C dM_readNode_174 rfl 0 rfl ?_
                refine x_get C fgM_74 0 rfl rfl dM_readNode_175 ?_
                refine x_aload_n C dM_readNode_178 rfl 0 rfl ?_
                refine x_get C fgM_186 0 rfl rfl dM_readNode_179 ?_
                refine x_iload_n C dM_readNode_182 rfl 3 rfl ?_
                refine x_callS C (c_M_takes D bk (by omega)) kbM_109 kcM_109 [] [0, 1, 2, 3, 4, 5, 6, 7, 8, 9, 10, 11, 12, 13, 14, 15, 16, 17, 18, 19, 20] [] (tc_wM mm cmm th (va_up iu m true) (va_up ki m bk) (vp_updL mu m 0) (va_up fs m none) (va_up ss m none) tx (us + 1) te my mo mz mi iz ma 0 none od ar lw oc sk sa sl (pp + 1) (va_up re rd m) rd co (va_up dq rd l) (va_up bo rd bv) lc) rfl rfl (by decide) (by decide) (by decide) rfl ⟨Nat.le_of_ble_eq_true rfl, Nat.le_of_ble_eq_true rfl⟩ ⟨Nat.le_of_ble_eq_true rfl, Nat.le_of_ble_eq_true rfl⟩ [.int (nI rd), .ref (mm 20)] rfl rfl (Nat.le_of_ble_eq_true rfl) dM_readNode_183 (fun rv ru hw => ?_)
                obtain ⟨rfl, rfl⟩ := hw
                show xk_Go K D 9 0 0 (tc_wM mm cmm th (va_up iu m true) (va_up ki m bk) (vp_updL mu m 0) (va_up fs m none) (va_up ss m none) tx (us + 1) te my mo mz mi iz ma 0 none od ar lw oc sk sa sl (pp + 1) (va_up re rd m) rd co (va_up dq rd l) (va_up bo rd bv) lc) [(0, .ref (mm 0)), (1, .int (nI j)), (2, .int (nI pp)), (3, .int (nI bk)), (4, .int (nI l)), (5, .int (nI b)), (6, .int (nI m))] 186 [.int (nI (tc_tk bk)), .int (nI rd), .ref (mm 20)]
                refine x_ist C 20 19 (tc_wM mm cmm th (va_up iu m true) (va_up ki m bk) (vp_updL mu m 0) (va_up fs m none) (va_up ss m none) tx (us + 1) te my mo mz mi iz ma 0 none od ar lw oc sk sa sl (pp + 1) (va_up re rd m) rd co (va_up dq rd l) (va_up bo rd bv) (va_up lc rd (tc_tk bk))) rfl rfl (xk_nA_up lc rd (tc_tk bk)) rfl (by omega) (by decide) dM_readNode_186 ?_
                refine x_aload_n C dM_readNode_187 rfl 0 rfl ?_
                refine x_dup C dM_readNode_188 rfl ?_
                refine x_get C fgM_186 0 rfl rfl dM_readNode_189 ?_
                refine x_iconst (v := nI 1) C dM_readNode_192 (by decide) ?_
                refine x_iaddN C dM_readNode_193 ?_
                refine x_put C fpM_186 0 (tc_wM mm cmm th (va_up iu m true) (va_up ki m bk) (vp_updL mu m 0) (va_up fs m none) (va_up ss m none) tx (us + 1) te my mo mz mi iz ma 0 none od ar lw oc sk sa sl (pp + 1) (va_up re rd m) (rd + 1) co (va_up dq rd l) (va_up bo rd bv) (va_up lc rd (tc_tk bk))) rfl rfl rfl rfl (Nat.le_of_ble_eq_true rfl) dM_readNode_194 ?_
                have jn445 : ∀ (mug : Nat → Int64) (txg : Nat → Nat) (nw : Nat) (fv : Nat) (pv : Option Nat), ((fv = 0 ∧ pv = none ∧ ∃ x, tc_rE (tc_B mi) iz bk pp b (pp + 1) = .inr (x, nw) ∧ tc_mn (va_up ki m bk) mug txg m = x) ∨ (0 < fv ∧ fv < 10 ∧ ∃ q, pv = some q ∧ tc_rE (tc_B mi) iz bk pp b (pp + 1) = .inl (fv, q))) → (∀ i, i ≠ m → mug i = mu i) → (∀ i, i ≠ m → ∀ t, t < 64 → txg (64 * i + t) % 256 = tx (64 * i + t) % 256) → (pp ≤ nw ∧ nw ≤ iz) → xk_Go K D 9 0 0 (tc_wM mm cmm th (va_up iu m true) (va_up ki m bk) mug (va_up fs m none) (va_up ss m none) txg (us + 1) te my mo mz mi iz ma fv pv od ar lw oc sk sa sl nw (va_up re rd m) (rd + 1) co (va_up dq rd l) (va_up bo rd bv) (va_up lc rd (tc_tk bk))) [(0, .ref (mm 0)), (1, .int (nI j)), (6, .int (nI m))] 445 [] := by
                  intro mug txg nw fv pv q1 q2 q3 q4
                  refine x_iload_n C dM_readNode_445 rfl 1 rfl ?_
                  rcases q1 with ⟨rfl, rfl, x, q5, q6⟩ | ⟨q5, q6, q, rfl, q7⟩
                  ·
                    have hxk := tc_rE_k q5
                    refine x_if_ltN (tgt := 498) C (by omega) dM_readNode_446 (by decide) ?_
                    refine x_aload_n C dM_readNode_449 rfl 0 rfl ?_
                    refine x_get C fgM_62 0 rfl rfl dM_readNode_450 ?_
                    refine x_iload_n C dM_readNode_453 rfl 1 rfl ?_
                    refine x_ild C 16 15 rfl rfl (by omega) (by decide) dM_readNode_454 ?_
                    show xk_Go K D 9 0 0 (tc_wM mm cmm th (va_up iu m true) (va_up ki m bk) mug (va_up fs m none) (va_up ss m none) txg (us + 1) te my mo mz mi iz ma 0 none od ar lw oc sk sa sl nw (va_up re rd m) (rd + 1) co (va_up dq rd l) (va_up bo rd bv) (va_up lc rd (tc_tk bk))) [(0, .ref (mm 0)), (1, .int (nI j)), (6, .int (nI m))] 455 [.int (nI ((va_up re rd m) j))]
                    rw [va_up_ne _ _ (show j ≠ rd by omega), hro]
                    refine x_istore C [(7, .int (nI o)), (0, .ref (mm 0)), (1, .int (nI j)), (6, .int (nI m))] dM_readNode_455 (by decide) rfl ?_
                    refine x_aload_n C dM_readNode_457 rfl 1 rfl ?_
                    refine x_get C fgM_74 0 rfl rfl dM_readNode_458 ?_
                    refine x_iload_n C dM_readNode_461 rfl 2 rfl ?_
                    refine x_dup2 C dM_readNode_462 rfl rfl ?_
                    refine x_ild C 20 19 rfl rfl (by omega) (by decide) dM_readNode_463 ?_
                    show xk_Go K D 9 0 0 (tc_wM mm cmm th (va_up iu m true) (va_up ki m bk) mug (va_up fs m none) (va_up ss m none) txg (us + 1) te my mo mz mi iz ma 0 none od ar lw oc sk sa sl nw (va_up re rd m) (rd + 1) co (va_up dq rd l) (va_up bo rd bv) (va_up lc rd (tc_tk bk))) [(7, .int (nI o)), (0, .ref (mm 0)), (1, .int (nI j)), (6, .int (nI m))] 464 [.int (nI ((va_up lc rd (tc_tk bk)) j)), .int (nI j), .ref (mm 20)]
                    rw [va_up_ne _ _ (show j ≠ rd by omega)]
                    refine x_iconst (v := nI 1) C dM_readNode_464 (by decide) ?_
                    refine x_isubN C (by omega) dM_readNode_465 ?_
                    refine x_ist C 20 19 (tc_wM mm cmm th (va_up iu m true) (va_up ki m bk) mug (va_up fs m none) (va_up ss m none) txg (us + 1) te my mo mz mi iz ma 0 none od ar lw oc sk sa sl nw (va_up re rd m) (rd + 1) co (va_up dq rd l) (va_up bo rd bv) (va_up (va_up lc rd (tc_tk bk)) j (lc j - 1))) rfl rfl (xk_nA_up (va_up lc rd (tc_tk bk)) j (lc j - 1)) rfl (by omega) (by decide) dM_readNode_466 ?_
                    refine x_aload_n C dM_readNode_467 rfl 1 rfl ?_
                    refine x_get C fgM_21 0 rfl rfl dM_readNode_468 ?_
                    refine x_iload C dM_readNode_471 0 rfl ?_
                    refine x_ild C 4 3 rfl rfl (by omega) (by decide) dM_readNode_473 ?_
                    show xk_Go K D 9 0 0 (tc_wM mm cmm th (va_up iu m true) (va_up ki m bk) mug (va_up fs m none) (va_up ss m none) txg (us + 1) te my mo mz mi iz ma 0 none od ar lw oc sk sa sl nw (va_up re rd m) (rd + 1) co (va_up dq rd l) (va_up bo rd bv) (va_up (va_up lc rd (tc_tk bk)) j (lc j - 1))) [(7, .int (nI o)), (0, .ref (mm 0)), (1, .int (nI j)), (6, .int (nI m))] 474 [.int (xk_oI ((va_up fs m none) o))]
                    rw [va_up_ne _ _ (show o ≠ m from fun e => by rw [e, g2m] at hom; cases hom)]
                    refine x_if_geO (tgt := 489) C (fun v hv => by have := ho2 v hv; omega) dM_readNode_474 (by decide) (fun ov h474 => ?_) (fun h474 => ?_)
                    ·
                      refine x_aload_n C dM_readNode_489 rfl 1 rfl ?_
                      refine x_get C fgM_24 0 rfl rfl dM_readNode_490 ?_
                      refine x_iload C dM_readNode_493 0 rfl ?_
                      refine x_iload C dM_readNode_495 3 rfl ?_
                      refine x_ist C 5 4 (tc_wM mm cmm th (va_up iu m true) (va_up ki m bk) mug (va_up fs m none) (va_up (va_up ss m none) o (some m)) txg (us + 1) te my mo mz mi iz ma 0 none od ar lw oc sk sa sl nw (va_up re rd m) (rd + 1) co (va_up dq rd l) (va_up bo rd bv) (va_up (va_up lc rd (tc_tk bk)) j (lc j - 1))) rfl rfl (xk_oA_up (va_up ss m none) o (some m)) rfl (by omega) (by decide) dM_readNode_497 ?_
                      exact x_vret C T rfl dM_readNode_498 (Or.inl (⟨x, _, m, _, _, _, _, _, rfl, by rw [hxk, ← hbv], ((tc_rN_E (Nat.not_le.mpr g2t) (show ¬ 11 < mi pp % 256 by omega) (by omega) (by omega)).trans (by show tc_rE (tc_B mi) iz (mi pp % 256) pp b (pp + 1) = _; rw [← hbk]; exact q5)), (⟨g1m, g2m⟩), (by rw [hxk]; exact q6), q2, q3, (fun z => by cases z), (fun j2 z => by injection z with z; subst z; exact ⟨o, ho, by rw [hxk], Or.inr ⟨(by rw [h474]; simp), rfl, rfl⟩⟩), q4.1, q4.2⟩))
                    ·
                      refine x_aload_n C dM_readNode_477 rfl 1 rfl ?_
                      refine x_get C fgM_21 0 rfl rfl dM_readNode_478 ?_
                      refine x_iload C dM_readNode_481 0 rfl ?_
                      refine x_iload C dM_readNode_483 3 rfl ?_
                      refine x_ist C 4 3 (tc_wM mm cmm th (va_up iu m true) (va_up ki m bk) mug (va_up (va_up fs m none) o (some m)) (va_up ss m none) txg (us + 1) te my mo mz mi iz ma 0 none od ar lw oc sk sa sl nw (va_up re rd m) (rd + 1) co (va_up dq rd l) (va_up bo rd bv) (va_up (va_up lc rd (tc_tk bk)) j (lc j - 1))) rfl rfl (xk_oA_up (va_up fs m none) o (some m)) rfl (by omega) (by decide) dM_readNode_485 ?_
                      refine x_goto C 498 dM_readNode_486 (by decide) ?_
                      exact x_vret C T rfl dM_readNode_498 (Or.inl (⟨x, _, m, _, _, _, _, _, rfl, by rw [hxk, ← hbv], ((tc_rN_E (Nat.not_le.mpr g2t) (show ¬ 11 < mi pp % 256 by omega) (by omega) (by omega)).trans (by show tc_rE (tc_B mi) iz (mi pp % 256) pp b (pp + 1) = _; rw [← hbk]; exact q5)), (⟨g1m, g2m⟩), (by rw [hxk]; exact q6), q2, q3, (fun z => by cases z), (fun j2 z => by injection z with z; subst z; exact ⟨o, ho, by rw [hxk], Or.inl ⟨h474, rfl, rfl⟩⟩), q4.1, q4.2⟩))
                  ·
                    refine x_if_ltN (tgt := 498) C (by omega) dM_readNode_446 (by decide) ?_
                    refine x_aload_n C dM_readNode_449 rfl 0 rfl ?_
                    refine x_get C fgM_62 0 rfl rfl dM_readNode_450 ?_
                    refine x_iload_n C dM_readNode_453 rfl 1 rfl ?_
                    refine x_ild C 16 15 rfl rfl (by omega) (by decide) dM_readNode_454 ?_
                    show xk_Go K D 9 0 0 (tc_wM mm cmm th (va_up iu m true) (va_up ki m bk) mug (va_up fs m none) (va_up ss m none) txg (us + 1) te my mo mz mi iz ma fv (some q) od ar lw oc sk sa sl nw (va_up re rd m) (rd + 1) co (va_up dq rd l) (va_up bo rd bv) (va_up lc rd (tc_tk bk))) [(0, .ref (mm 0)), (1, .int (nI j)), (6, .int (nI m))] 455 [.int (nI ((va_up re rd m) j))]
                    rw [va_up_ne _ _ (show j ≠ rd by omega), hro]
                    refine x_istore C [(7, .int (nI o)), (0, .ref (mm 0)), (1, .int (nI j)), (6, .int (nI m))] dM_readNode_455 (by decide) rfl ?_
                    refine x_aload_n C dM_readNode_457 rfl 1 rfl ?_
                    refine x_get C fgM_74 0 rfl rfl dM_readNode_458 ?_
                    refine x_iload_n C dM_readNode_461 rfl 2 rfl ?_
                    refine x_dup2 C dM_readNode_462 rfl rfl ?_
                    refine x_ild C 20 19 rfl rfl (by omega) (by decide) dM_readNode_463 ?_
                    show xk_Go K D 9 0 0 (tc_wM mm cmm th (va_up iu m true) (va_up ki m bk) mug (va_up fs m none) (va_up ss m none) txg (us + 1) te my mo mz mi iz ma fv (some q) od ar lw oc sk sa sl nw (va_up re rd m) (rd + 1) co (va_up dq rd l) (va_up bo rd bv) (va_up lc rd (tc_tk bk))) [(7, .int (nI o)), (0, .ref (mm 0)), (1, .int (nI j)), (6, .int (nI m))] 464 [.int (nI ((va_up lc rd (tc_tk bk)) j)), .int (nI j), .ref (mm 20)]
                    rw [va_up_ne _ _ (show j ≠ rd by omega)]
                    refine x_iconst (v := nI 1) C dM_readNode_464 (by decide) ?_
                    refine x_isubN C (by omega) dM_readNode_465 ?_
                    refine x_ist C 20 19 (tc_wM mm cmm th (va_up iu m true) (va_up ki m bk) mug (va_up fs m none) (va_up ss m none) txg (us + 1) te my mo mz mi iz ma fv (some q) od ar lw oc sk sa sl nw (va_up re rd m) (rd + 1) co (va_up dq rd l) (va_up bo rd bv) (va_up (va_up lc rd (tc_tk bk)) j (lc j - 1))) rfl rfl (xk_nA_up (va_up lc rd (tc_tk bk)) j (lc j - 1)) rfl (by omega) (by decide) dM_readNode_466 ?_
                    refine x_aload_n C dM_readNode_467 rfl 1 rfl ?_
                    refine x_get C fgM_21 0 rfl rfl dM_readNode_468 ?_
                    refine x_iload C dM_readNode_471 0 rfl ?_
                    refine x_ild C 4 3 rfl rfl (by omega) (by decide) dM_readNode_473 ?_
                    show xk_Go K D 9 0 0 (tc_wM mm cmm th (va_up iu m true) (va_up ki m bk) mug (va_up fs m none) (va_up ss m none) txg (us + 1) te my mo mz mi iz ma fv (some q) od ar lw oc sk sa sl nw (va_up re rd m) (rd + 1) co (va_up dq rd l) (va_up bo rd bv) (va_up (va_up lc rd (tc_tk bk)) j (lc j - 1))) [(7, .int (nI o)), (0, .ref (mm 0)), (1, .int (nI j)), (6, .int (nI m))] 474 [.int (xk_oI ((va_up fs m none) o))]
                    rw [va_up_ne _ _ (show o ≠ m from fun e => by rw [e, g2m] at hom; cases hom)]
                    refine x_if_geO (tgt := 489) C (fun v hv => by have := ho2 v hv; omega) dM_readNode_474 (by decide) (fun ov h474 => ?_) (fun h474 => ?_)
                    ·
                      refine x_aload_n C dM_readNode_489 rfl 1 rfl ?_
                      refine x_get C fgM_24 0 rfl rfl dM_readNode_490 ?_
                      refine x_iload C dM_readNode_493 0 rfl ?_
                      refine x_iload C dM_readNode_495 3 rfl ?_
                      refine x_ist C 5 4 (tc_wM mm cmm th (va_up iu m true) (va_up ki m bk) mug (va_up fs m none) (va_up (va_up ss m none) o (some m)) txg (us + 1) te my mo mz mi iz ma fv (some q) od ar lw oc sk sa sl nw (va_up re rd m) (rd + 1) co (va_up dq rd l) (va_up bo rd bv) (va_up (va_up lc rd (tc_tk bk)) j (lc j - 1))) rfl rfl (xk_oA_up (va_up ss m none) o (some m)) rfl (by omega) (by decide) dM_readNode_497 ?_
                      exact x_vret C T rfl dM_readNode_498 (Or.inr (⟨fv, q, _, _, _, _, _, _, _, _, _, _, _, _, _, rfl, rfl, ((tc_rN_E (Nat.not_le.mpr g2t) (show ¬ 11 < mi pp % 256 by omega) (by omega) (by omega)).trans (by show tc_rE (tc_B mi) iz (mi pp % 256) pp b (pp + 1) = _; rw [← hbk]; exact q7)), (⟨q5, q6⟩), (⟨ids ++ [m], tc_PF_new y3 g1m g2m (fun i hi him => ⟨va_up_ne _ _ him, q2 i him, va_up_ne _ _ him, (va_up_ne _ _ (show i ≠ o from fun e => hi (e ▸ List.mem_of_getElem? ho))).trans (va_up_ne _ _ him), q3 i him⟩), by rw [List.length_append, List.length_singleton]; omega, by rw [List.length_append, List.length_singleton]; omega, by rw [y4]; exact tc_co1 y5⟩), q4.1, q4.2⟩))
                    ·
                      refine x_aload_n C dM_readNode_477 rfl 1 rfl ?_
                      refine x_get C fgM_21 0 rfl rfl dM_readNode_478 ?_
                      refine x_iload C dM_readNode_481 0 rfl ?_
                      refine x_iload C dM_readNode_483 3 rfl ?_
                      refine x_ist C 4 3 (tc_wM mm cmm th (va_up iu m true) (va_up ki m bk) mug (va_up (va_up fs m none) o (some m)) (va_up ss m none) txg (us + 1) te my mo mz mi iz ma fv (some q) od ar lw oc sk sa sl nw (va_up re rd m) (rd + 1) co (va_up dq rd l) (va_up bo rd bv) (va_up (va_up lc rd (tc_tk bk)) j (lc j - 1))) rfl rfl (xk_oA_up (va_up fs m none) o (some m)) rfl (by omega) (by decide) dM_readNode_485 ?_
                      refine x_goto C 498 dM_readNode_486 (by decide) ?_
                      exact x_vret C T rfl dM_readNode_498 (Or.inr (⟨fv, q, _, _, _, _, _, _, _, _, _, _, _, _, _, rfl, rfl, ((tc_rN_E (Nat.not_le.mpr g2t) (show ¬ 11 < mi pp % 256 by omega) (by omega) (by omega)).trans (by show tc_rE (tc_B mi) iz (mi pp % 256) pp b (pp + 1) = _; rw [← hbk]; exact q7)), (⟨q5, q6⟩), (⟨ids ++ [m], tc_PF_new y3 g1m g2m (fun i hi him => ⟨va_up_ne _ _ him, q2 i him, (va_up_ne _ _ (show i ≠ o from fun e => hi (e ▸ List.mem_of_getElem? ho))).trans (va_up_ne _ _ him), va_up_ne _ _ him, q3 i him⟩), by rw [List.length_append, List.length_singleton]; omega, by rw [List.length_append, List.length_singleton]; omega, by rw [y4]; exact tc_co1 y5⟩), q4.1, q4.2⟩))
                refine x_iload_n C dM_readNode_197 rfl 3 rfl ?_
                rcases hk12 with rfl | rfl | rfl | rfl | rfl | rfl | rfl | rfl | rfl | rfl | rfl | rfl
                ·
                  refine x_if_ne (tgt := 286) C dM_readNode_198 (by decide) (fun h => absurd (by decide) h) (fun _ => ?_)
                  refine x_aload_n C dM_readNode_201 rfl 0 rfl ?_
                  refine x_get C fgM_17 0 rfl rfl dM_readNode_202 ?_
                  refine x_iload C dM_readNode_205 6 rfl ?_
                  refine x_aload_n C dM_readNode_207 rfl 0 rfl ?_
                  refine x_callV C (c_M_readU D mm cmm th (va_up iu m true) (va_up ki m 0) (vp_updL mu m 0) (va_up fs m none) (va_up ss m none) tx (us + 1) te my mo mz mi iz ma od ar lw oc sk sa sl (pp + 1) (va_up re rd m) (rd + 1) co (va_up dq rd l) (va_up bo rd bv) (va_up lc rd (tc_tk 0)) (by omega) y2 (by omega)) kbM_189 kcM_189 [0, 1, 2, 3, 4, 5, 6, 7, 8, 9, 10, 11, 12, 13, 14, 15, 16, 17, 18, 19, 20] [] [0, 1, 2, 3, 4, 5, 6, 7, 8, 9, 10, 11, 12, 13, 14, 15, 16, 17, 18, 19] ([]) rfl rfl (by decide) (by decide) (by decide) rfl 0 rfl rfl ⟨Nat.le_of_ble_eq_true rfl, Nat.le_of_ble_eq_true rfl⟩ ⟨Nat.le_of_ble_eq_true rfl, Nat.le_of_ble_eq_true rfl⟩ [.int (nI m), .ref (mm 3)] rfl rfl (Nat.le_of_ble_eq_true rfl) dM_readNode_208 (fun rv ru hw => ?_)
                  rcases hw with ⟨xv, nw, rfl, rfl, g1r, g2r, g3r⟩ | ⟨xv, nw, f, q, rfl, rfl, g1r, g2r, g3r, g4r⟩
                  ·
                    show xk_Go K D 9 0 0 (tc_wM mm cmm th (va_up iu m true) (va_up ki m 0) (vp_updL mu m 0) (va_up fs m none) (va_up ss m none) tx (us + 1) te my mo mz mi iz ma 0 none od ar lw oc sk sa sl nw (va_up re rd m) (rd + 1) co (va_up dq rd l) (va_up bo rd bv) (va_up lc rd (tc_tk 0))) [(0, .ref (mm 0)), (1, .int (nI j)), (2, .int (nI pp)), (3, .int (nI 0)), (4, .int (nI l)), (5, .int (nI b)), (6, .int (nI m))] 211 [.long xv, .int (nI m), .ref (mm 3)]
                    refine x_lst C 3 2 (tc_wM mm cmm th (va_up iu m true) (va_up ki m 0) (vp_updL (vp_updL mu m 0) m xv) (va_up fs m none) (va_up ss m none) tx (us + 1) te my mo mz mi iz ma 0 none od ar lw oc sk sa sl nw (va_up re rd m) (rd + 1) co (va_up dq rd l) (va_up bo rd bv) (va_up lc rd (tc_tk 0))) rfl rfl rfl rfl (by omega) (by decide) dM_readNode_211 ?_
                    refine x_aload_n C dM_readNode_212 rfl 0 rfl ?_
                    refine x_aload_n C dM_readNode_213 rfl 0 rfl ?_
                    refine x_get C fgM_165 0 rfl rfl dM_readNode_214 ?_
                    refine x_if_gt (tgt := 246) C dM_readNode_217 (by decide) (fun h => absurd h (by decide)) (fun _ => ?_)
                    refine x_aload_n C dM_readNode_220 rfl 0 rfl ?_
                    refine x_get C fgM_17 0 rfl rfl dM_readNode_221 ?_
                    refine x_iload C dM_readNode_224 6 rfl ?_
                    refine x_lld C 3 2 rfl rfl (by omega) (by decide) dM_readNode_226 ?_
                    rw [pk_uLs]
                    refine x_lconst (v := 1) C dM_readNode_227 (by decide) ?_
                    refine x_lcmp C dM_readNode_228 ?_
                    refine x_if_ltC (tgt := 250) C dM_readNode_229 (by decide) (fun h229 => ?_) (fun h229 => ?_)
                    ·
                      refine x_iconst (v := nI 0) C dM_readNode_250 (by decide) ?_
                      refine x_callV C (c_M_must D mm cmm th (va_up iu m true) (va_up ki m 0) (vp_updL (vp_updL mu m 0) m xv) (va_up fs m none) (va_up ss m none) tx (us + 1) te my mo mz mi iz ma 0 none od ar lw oc sk sa sl nw (va_up re rd m) (rd + 1) co (va_up dq rd l) (va_up bo rd bv) (va_up lc rd (tc_tk 0)) false (by first | decide | omega) (fun _ => by omega)) kbM_182 kcM_182 [0, 1, 2, 3, 4, 5, 6, 7, 8, 9, 10, 11, 12, 13, 14, 15, 16, 17, 18, 19, 20] [] [0, 1, 2, 3, 4, 5, 6, 7, 8, 9, 10, 11, 12, 13, 14, 15, 16, 17, 18, 19] ([]) rfl rfl (by decide) (by decide) (by decide) rfl 0 rfl rfl ⟨Nat.le_of_ble_eq_true rfl, Nat.le_of_ble_eq_true rfl⟩ ⟨Nat.le_of_ble_eq_true rfl, Nat.le_of_ble_eq_true rfl⟩ [] rfl rfl (Nat.le_of_ble_eq_true rfl) dM_readNode_251 (fun rv ru hw => ?_)
                      rcases hw with ⟨rfl, rfl, g1u⟩ | ⟨rfl, rfl, g1u⟩
                      ·
                        show xk_Go K D 9 0 0 (tc_wM mm cmm th (va_up iu m true) (va_up ki m 0) (vp_updL (vp_updL mu m 0) m xv) (va_up fs m none) (va_up ss m none) tx (us + 1) te my mo mz mi iz ma 0 none od ar lw oc sk sa sl nw (va_up re rd m) (rd + 1) co (va_up dq rd l) (va_up bo rd bv) (va_up lc rd (tc_tk 0))) [(0, .ref (mm 0)), (1, .int (nI j)), (2, .int (nI pp)), (3, .int (nI 0)), (4, .int (nI l)), (5, .int (nI b)), (6, .int (nI m))] 254 []
                        cases g1u
                      ·
                        show xk_Go K D 9 0 0 (tc_wM mm cmm th (va_up iu m true) (va_up ki m 0) (vp_updL (vp_updL mu m 0) m xv) (va_up fs m none) (va_up ss m none) tx (us + 1) te my mo mz mi iz ma (tc_f1 0 3) (tc_f2 0 none (nw - 1)) od ar lw oc sk sa sl nw (va_up re rd m) (rd + 1) co (va_up dq rd l) (va_up bo rd bv) (va_up lc rd (tc_tk 0))) [(0, .ref (mm 0)), (1, .int (nI j)), (2, .int (nI pp)), (3, .int (nI 0)), (4, .int (nI l)), (5, .int (nI b)), (6, .int (nI m))] 254 []
                        show xk_Go K D 9 0 0 (tc_wM mm cmm th (va_up iu m true) (va_up ki m 0) (vp_updL (vp_updL mu m 0) m xv) (va_up fs m none) (va_up ss m none) tx (us + 1) te my mo mz mi iz ma 3 (some (nw - 1)) od ar lw oc sk sa sl nw (va_up re rd m) (rd + 1) co (va_up dq rd l) (va_up bo rd bv) (va_up lc rd (tc_tk 0))) [(0, .ref (mm 0)), (1, .int (nI j)), (2, .int (nI pp)), (3, .int (nI 0)), (4, .int (nI l)), (5, .int (nI b)), (6, .int (nI m))] 254 []
                        refine x_aload_n C dM_readNode_254 rfl 0 rfl ?_
                        refine x_get C fgM_165 0 rfl rfl dM_readNode_255 ?_
                        refine x_if_ne (tgt := 445) C dM_readNode_258 (by decide) (fun _ => ?_) (fun h => absurd h (by decide))
                        exact x_sub [0, 1, 6] rfl (jn445 (vp_updL (vp_updL mu m 0) m xv) tx nw 3 (some (nw - 1)) (Or.inr ⟨by first | decide | omega, by first | decide | omega, _, rfl, tc_rE_3 (tc_rV_0.trans g1r) (tc_fit_f (fun z => by first | exact absurd h229 (Int64.not_lt.mpr ((tc_fa_0 rfl).mp z).1) | exact absurd h243 (Int64.not_lt.mpr ((tc_fa_0 rfl).mp z).2)))⟩) (fun i hi => (pk_uLn hi).trans (pk_uLn hi)) (fun i hi t ht => rfl) (⟨by omega, by omega⟩))
                    ·
                      refine x_aload_n C dM_readNode_232 rfl 0 rfl ?_
                      refine x_get C fgM_17 0 rfl rfl dM_readNode_233 ?_
                      refine x_iload C dM_readNode_236 6 rfl ?_
                      refine x_lld C 3 2 rfl rfl (by omega) (by decide) dM_readNode_238 ?_
                      rw [pk_uLs]
                      refine x_ldc2 (v := 200) C dM_readNode_239 klM_97 ?_
                      refine x_lcmp C dM_readNode_242 ?_
                      refine x_if_gtC (tgt := 250) C dM_readNode_243 (by decide) (fun h243 => ?_) (fun h243 => ?_)
                      ·
                        refine x_iconst (v := nI 0) C dM_readNode_250 (by decide) ?_
                        refine x_callV C (c_M_must D mm cmm th (va_up iu m true) (va_up ki m 0) (vp_updL (vp_updL mu m 0) m xv) (va_up fs m none) (va_up ss m none) tx (us + 1) te my mo mz mi iz ma 0 none od ar lw oc sk sa sl nw (va_up re rd m) (rd + 1) co (va_up dq rd l) (va_up bo rd bv) (va_up lc rd (tc_tk 0)) false (by first | decide | omega) (fun _ => by omega)) kbM_182 kcM_182 [0, 1, 2, 3, 4, 5, 6, 7, 8, 9, 10, 11, 12, 13, 14, 15, 16, 17, 18, 19, 20] [] [0, 1, 2, 3, 4, 5, 6, 7, 8, 9, 10, 11, 12, 13, 14, 15, 16, 17, 18, 19] ([]) rfl rfl (by decide) (by decide) (by decide) rfl 0 rfl rfl ⟨Nat.le_of_ble_eq_true rfl, Nat.le_of_ble_eq_true rfl⟩ ⟨Nat.le_of_ble_eq_true rfl, Nat.le_of_ble_eq_true rfl⟩ [] rfl rfl (Nat.le_of_ble_eq_true rfl) dM_readNode_251 (fun rv ru hw => ?_)
                        rcases hw with ⟨rfl, rfl, g1u⟩ | ⟨rfl, rfl, g1u⟩
                        ·
                          show xk_Go K D 9 0 0 (tc_wM mm cmm th (va_up iu m true) (va_up ki m 0) (vp_updL (vp_updL mu m 0) m xv) (va_up fs m none) (va_up ss m none) tx (us + 1) te my mo mz mi iz ma 0 none od ar lw oc sk sa sl nw (va_up re rd m) (rd + 1) co (va_up dq rd l) (va_up bo rd bv) (va_up lc rd (tc_tk 0))) [(0, .ref (mm 0)), (1, .int (nI j)), (2, .int (nI pp)), (3, .int (nI 0)), (4, .int (nI l)), (5, .int (nI b)), (6, .int (nI m))] 254 []
                          cases g1u
                        ·
                          show xk_Go K D 9 0 0 (tc_wM mm cmm th (va_up iu m true) (va_up ki m 0) (vp_updL (vp_updL mu m 0) m xv) (va_up fs m none) (va_up ss m none) tx (us + 1) te my mo mz mi iz ma (tc_f1 0 3) (tc_f2 0 none (nw - 1)) od ar lw oc sk sa sl nw (va_up re rd m) (rd + 1) co (va_up dq rd l) (va_up bo rd bv) (va_up lc rd (tc_tk 0))) [(0, .ref (mm 0)), (1, .int (nI j)), (2, .int (nI pp)), (3, .int (nI 0)), (4, .int (nI l)), (5, .int (nI b)), (6, .int (nI m))] 254 []
                          show xk_Go K D 9 0 0 (tc_wM mm cmm th (va_up iu m true) (va_up ki m 0) (vp_updL (vp_updL mu m 0) m xv) (va_up fs m none) (va_up ss m none) tx (us + 1) te my mo mz mi iz ma 3 (some (nw - 1)) od ar lw oc sk sa sl nw (va_up re rd m) (rd + 1) co (va_up dq rd l) (va_up bo rd bv) (va_up lc rd (tc_tk 0))) [(0, .ref (mm 0)), (1, .int (nI j)), (2, .int (nI pp)), (3, .int (nI 0)), (4, .int (nI l)), (5, .int (nI b)), (6, .int (nI m))] 254 []
                          refine x_aload_n C dM_readNode_254 rfl 0 rfl ?_
                          refine x_get C fgM_165 0 rfl rfl dM_readNode_255 ?_
                          refine x_if_ne (tgt := 445) C dM_readNode_258 (by decide) (fun _ => ?_) (fun h => absurd h (by decide))
                          exact x_sub [0, 1, 6] rfl (jn445 (vp_updL (vp_updL mu m 0) m xv) tx nw 3 (some (nw - 1)) (Or.inr ⟨by first | decide | omega, by first | decide | omega, _, rfl, tc_rE_3 (tc_rV_0.trans g1r) (tc_fit_f (fun z => by first | exact absurd h229 (Int64.not_lt.mpr ((tc_fa_0 rfl).mp z).1) | exact absurd h243 (Int64.not_lt.mpr ((tc_fa_0 rfl).mp z).2)))⟩) (fun i hi => (pk_uLn hi).trans (pk_uLn hi)) (fun i hi t ht => rfl) (⟨by omega, by omega⟩))
                      ·
                        refine x_iconst (v := nI 1) C dM_readNode_246 (by decide) ?_
                        refine x_goto C 251 dM_readNode_247 (by decide) ?_
                        refine x_callV C (c_M_must D mm cmm th (va_up iu m true) (va_up ki m 0) (vp_updL (vp_updL mu m 0) m xv) (va_up fs m none) (va_up ss m none) tx (us + 1) te my mo mz mi iz ma 0 none od ar lw oc sk sa sl nw (va_up re rd m) (rd + 1) co (va_up dq rd l) (va_up bo rd bv) (va_up lc rd (tc_tk 0)) true (by first | decide | omega) (fun z => by cases z)) kbM_182 kcM_182 [0, 1, 2, 3, 4, 5, 6, 7, 8, 9, 10, 11, 12, 13, 14, 15, 16, 17, 18, 19, 20] [] [0, 1, 2, 3, 4, 5, 6, 7, 8, 9, 10, 11, 12, 13, 14, 15, 16, 17, 18, 19] ([]) rfl rfl (by decide) (by decide) (by decide) rfl 0 rfl rfl ⟨Nat.le_of_ble_eq_true rfl, Nat.le_of_ble_eq_true rfl⟩ ⟨Nat.le_of_ble_eq_true rfl, Nat.le_of_ble_eq_true rfl⟩ [] rfl rfl (Nat.le_of_ble_eq_true rfl) dM_readNode_251 (fun rv ru hw => ?_)
                        rcases hw with ⟨rfl, rfl, g1u⟩ | ⟨rfl, rfl, g1u⟩
                        ·
                          show xk_Go K D 9 0 0 (tc_wM mm cmm th (va_up iu m true) (va_up ki m 0) (vp_updL (vp_updL mu m 0) m xv) (va_up fs m none) (va_up ss m none) tx (us + 1) te my mo mz mi iz ma 0 none od ar lw oc sk sa sl nw (va_up re rd m) (rd + 1) co (va_up dq rd l) (va_up bo rd bv) (va_up lc rd (tc_tk 0))) [(0, .ref (mm 0)), (1, .int (nI j)), (2, .int (nI pp)), (3, .int (nI 0)), (4, .int (nI l)), (5, .int (nI b)), (6, .int (nI m))] 254 []
                          refine x_aload_n C dM_readNode_254 rfl 0 rfl ?_
                          refine x_get C fgM_165 0 rfl rfl dM_readNode_255 ?_
                          refine x_if_ne (tgt := 445) C dM_readNode_258 (by decide) (fun h => absurd (by decide) h) (fun _ => ?_)
                          refine x_aload_n C dM_readNode_261 rfl 0 rfl ?_
                          refine x_get C fgM_17 0 rfl rfl dM_readNode_262 ?_
                          refine x_iload C dM_readNode_265 6 rfl ?_
                          refine x_lld C 3 2 rfl rfl (by omega) (by decide) dM_readNode_267 ?_
                          rw [pk_uLs]
                          refine x_iload C dM_readNode_268 5 rfl ?_
                          refine x_i2l (v := lN b) C dM_readNode_270 (nI_l (by omega)) ?_
                          refine x_lcmp C dM_readNode_271 ?_
                          refine x_if_leC (tgt := 445) C dM_readNode_272 (by decide) (fun h272 => ?_) (fun h272 => ?_)
                          ·
                            exact x_sub [0, 1, 6] rfl (jn445 (vp_updL (vp_updL mu m 0) m xv) tx nw 0 none (Or.inl ⟨rfl, rfl, _, tc_rE_o (tc_rV_0.trans g1r) (tc_fit_t ((tc_fa_0 rfl).mpr ⟨Int64.not_lt.mp h229, Int64.not_lt.mp h243⟩)) (fun z => absurd z.2 (tc_le_la (by omega) h272)) (by decide), tc_mn_n8 (va_up_self _ _ _) pk_uLs (by decide)⟩) (fun i hi => (pk_uLn hi).trans (pk_uLn hi)) (fun i hi t ht => rfl) (⟨by omega, by omega⟩))
                          ·
                            refine x_aload_n C dM_readNode_275 rfl 0 rfl ?_
                            refine x_iconst (v := nI 4) C dM_readNode_276 (by decide) ?_
                            refine x_iload_n C dM_readNode_277 rfl 2 rfl ?_
                            refine x_callV C (c_M_wrong D mm cmm th (va_up iu m true) (va_up ki m 0) (vp_updL (vp_updL mu m 0) m xv) (va_up fs m none) (va_up ss m none) tx (us + 1) te my mo mz mi iz ma 0 none od ar lw oc sk sa sl nw (va_up re rd m) (rd + 1) co (va_up dq rd l) (va_up bo rd bv) (va_up lc rd (tc_tk 0)) 4 pp (by decide)) kbM_171 kcM_171 [0, 1, 2, 3, 4, 5, 6, 7, 8, 9, 10, 11, 12, 13, 14, 15, 16, 17, 18, 19, 20] [] [0, 1, 2, 3, 4, 5, 6, 7, 8, 9, 10, 11, 12, 13, 14, 15, 16, 17, 18, 19] ([]) rfl rfl (by decide) (by decide) (by decide) rfl 0 rfl rfl ⟨Nat.le_of_ble_eq_true rfl, Nat.le_of_ble_eq_true rfl⟩ ⟨Nat.le_of_ble_eq_true rfl, Nat.le_of_ble_eq_true rfl⟩ [] rfl rfl (Nat.le_of_ble_eq_true rfl) dM_readNode_278 (fun rv ru hw => ?_)
                            obtain ⟨rfl, rfl⟩ := hw
                            show xk_Go K D 9 0 0 (tc_wM mm cmm th (va_up iu m true) (va_up ki m 0) (vp_updL (vp_updL mu m 0) m xv) (va_up fs m none) (va_up ss m none) tx (us + 1) te my mo mz mi iz ma (tc_f1 0 4) (tc_f2 0 none pp) od ar lw oc sk sa sl nw (va_up re rd m) (rd + 1) co (va_up dq rd l) (va_up bo rd bv) (va_up lc rd (tc_tk 0))) [(0, .ref (mm 0)), (1, .int (nI j)), (2, .int (nI pp)), (3, .int (nI 0)), (4, .int (nI l)), (5, .int (nI b)), (6, .int (nI m))] 281 [.int (nI 0)]
                            show xk_Go K D 9 0 0 (tc_wM mm cmm th (va_up iu m true) (va_up ki m 0) (vp_updL (vp_updL mu m 0) m xv) (va_up fs m none) (va_up ss m none) tx (us + 1) te my mo mz mi iz ma 4 (some pp) od ar lw oc sk sa sl nw (va_up re rd m) (rd + 1) co (va_up dq rd l) (va_up bo rd bv) (va_up lc rd (tc_tk 0))) [(0, .ref (mm 0)), (1, .int (nI j)), (2, .int (nI pp)), (3, .int (nI 0)), (4, .int (nI l)), (5, .int (nI b)), (6, .int (nI m))] 281 [.int (nI 0)]
                            refine x_istore C [(7, .int (nI 0)), (0, .ref (mm 0)), (1, .int (nI j)), (2, .int (nI pp)), (3, .int (nI 0)), (4, .int (nI l)), (5, .int (nI b)), (6, .int (nI m))] dM_readNode_281 (by decide) rfl ?_
                            refine x_goto C 445 dM_readNode_283 (by decide) ?_
                            exact x_sub [1, 2, 7] rfl (jn445 (vp_updL (vp_updL mu m 0) m xv) tx nw 4 (some pp) (Or.inr ⟨by first | decide | omega, by first | decide | omega, _, rfl, tc_rE_4 (tc_rV_0.trans g1r) (tc_fit_t ((tc_fa_0 rfl).mpr ⟨Int64.not_lt.mp h229, Int64.not_lt.mp h243⟩)) rfl (tc_gt_la (by omega) h272)⟩) (fun i hi => (pk_uLn hi).trans (pk_uLn hi)) (fun i hi t ht => rfl) (⟨by omega, by omega⟩))
                        ·
                          show xk_Go K D 9 0 0 (tc_wM mm cmm th (va_up iu m true) (va_up ki m 0) (vp_updL (vp_updL mu m 0) m xv) (va_up fs m none) (va_up ss m none) tx (us + 1) te my mo mz mi iz ma (tc_f1 0 3) (tc_f2 0 none (nw - 1)) od ar lw oc sk sa sl nw (va_up re rd m) (rd + 1) co (va_up dq rd l) (va_up bo rd bv) (va_up lc rd (tc_tk 0))) [(0, .ref (mm 0)), (1, .int (nI j)), (2, .int (nI pp)), (3, .int (nI 0)), (4, .int (nI l)), (5, .int (nI b)), (6, .int (nI m))] 254 []
                          cases g1u
                  ·
                    show xk_Go K D 9 0 0 (tc_wM mm cmm th (va_up iu m true) (va_up ki m 0) (vp_updL mu m 0) (va_up fs m none) (va_up ss m none) tx (us + 1) te my mo mz mi iz ma f (some q) od ar lw oc sk sa sl nw (va_up re rd m) (rd + 1) co (va_up dq rd l) (va_up bo rd bv) (va_up lc rd (tc_tk 0))) [(0, .ref (mm 0)), (1, .int (nI j)), (2, .int (nI pp)), (3, .int (nI 0)), (4, .int (nI l)), (5, .int (nI b)), (6, .int (nI m))] 211 [.long xv, .int (nI m), .ref (mm 3)]
                    refine x_lst C 3 2 (tc_wM mm cmm th (va_up iu m true) (va_up ki m 0) (vp_updL (vp_updL mu m 0) m xv) (va_up fs m none) (va_up ss m none) tx (us + 1) te my mo mz mi iz ma f (some q) od ar lw oc sk sa sl nw (va_up re rd m) (rd + 1) co (va_up dq rd l) (va_up bo rd bv) (va_up lc rd (tc_tk 0))) rfl rfl rfl rfl (by omega) (by decide) dM_readNode_211 ?_
                    refine x_aload_n C dM_readNode_212 rfl 0 rfl ?_
                    refine x_aload_n C dM_readNode_213 rfl 0 rfl ?_
                    refine x_get C fgM_165 0 rfl rfl dM_readNode_214 ?_
                    refine x_if_gtN (tgt := 246) C (by omega) dM_readNode_217 (by decide) (fun h217 => ?_) (fun h217 => ?_)
                    ·
                      refine x_iconst (v := nI 1) C dM_readNode_246 (by decide) ?_
                      refine x_goto C 251 dM_readNode_247 (by decide) ?_
                      refine x_callV C (c_M_must D mm cmm th (va_up iu m true) (va_up ki m 0) (vp_updL (vp_updL mu m 0) m xv) (va_up fs m none) (va_up ss m none) tx (us + 1) te my mo mz mi iz ma f (some q) od ar lw oc sk sa sl nw (va_up re rd m) (rd + 1) co (va_up dq rd l) (va_up bo rd bv) (va_up lc rd (tc_tk 0)) true (by first | decide | omega) (fun z => by cases z)) kbM_182 kcM_182 [0, 1, 2, 3, 4, 5, 6, 7, 8, 9, 10, 11, 12, 13, 14, 15, 16, 17, 18, 19, 20] [] [0, 1, 2, 3, 4, 5, 6, 7, 8, 9, 10, 11, 12, 13, 14, 15, 16, 17, 18, 19] ([]) rfl rfl (by decide) (by decide) (by decide) rfl 0 rfl rfl ⟨Nat.le_of_ble_eq_true rfl, Nat.le_of_ble_eq_true rfl⟩ ⟨Nat.le_of_ble_eq_true rfl, Nat.le_of_ble_eq_true rfl⟩ [] rfl rfl (Nat.le_of_ble_eq_true rfl) dM_readNode_251 (fun rv ru hw => ?_)
                      rcases hw with ⟨rfl, rfl, g1u⟩ | ⟨rfl, rfl, g1u⟩
                      ·
                        show xk_Go K D 9 0 0 (tc_wM mm cmm th (va_up iu m true) (va_up ki m 0) (vp_updL (vp_updL mu m 0) m xv) (va_up fs m none) (va_up ss m none) tx (us + 1) te my mo mz mi iz ma f (some q) od ar lw oc sk sa sl nw (va_up re rd m) (rd + 1) co (va_up dq rd l) (va_up bo rd bv) (va_up lc rd (tc_tk 0))) [(0, .ref (mm 0)), (1, .int (nI j)), (2, .int (nI pp)), (3, .int (nI 0)), (4, .int (nI l)), (5, .int (nI b)), (6, .int (nI m))] 254 []
                        refine x_aload_n C dM_readNode_254 rfl 0 rfl ?_
                        refine x_get C fgM_165 0 rfl rfl dM_readNode_255 ?_
                        refine x_if_neN (tgt := 445) C (by omega) dM_readNode_258 (by decide) (fun h258 => ?_) (fun h258 => ?_)
                        ·
                          exact x_sub [0, 1, 6] rfl (jn445 (vp_updL (vp_updL mu m 0) m xv) tx nw f (some q) (Or.inr ⟨by first | decide | omega, by first | decide | omega, _, rfl, tc_rE_l (tc_rV_0.trans g1r)⟩) (fun i hi => (pk_uLn hi).trans (pk_uLn hi)) (fun i hi t ht => rfl) (⟨by omega, by omega⟩))
                        ·
                          exact absurd h258 (by omega)
                      ·
                        show xk_Go K D 9 0 0 (tc_wM mm cmm th (va_up iu m true) (va_up ki m 0) (vp_updL (vp_updL mu m 0) m xv) (va_up fs m none) (va_up ss m none) tx (us + 1) te my mo mz mi iz ma (tc_f1 f 3) (tc_f2 f (some q) (nw - 1)) od ar lw oc sk sa sl nw (va_up re rd m) (rd + 1) co (va_up dq rd l) (va_up bo rd bv) (va_up lc rd (tc_tk 0))) [(0, .ref (mm 0)), (1, .int (nI j)), (2, .int (nI pp)), (3, .int (nI 0)), (4, .int (nI l)), (5, .int (nI b)), (6, .int (nI m))] 254 []
                        cases g1u
                    ·
                      exact absurd h217 (by omega)
                ·
                  refine x_if_ne (tgt := 286) C dM_readNode_198 (by decide) (fun _ => ?_) (fun h => absurd h (by decide))
                  refine x_iload_n C dM_readNode_286 rfl 3 rfl ?_
                  refine x_bipush (v := nI 6) C dM_readNode_287 (by decide) ?_
                  refine x_icmp_eq (tgt := 298) C dM_readNode_289 (by decide) (fun h => absurd h (by decide)) (fun _ => ?_)
                  refine x_iload_n C dM_readNode_292 rfl 3 rfl ?_
                  refine x_bipush (v := nI 9) C dM_readNode_293 (by decide) ?_
                  refine x_icmp_ne (tgt := 355) C dM_readNode_295 (by decide) (fun _ => ?_) (fun h => absurd h (by decide))
                  refine x_iload_n C dM_readNode_355 rfl 3 rfl ?_
                  refine x_bipush (v := nI 7) C dM_readNode_356 (by decide) ?_
                  refine x_icmp_ne (tgt := 375) C dM_readNode_358 (by decide) (fun _ => ?_) (fun h => absurd h (by decide))
                  refine x_iload_n C dM_readNode_375 rfl 3 rfl ?_
                  refine x_bipush (v := nI 8) C dM_readNode_376 (by decide) ?_
                  refine x_icmp_ne (tgt := 445) C dM_readNode_378 (by decide) (fun _ => ?_) (fun h => absurd h (by decide))
                  exact x_sub [0, 1, 6] rfl (jn445 (vp_updL mu m 0) tx (pp + 1) 0 none (Or.inl ⟨rfl, rfl, _, tc_rE_o (x := 0) (q := pp + 1) rfl (tc_fit_t rfl) (fun z => absurd z.1 (by decide)) (by decide), tc_mn_n8 (va_up_self _ _ _) pk_uLs (by decide)⟩) (fun i hi => pk_uLn hi) (fun i hi t ht => rfl) (⟨by omega, by omega⟩))
                ·
                  refine x_if_ne (tgt := 286) C dM_readNode_198 (by decide) (fun _ => ?_) (fun h => absurd h (by decide))
                  refine x_iload_n C dM_readNode_286 rfl 3 rfl ?_
                  refine x_bipush (v := nI 6) C dM_readNode_287 (by decide) ?_
                  refine x_icmp_eq (tgt := 298) C dM_readNode_289 (by decide) (fun h => absurd h (by decide)) (fun _ => ?_)
                  refine x_iload_n C dM_readNode_292 rfl 3 rfl ?_
                  refine x_bipush (v := nI 9) C dM_readNode_293 (by decide) ?_
                  refine x_icmp_ne (tgt := 355) C dM_readNode_295 (by decide) (fun _ => ?_) (fun h => absurd h (by decide))
                  refine x_iload_n C dM_readNode_355 rfl 3 rfl ?_
                  refine x_bipush (v := nI 7) C dM_readNode_356 (by decide) ?_
                  refine x_icmp_ne (tgt := 375) C dM_readNode_358 (by decide) (fun _ => ?_) (fun h => absurd h (by decide))
                  refine x_iload_n C dM_readNode_375 rfl 3 rfl ?_
                  refine x_bipush (v := nI 8) C dM_readNode_376 (by decide) ?_
                  refine x_icmp_ne (tgt := 445) C dM_readNode_378 (by decide) (fun _ => ?_) (fun h => absurd h (by decide))
                  exact x_sub [0, 1, 6] rfl (jn445 (vp_updL mu m 0) tx (pp + 1) 0 none (Or.inl ⟨rfl, rfl, _, tc_rE_o (x := 0) (q := pp + 1) rfl (tc_fit_t rfl) (fun z => absurd z.1 (by decide)) (by decide), tc_mn_n8 (va_up_self _ _ _) pk_uLs (by decide)⟩) (fun i hi => pk_uLn hi) (fun i hi t ht => rfl) (⟨by omega, by omega⟩))
                ·
                  refine x_if_ne (tgt := 286) C dM_readNode_198 (by decide) (fun _ => ?_) (fun h => absurd h (by decide))
                  refine x_iload_n C dM_readNode_286 rfl 3 rfl ?_
                  refine x_bipush (v := nI 6) C dM_readNode_287 (by decide) ?_
                  refine x_icmp_eq (tgt := 298) C dM_readNode_289 (by decide) (fun h => absurd h (by decide)) (fun _ => ?_)
                  refine x_iload_n C dM_readNode_292 rfl 3 rfl ?_
                  refine x_bipush (v := nI 9) C dM_readNode_293 (by decide) ?_
                  refine x_icmp_ne (tgt := 355) C dM_readNode_295 (by decide) (fun _ => ?_) (fun h => absurd h (by decide))
                  refine x_iload_n C dM_readNode_355 rfl 3 rfl ?_
                  refine x_bipush (v := nI 7) C dM_readNode_356 (by decide) ?_
                  refine x_icmp_ne (tgt := 375) C dM_readNode_358 (by decide) (fun _ => ?_) (fun h => absurd h (by decide))
                  refine x_iload_n C dM_readNode_375 rfl 3 rfl ?_
                  refine x_bipush (v := nI 8) C dM_readNode_376 (by decide) ?_
                  refine x_icmp_ne (tgt := 445) C dM_readNode_378 (by decide) (fun _ => ?_) (fun h => absurd h (by decide))
                  exact x_sub [0, 1, 6] rfl (jn445 (vp_updL mu m 0) tx (pp + 1) 0 none (Or.inl ⟨rfl, rfl, _, tc_rE_o (x := 0) (q := pp + 1) rfl (tc_fit_t rfl) (fun z => absurd z.1 (by decide)) (by decide), tc_mn_n8 (va_up_self _ _ _) pk_uLs (by decide)⟩) (fun i hi => pk_uLn hi) (fun i hi t ht => rfl) (⟨by omega, by omega⟩))
                ·
                  refine x_if_ne (tgt := 286) C dM_readNode_198 (by decide) (fun _ => ?_) (fun h => absurd h (by decide))
                  refine x_iload_n C dM_readNode_286 rfl 3 rfl ?_
                  refine x_bipush (v := nI 6) C dM_readNode_287 (by decide) ?_
                  refine x_icmp_eq (tgt := 298) C dM_readNode_289 (by decide) (fun h => absurd h (by decide)) (fun _ => ?_)
                  refine x_iload_n C dM_readNode_292 rfl 3 rfl ?_
                  refine x_bipush (v := nI 9) C dM_readNode_293 (by decide) ?_
                  refine x_icmp_ne (tgt := 355) C dM_readNode_295 (by decide) (fun _ => ?_) (fun h => absurd h (by decide))
                  refine x_iload_n C dM_readNode_355 rfl 3 rfl ?_
                  refine x_bipush (v := nI 7) C dM_readNode_356 (by decide) ?_
                  refine x_icmp_ne (tgt := 375) C dM_readNode_358 (by decide) (fun _ => ?_) (fun h => absurd h (by decide))
                  refine x_iload_n C dM_readNode_375 rfl 3 rfl ?_
                  refine x_bipush (v := nI 8) C dM_readNode_376 (by decide) ?_
                  refine x_icmp_ne (tgt := 445) C dM_readNode_378 (by decide) (fun _ => ?_) (fun h => absurd h (by decide))
                  exact x_sub [0, 1, 6] rfl (jn445 (vp_updL mu m 0) tx (pp + 1) 0 none (Or.inl ⟨rfl, rfl, _, tc_rE_o (x := 0) (q := pp + 1) rfl (tc_fit_t rfl) (fun z => absurd z.1 (by decide)) (by decide), tc_mn_n8 (va_up_self _ _ _) pk_uLs (by decide)⟩) (fun i hi => pk_uLn hi) (fun i hi t ht => rfl) (⟨by omega, by omega⟩))
                ·
                  refine x_if_ne (tgt := 286) C dM_readNode_198 (by decide) (fun _ => ?_) (fun h => absurd h (by decide))
                  refine x_iload_n C dM_readNode_286 rfl 3 rfl ?_
                  refine x_bipush (v := nI 6) C dM_readNode_287 (by decide) ?_
                  refine x_icmp_eq (tgt := 298) C dM_readNode_289 (by decide) (fun h => absurd h (by decide)) (fun _ => ?_)
                  refine x_iload_n C dM_readNode_292 rfl 3 rfl ?_
                  refine x_bipush (v := nI 9) C dM_readNode_293 (by decide) ?_
                  refine x_icmp_ne (tgt := 355) C dM_readNode_295 (by decide) (fun _ => ?_) (fun h => absurd h (by decide))
                  refine x_iload_n C dM_readNode_355 rfl 3 rfl ?_
                  refine x_bipush (v := nI 7) C dM_readNode_356 (by decide) ?_
                  refine x_icmp_ne (tgt := 375) C dM_readNode_358 (by decide) (fun _ => ?_) (fun h => absurd h (by decide))
                  refine x_iload_n C dM_readNode_375 rfl 3 rfl ?_
                  refine x_bipush (v := nI 8) C dM_readNode_376 (by decide) ?_
                  refine x_icmp_ne (tgt := 445) C dM_readNode_378 (by decide) (fun _ => ?_) (fun h => absurd h (by decide))
                  exact x_sub [0, 1, 6] rfl (jn445 (vp_updL mu m 0) tx (pp + 1) 0 none (Or.inl ⟨rfl, rfl, _, tc_rE_o (x := 0) (q := pp + 1) rfl (tc_fit_t rfl) (fun z => absurd z.1 (by decide)) (by decide), tc_mn_n8 (va_up_self _ _ _) pk_uLs (by decide)⟩) (fun i hi => pk_uLn hi) (fun i hi t ht => rfl) (⟨by omega, by omega⟩))
                ·
                  refine x_if_ne (tgt := 286) C dM_readNode_198 (by decide) (fun _ => ?_) (fun h => absurd h (by decide))
                  refine x_iload_n C dM_readNode_286 rfl 3 rfl ?_
                  refine x_bipush (v := nI 6) C dM_readNode_287 (by decide) ?_
                  refine x_icmp_eq (tgt := 298) C dM_readNode_289 (by decide) (fun _ => ?_) (fun h => absurd (by decide) h)
                  refine x_aload_n C dM_readNode_298 rfl 0 rfl ?_
                  refine x_get C fgM_17 0 rfl rfl dM_readNode_299 ?_
                  refine x_iload C dM_readNode_302 6 rfl ?_
                  refine x_aload_n C dM_readNode_304 rfl 0 rfl ?_
                  refine x_callV C (c_M_next D mm cmm th (va_up iu m true) (va_up ki m 6) (vp_updL mu m 0) (va_up fs m none) (va_up ss m none) tx (us + 1) te my mo mz mi iz ma 0 none od ar lw oc sk sa sl (pp + 1) (va_up re rd m) (rd + 1) co (va_up dq rd l) (va_up bo rd bv) (va_up lc rd (tc_tk 6)) (by omega) y2 (by decide)) kbM_175 kcM_175 [0, 1, 2, 3, 4, 5, 6, 7, 8, 9, 10, 11, 12, 13, 14, 15, 16, 17, 18, 19, 20] [] [0, 1, 2, 3, 4, 5, 6, 7, 8, 9, 10, 11, 12, 13, 14, 15, 16, 17, 18, 19] ([]) rfl rfl (by decide) (by decide) (by decide) rfl 0 rfl rfl ⟨Nat.le_of_ble_eq_true rfl, Nat.le_of_ble_eq_true rfl⟩ ⟨Nat.le_of_ble_eq_true rfl, Nat.le_of_ble_eq_true rfl⟩ [.int (nI m), .ref (mm 3)] rfl rfl (Nat.le_of_ble_eq_true rfl) dM_readNode_305 (fun rv ru hw => ?_)
                  rcases hw with ⟨rfl, rfl, g1n⟩ | ⟨rfl, rfl, g1n, g2n⟩ | ⟨rfl, rfl, g1n, g2n⟩
                  ·
                    show xk_Go K D 9 0 0 (tc_wM mm cmm th (va_up iu m true) (va_up ki m 6) (vp_updL mu m 0) (va_up fs m none) (va_up ss m none) tx (us + 1) te my mo mz mi iz ma 0 none od ar lw oc sk sa sl (pp + 1) (va_up re rd m) (rd + 1) co (va_up dq rd l) (va_up bo rd bv) (va_up lc rd (tc_tk 6))) [(0, .ref (mm 0)), (1, .int (nI j)), (2, .int (nI pp)), (3, .int (nI 6)), (4, .int (nI l)), (5, .int (nI b)), (6, .int (nI m))] 308 [.int (nI 0), .int (nI m), .ref (mm 3)]
                    exact absurd g1n (by decide)
                  ·
                    show xk_Go K D 9 0 0 (tc_wM mm cmm th (va_up iu m true) (va_up ki m 6) (vp_updL mu m 0) (va_up fs m none) (va_up ss m none) tx (us + 1) te my mo mz mi iz ma 1 (some iz) od ar lw oc sk sa sl (pp + 1) (va_up re rd m) (rd + 1) co (va_up dq rd l) (va_up bo rd bv) (va_up lc rd (tc_tk 6))) [(0, .ref (mm 0)), (1, .int (nI j)), (2, .int (nI pp)), (3, .int (nI 6)), (4, .int (nI l)), (5, .int (nI b)), (6, .int (nI m))] 308 [.int (nI 0), .int (nI m), .ref (mm 3)]
                    refine x_i2l (v := 0) C dM_readNode_308 (by decide) ?_
                    refine x_lst C 3 2 (tc_wM mm cmm th (va_up iu m true) (va_up ki m 6) (vp_updL (vp_updL mu m 0) m 0) (va_up fs m none) (va_up ss m none) tx (us + 1) te my mo mz mi iz ma 1 (some iz) od ar lw oc sk sa sl (pp + 1) (va_up re rd m) (rd + 1) co (va_up dq rd l) (va_up bo rd bv) (va_up lc rd (tc_tk 6))) rfl rfl rfl rfl (by omega) (by decide) dM_readNode_309 ?_
                    refine x_aload_n C dM_readNode_310 rfl 0 rfl ?_
                    refine x_aload_n C dM_readNode_311 rfl 0 rfl ?_
                    refine x_get C fgM_165 0 rfl rfl dM_readNode_312 ?_
                    refine x_if_gt (tgt := 344) C dM_readNode_315 (by decide) (fun _ => ?_) (fun h => absurd (by decide) h)
                    refine x_iconst (v := nI 1) C dM_readNode_344 (by decide) ?_
                    refine x_goto C 349 dM_readNode_345 (by decide) ?_
                    refine x_callV C (c_M_must D mm cmm th (va_up iu m true) (va_up ki m 6) (vp_updL (vp_updL mu m 0) m 0) (va_up fs m none) (va_up ss m none) tx (us + 1) te my mo mz mi iz ma 1 (some iz) od ar lw oc sk sa sl (pp + 1) (va_up re rd m) (rd + 1) co (va_up dq rd l) (va_up bo rd bv) (va_up lc rd (tc_tk 6)) true (by first | decide | omega) (fun z => by cases z)) kbM_182 kcM_182 [0, 1, 2, 3, 4, 5, 6, 7, 8, 9, 10, 11, 12, 13, 14, 15, 16, 17, 18, 19, 20] [] [0, 1, 2, 3, 4, 5, 6, 7, 8, 9, 10, 11, 12, 13, 14, 15, 16, 17, 18, 19] ([]) rfl rfl (by decide) (by decide) (by decide) rfl 0 rfl rfl ⟨Nat.le_of_ble_eq_true rfl, Nat.le_of_ble_eq_true rfl⟩ ⟨Nat.le_of_ble_eq_true rfl, Nat.le_of_ble_eq_true rfl⟩ [] rfl rfl (Nat.le_of_ble_eq_true rfl) dM_readNode_349 (fun rv ru hw => ?_)
                    rcases hw with ⟨rfl, rfl, g1u⟩ | ⟨rfl, rfl, g1u⟩
                    ·
                      show xk_Go K D 9 0 0 (tc_wM mm cmm th (va_up iu m true) (va_up ki m 6) (vp_updL (vp_updL mu m 0) m 0) (va_up fs m none) (va_up ss m none) tx (us + 1) te my mo mz mi iz ma 1 (some iz) od ar lw oc sk sa sl (pp + 1) (va_up re rd m) (rd + 1) co (va_up dq rd l) (va_up bo rd bv) (va_up lc rd (tc_tk 6))) [(0, .ref (mm 0)), (1, .int (nI j)), (2, .int (nI pp)), (3, .int (nI 6)), (4, .int (nI l)), (5, .int (nI b)), (6, .int (nI m))] 352 []
                      refine x_goto C 445 dM_readNode_352 (by decide) ?_
                      exact x_sub [0, 1, 6] rfl (jn445 (vp_updL (vp_updL mu m 0) m 0) tx (pp + 1) 1 (some iz) (Or.inr ⟨by first | decide | omega, by first | decide | omega, _, rfl, tc_rE_l (tc_rV_e (by decide) g2n)⟩) (fun i hi => (pk_uLn hi).trans (pk_uLn hi)) (fun i hi t ht => rfl) (⟨by omega, by omega⟩))
                    ·
                      show xk_Go K D 9 0 0 (tc_wM mm cmm th (va_up iu m true) (va_up ki m 6) (vp_updL (vp_updL mu m 0) m 0) (va_up fs m none) (va_up ss m none) tx (us + 1) te my mo mz mi iz ma (tc_f1 1 3) (tc_f2 1 (some iz) ((pp + 1) - 1)) od ar lw oc sk sa sl (pp + 1) (va_up re rd m) (rd + 1) co (va_up dq rd l) (va_up bo rd bv) (va_up lc rd (tc_tk 6))) [(0, .ref (mm 0)), (1, .int (nI j)), (2, .int (nI pp)), (3, .int (nI 6)), (4, .int (nI l)), (5, .int (nI b)), (6, .int (nI m))] 352 []
                      cases g1u
                  ·
                    show xk_Go K D 9 0 0 (tc_wM mm cmm th (va_up iu m true) (va_up ki m 6) (vp_updL mu m 0) (va_up fs m none) (va_up ss m none) tx (us + 1) te my mo mz mi iz ma 0 none od ar lw oc sk sa sl ((pp + 1) + 1) (va_up re rd m) (rd + 1) co (va_up dq rd l) (va_up bo rd bv) (va_up lc rd (tc_tk 6))) [(0, .ref (mm 0)), (1, .int (nI j)), (2, .int (nI pp)), (3, .int (nI 6)), (4, .int (nI l)), (5, .int (nI b)), (6, .int (nI m))] 308 [.int (nI (mi (pp + 1) % 256)), .int (nI m), .ref (mm 3)]
                    refine x_i2l (v := lN (mi (pp + 1) % 256)) C dM_readNode_308 (nI_l (by omega)) ?_
                    refine x_lst C 3 2 (tc_wM mm cmm th (va_up iu m true) (va_up ki m 6) (vp_updL (vp_updL mu m 0) m (lN (mi (pp + 1) % 256))) (va_up fs m none) (va_up ss m none) tx (us + 1) te my mo mz mi iz ma 0 none od ar lw oc sk sa sl ((pp + 1) + 1) (va_up re rd m) (rd + 1) co (va_up dq rd l) (va_up bo rd bv) (va_up lc rd (tc_tk 6))) rfl rfl rfl rfl (by omega) (by decide) dM_readNode_309 ?_
                    refine x_aload_n C dM_readNode_310 rfl 0 rfl ?_
                    refine x_aload_n C dM_readNode_311 rfl 0 rfl ?_
                    refine x_get C fgM_165 0 rfl rfl dM_readNode_312 ?_
                    refine x_if_gt (tgt := 344) C dM_readNode_315 (by decide) (fun h => absurd h (by decide)) (fun _ => ?_)
                    refine x_aload_n C dM_readNode_318 rfl 0 rfl ?_
                    refine x_get C fgM_17 0 rfl rfl dM_readNode_319 ?_
                    refine x_iload C dM_readNode_322 6 rfl ?_
                    refine x_lld C 3 2 rfl rfl (by omega) (by decide) dM_readNode_324 ?_
                    rw [pk_uLs]
                    refine x_iload_n C dM_readNode_325 rfl 3 rfl ?_
                    refine x_bipush (v := nI 6) C dM_readNode_326 (by decide) ?_
                    refine x_icmp_ne (tgt := 337) C dM_readNode_328 (by decide) (fun h => absurd (by decide) h) (fun _ => ?_)
                    refine x_ldc2 (v := 32) C dM_readNode_331 klM_193 ?_
                    refine x_goto C 340 dM_readNode_334 (by decide) ?_
                    refine x_lcmp C dM_readNode_340 ?_
                    refine x_if_geC (tgt := 348) C dM_readNode_341 (by decide) (fun h341 => ?_) (fun h341 => ?_)
                    ·
                      refine x_iconst (v := nI 0) C dM_readNode_348 (by decide) ?_
                      refine x_callV C (c_M_must D mm cmm th (va_up iu m true) (va_up ki m 6) (vp_updL (vp_updL mu m 0) m (lN (mi (pp + 1) % 256))) (va_up fs m none) (va_up ss m none) tx (us + 1) te my mo mz mi iz ma 0 none od ar lw oc sk sa sl ((pp + 1) + 1) (va_up re rd m) (rd + 1) co (va_up dq rd l) (va_up bo rd bv) (va_up lc rd (tc_tk 6)) false (by first | decide | omega) (fun _ => by omega)) kbM_182 kcM_182 [0, 1, 2, 3, 4, 5, 6, 7, 8, 9, 10, 11, 12, 13, 14, 15, 16, 17, 18, 19, 20] [] [0, 1, 2, 3, 4, 5, 6, 7, 8, 9, 10, 11, 12, 13, 14, 15, 16, 17, 18, 19] ([]) rfl rfl (by decide) (by decide) (by decide) rfl 0 rfl rfl ⟨Nat.le_of_ble_eq_true rfl, Nat.le_of_ble_eq_true rfl⟩ ⟨Nat.le_of_ble_eq_true rfl, Nat.le_of_ble_eq_true rfl⟩ [] rfl rfl (Nat.le_of_ble_eq_true rfl) dM_readNode_349 (fun rv ru hw => ?_)
                      rcases hw with ⟨rfl, rfl, g1u⟩ | ⟨rfl, rfl, g1u⟩
                      ·
                        show xk_Go K D 9 0 0 (tc_wM mm cmm th (va_up iu m true) (va_up ki m 6) (vp_updL (vp_updL mu m 0) m (lN (mi (pp + 1) % 256))) (va_up fs m none) (va_up ss m none) tx (us + 1) te my mo mz mi iz ma 0 none od ar lw oc sk sa sl ((pp + 1) + 1) (va_up re rd m) (rd + 1) co (va_up dq rd l) (va_up bo rd bv) (va_up lc rd (tc_tk 6))) [(0, .ref (mm 0)), (1, .int (nI j)), (2, .int (nI pp)), (3, .int (nI 6)), (4, .int (nI l)), (5, .int (nI b)), (6, .int (nI m))] 352 []
                        cases g1u
                      ·
                        show xk_Go K D 9 0 0 (tc_wM mm cmm th (va_up iu m true) (va_up ki m 6) (vp_updL (vp_updL mu m 0) m (lN (mi (pp + 1) % 256))) (va_up fs m none) (va_up ss m none) tx (us + 1) te my mo mz mi iz ma (tc_f1 0 3) (tc_f2 0 none (((pp + 1) + 1) - 1)) od ar lw oc sk sa sl ((pp + 1) + 1) (va_up re rd m) (rd + 1) co (va_up dq rd l) (va_up bo rd bv) (va_up lc rd (tc_tk 6))) [(0, .ref (mm 0)), (1, .int (nI j)), (2, .int (nI pp)), (3, .int (nI 6)), (4, .int (nI l)), (5, .int (nI b)), (6, .int (nI m))] 352 []
                        show xk_Go K D 9 0 0 (tc_wM mm cmm th (va_up iu m true) (va_up ki m 6) (vp_updL (vp_updL mu m 0) m (lN (mi (pp + 1) % 256))) (va_up fs m none) (va_up ss m none) tx (us + 1) te my mo mz mi iz ma 3 (some ((pp + 1) + 1 - 1)) od ar lw oc sk sa sl ((pp + 1) + 1) (va_up re rd m) (rd + 1) co (va_up dq rd l) (va_up bo rd bv) (va_up lc rd (tc_tk 6))) [(0, .ref (mm 0)), (1, .int (nI j)), (2, .int (nI pp)), (3, .int (nI 6)), (4, .int (nI l)), (5, .int (nI b)), (6, .int (nI m))] 352 []
                        refine x_goto C 445 dM_readNode_352 (by decide) ?_
                        exact x_sub [0, 1, 6] rfl (jn445 (vp_updL (vp_updL mu m 0) m (lN (mi (pp + 1) % 256))) tx ((pp + 1) + 1) 3 (some ((pp + 1) + 1 - 1)) (Or.inr ⟨by first | decide | omega, by first | decide | omega, _, rfl, tc_rE_3 (tc_rV_b (by decide) g2n) (tc_fit_f (fun z => by have z1 := (tc_fit6 (c := mi (pp + 1) % 256) (by omega)).mp z; have z2 := (pk_lLE (a := 32) (b := mi (pp + 1) % 256) (by decide) (by omega)).mp h341; omega))⟩) (fun i hi => (pk_uLn hi).trans (pk_uLn hi)) (fun i hi t ht => rfl) (⟨by omega, by omega⟩))
                    ·
                      refine x_iconst (v := nI 1) C dM_readNode_344 (by decide) ?_
                      refine x_goto C 349 dM_readNode_345 (by decide) ?_
                      refine x_callV C (c_M_must D mm cmm th (va_up iu m true) (va_up ki m 6) (vp_updL (vp_updL mu m 0) m (lN (mi (pp + 1) % 256))) (va_up fs m none) (va_up ss m none) tx (us + 1) te my mo mz mi iz ma 0 none od ar lw oc sk sa sl ((pp + 1) + 1) (va_up re rd m) (rd + 1) co (va_up dq rd l) (va_up bo rd bv) (va_up lc rd (tc_tk 6)) true (by first | decide | omega) (fun z => by cases z)) kbM_182 kcM_182 [0, 1, 2, 3, 4, 5, 6, 7, 8, 9, 10, 11, 12, 13, 14, 15, 16, 17, 18, 19, 20] [] [0, 1, 2, 3, 4, 5, 6, 7, 8, 9, 10, 11, 12, 13, 14, 15, 16, 17, 18, 19] ([]) rfl rfl (by decide) (by decide) (by decide) rfl 0 rfl rfl ⟨Nat.le_of_ble_eq_true rfl, Nat.le_of_ble_eq_true rfl⟩ ⟨Nat.le_of_ble_eq_true rfl, Nat.le_of_ble_eq_true rfl⟩ [] rfl rfl (Nat.le_of_ble_eq_true rfl) dM_readNode_349 (fun rv ru hw => ?_)
                      rcases hw with ⟨rfl, rfl, g1u⟩ | ⟨rfl, rfl, g1u⟩
                      ·
                        show xk_Go K D 9 0 0 (tc_wM mm cmm th (va_up iu m true) (va_up ki m 6) (vp_updL (vp_updL mu m 0) m (lN (mi (pp + 1) % 256))) (va_up fs m none) (va_up ss m none) tx (us + 1) te my mo mz mi iz ma 0 none od ar lw oc sk sa sl ((pp + 1) + 1) (va_up re rd m) (rd + 1) co (va_up dq rd l) (va_up bo rd bv) (va_up lc rd (tc_tk 6))) [(0, .ref (mm 0)), (1, .int (nI j)), (2, .int (nI pp)), (3, .int (nI 6)), (4, .int (nI l)), (5, .int (nI b)), (6, .int (nI m))] 352 []
                        refine x_goto C 445 dM_readNode_352 (by decide) ?_
                        exact x_sub [0, 1, 6] rfl (jn445 (vp_updL (vp_updL mu m 0) m (lN (mi (pp + 1) % 256))) tx ((pp + 1) + 1) 0 none (Or.inl ⟨rfl, rfl, _, tc_rE_o (tc_rV_b (by decide) g2n) (tc_fit_t ((tc_fit6 (c := mi (pp + 1) % 256) (by omega)).mpr (Nat.not_le.mp (fun z => h341 ((pk_lLE (a := 32) (b := mi (pp + 1) % 256) (by decide) (by omega)).mpr z))))) (fun z => absurd z.1 (by decide)) (by decide), tc_mn_n8 (va_up_self _ _ _) pk_uLs (by decide)⟩) (fun i hi => (pk_uLn hi).trans (pk_uLn hi)) (fun i hi t ht => rfl) (⟨by omega, by omega⟩))
                      ·
                        show xk_Go K D 9 0 0 (tc_wM mm cmm th (va_up iu m true) (va_up ki m 6) (vp_updL (vp_updL mu m 0) m (lN (mi (pp + 1) % 256))) (va_up fs m none) (va_up ss m none) tx (us + 1) te my mo mz mi iz ma (tc_f1 0 3) (tc_f2 0 none (((pp + 1) + 1) - 1)) od ar lw oc sk sa sl ((pp + 1) + 1) (va_up re rd m) (rd + 1) co (va_up dq rd l) (va_up bo rd bv) (va_up lc rd (tc_tk 6))) [(0, .ref (mm 0)), (1, .int (nI j)), (2, .int (nI pp)), (3, .int (nI 6)), (4, .int (nI l)), (5, .int (nI b)), (6, .int (nI m))] 352 []
                        cases g1u
                ·
                  refine x_if_ne (tgt := 286) C dM_readNode_198 (by decide) (fun _ => ?_) (fun h => absurd h (by decide))
                  refine x_iload_n C dM_readNode_286 rfl 3 rfl ?_
                  refine x_bipush (v := nI 6) C dM_readNode_287 (by decide) ?_
                  refine x_icmp_eq (tgt := 298) C dM_readNode_289 (by decide) (fun h => absurd h (by decide)) (fun _ => ?_)
                  refine x_iload_n C dM_readNode_292 rfl 3 rfl ?_
                  refine x_bipush (v := nI 9) C dM_readNode_293 (by decide) ?_
                  refine x_icmp_ne (tgt := 355) C dM_readNode_295 (by decide) (fun _ => ?_) (fun h => absurd h (by decide))
                  refine x_iload_n C dM_readNode_355 rfl 3 rfl ?_
                  refine x_bipush (v := nI 7) C dM_readNode_356 (by decide) ?_
                  refine x_icmp_ne (tgt := 375) C dM_readNode_358 (by decide) (fun h => absurd (by decide) h) (fun _ => ?_)
                  refine x_aload_n C dM_readNode_361 rfl 0 rfl ?_
                  refine x_get C fgM_17 0 rfl rfl dM_readNode_362 ?_
                  refine x_iload C dM_readNode_365 6 rfl ?_
                  refine x_aload_n C dM_readNode_367 rfl 0 rfl ?_
                  refine x_callV C (c_M_readS D mm cmm th (va_up iu m true) (va_up ki m 7) (vp_updL mu m 0) (va_up fs m none) (va_up ss m none) tx (us + 1) te my mo mz mi iz ma od ar lw oc sk sa sl (pp + 1) (va_up re rd m) (rd + 1) co (va_up dq rd l) (va_up bo rd bv) (va_up lc rd (tc_tk 7)) (by omega) y2 (by omega)) kbM_197 kcM_197 [0, 1, 2, 3, 4, 5, 6, 7, 8, 9, 10, 11, 12, 13, 14, 15, 16, 17, 18, 19, 20] [] [0, 1, 2, 3, 4, 5, 6, 7, 8, 9, 10, 11, 12, 13, 14, 15, 16, 17, 18, 19] ([]) rfl rfl (by decide) (by decide) (by decide) rfl 0 rfl rfl ⟨Nat.le_of_ble_eq_true rfl, Nat.le_of_ble_eq_true rfl⟩ ⟨Nat.le_of_ble_eq_true rfl, Nat.le_of_ble_eq_true rfl⟩ [.int (nI m), .ref (mm 3)] rfl rfl (Nat.le_of_ble_eq_true rfl) dM_readNode_368 (fun rv ru hw => ?_)
                  rcases hw with ⟨xv, nw, rfl, rfl, g1r, g2r, g3r⟩ | ⟨xv, nw, f, q, rfl, rfl, g1r, g2r, g3r, g4r⟩
                  ·
                    show xk_Go K D 9 0 0 (tc_wM mm cmm th (va_up iu m true) (va_up ki m 7) (vp_updL mu m 0) (va_up fs m none) (va_up ss m none) tx (us + 1) te my mo mz mi iz ma 0 none od ar lw oc sk sa sl nw (va_up re rd m) (rd + 1) co (va_up dq rd l) (va_up bo rd bv) (va_up lc rd (tc_tk 7))) [(0, .ref (mm 0)), (1, .int (nI j)), (2, .int (nI pp)), (3, .int (nI 7)), (4, .int (nI l)), (5, .int (nI b)), (6, .int (nI m))] 371 [.long xv, .int (nI m), .ref (mm 3)]
                    refine x_lst C 3 2 (tc_wM mm cmm th (va_up iu m true) (va_up ki m 7) (vp_updL (vp_updL mu m 0) m xv) (va_up fs m none) (va_up ss m none) tx (us + 1) te my mo mz mi iz ma 0 none od ar lw oc sk sa sl nw (va_up re rd m) (rd + 1) co (va_up dq rd l) (va_up bo rd bv) (va_up lc rd (tc_tk 7))) rfl rfl rfl rfl (by omega) (by decide) dM_readNode_371 ?_
                    refine x_goto C 445 dM_readNode_372 (by decide) ?_
                    exact x_sub [0, 1, 6] rfl (jn445 (vp_updL (vp_updL mu m 0) m xv) tx nw 0 none (Or.inl ⟨rfl, rfl, _, tc_rE_o (tc_rV_7.trans g1r) (tc_fit_t (tc_fa_7 rfl)) (fun z => absurd z.1 (by decide)) (by decide), tc_mn_n8 (va_up_self _ _ _) pk_uLs (by decide)⟩) (fun i hi => (pk_uLn hi).trans (pk_uLn hi)) (fun i hi t ht => rfl) (⟨by omega, by omega⟩))
                  ·
                    show xk_Go K D 9 0 0 (tc_wM mm cmm th (va_up iu m true) (va_up ki m 7) (vp_updL mu m 0) (va_up fs m none) (va_up ss m none) tx (us + 1) te my mo mz mi iz ma f (some q) od ar lw oc sk sa sl nw (va_up re rd m) (rd + 1) co (va_up dq rd l) (va_up bo rd bv) (va_up lc rd (tc_tk 7))) [(0, .ref (mm 0)), (1, .int (nI j)), (2, .int (nI pp)), (3, .int (nI 7)), (4, .int (nI l)), (5, .int (nI b)), (6, .int (nI m))] 371 [.long xv, .int (nI m), .ref (mm 3)]
                    refine x_lst C 3 2 (tc_wM mm cmm th (va_up iu m true) (va_up ki m 7) (vp_updL (vp_updL mu m 0) m xv) (va_up fs m none) (va_up ss m none) tx (us + 1) te my mo mz mi iz ma f (some q) od ar lw oc sk sa sl nw (va_up re rd m) (rd + 1) co (va_up dq rd l) (va_up bo rd bv) (va_up lc rd (tc_tk 7))) rfl rfl rfl rfl (by omega) (by decide) dM_readNode_371 ?_
                    refine x_goto C 445 dM_readNode_372 (by decide) ?_
                    exact x_sub [0, 1, 6] rfl (jn445 (vp_updL (vp_updL mu m 0) m xv) tx nw f (some q) (Or.inr ⟨by first | decide | omega, by first | decide | omega, _, rfl, tc_rE_l (tc_rV_7.trans g1r)⟩) (fun i hi => (pk_uLn hi).trans (pk_uLn hi)) (fun i hi t ht => rfl) (⟨by omega, by omega⟩))
                ·
                  refine x_if_ne (tgt := 286) C dM_readNode_198 (by decide) (fun _ => ?_) (fun h => absurd h (by decide))
                  refine x_iload_n C dM_readNode_286 rfl 3 rfl ?_
                  refine x_bipush (v := nI 6) C dM_readNode_287 (by decide) ?_
                  refine x_icmp_eq (tgt := 298) C dM_readNode_289 (by decide) (fun h => absurd h (by decide)) (fun _ => ?_)
                  refine x_iload_n C dM_readNode_292 rfl 3 rfl ?_
                  refine x_bipush (v := nI 9) C dM_readNode_293 (by decide) ?_
                  refine x_icmp_ne (tgt := 355) C dM_readNode_295 (by decide) (fun _ => ?_) (fun h => absurd h (by decide))
                  refine x_iload_n C dM_readNode_355 rfl 3 rfl ?_
                  refine x_bipush (v := nI 7) C dM_readNode_356 (by decide) ?_
                  refine x_icmp_ne (tgt := 375) C dM_readNode_358 (by decide) (fun _ => ?_) (fun h => absurd h (by decide))
                  refine x_iload_n C dM_readNode_375 rfl 3 rfl ?_
                  refine x_bipush (v := nI 8) C dM_readNode_376 (by decide) ?_
                  refine x_icmp_ne (tgt := 445) C dM_readNode_378 (by decide) (fun h => absurd (by decide) h) (fun _ => ?_)
                  refine x_aload_n C dM_readNode_381 rfl 0 rfl ?_
                  refine x_callV C (c_M_next D mm cmm th (va_up iu m true) (va_up ki m 8) (vp_updL mu m 0) (va_up fs m none) (va_up ss m none) tx (us + 1) te my mo mz mi iz ma 0 none od ar lw oc sk sa sl (pp + 1) (va_up re rd m) (rd + 1) co (va_up dq rd l) (va_up bo rd bv) (va_up lc rd (tc_tk 8)) (by omega) y2 (by decide)) kbM_175 kcM_175 [0, 1, 2, 3, 4, 5, 6, 7, 8, 9, 10, 11, 12, 13, 14, 15, 16, 17, 18, 19, 20] [] [0, 1, 2, 3, 4, 5, 6, 7, 8, 9, 10, 11, 12, 13, 14, 15, 16, 17, 18, 19] ([]) rfl rfl (by decide) (by decide) (by decide) rfl 0 rfl rfl ⟨Nat.le_of_ble_eq_true rfl, Nat.le_of_ble_eq_true rfl⟩ ⟨Nat.le_of_ble_eq_true rfl, Nat.le_of_ble_eq_true rfl⟩ [] rfl rfl (Nat.le_of_ble_eq_true rfl) dM_readNode_382 (fun rv ru hw => ?_)
                  rcases hw with ⟨rfl, rfl, g1n⟩ | ⟨rfl, rfl, g1n, g2n⟩ | ⟨rfl, rfl, g1n, g2n⟩
                  ·
                    show xk_Go K D 9 0 0 (tc_wM mm cmm th (va_up iu m true) (va_up ki m 8) (vp_updL mu m 0) (va_up fs m none) (va_up ss m none) tx (us + 1) te my mo mz mi iz ma 0 none od ar lw oc sk sa sl (pp + 1) (va_up re rd m) (rd + 1) co (va_up dq rd l) (va_up bo rd bv) (va_up lc rd (tc_tk 8))) [(0, .ref (mm 0)), (1, .int (nI j)), (2, .int (nI pp)), (3, .int (nI 8)), (4, .int (nI l)), (5, .int (nI b)), (6, .int (nI m))] 385 [.int (nI 0)]
                    exact absurd g1n (by decide)
                  ·
                    show xk_Go K D 9 0 0 (tc_wM mm cmm th (va_up iu m true) (va_up ki m 8) (vp_updL mu m 0) (va_up fs m none) (va_up ss m none) tx (us + 1) te my mo mz mi iz ma 1 (some iz) od ar lw oc sk sa sl (pp + 1) (va_up re rd m) (rd + 1) co (va_up dq rd l) (va_up bo rd bv) (va_up lc rd (tc_tk 8))) [(0, .ref (mm 0)), (1, .int (nI j)), (2, .int (nI pp)), (3, .int (nI 8)), (4, .int (nI l)), (5, .int (nI b)), (6, .int (nI m))] 385 [.int (nI 0)]
                    refine x_istore C [(7, .int (nI 0)), (0, .ref (mm 0)), (1, .int (nI j)), (2, .int (nI pp)), (3, .int (nI 8)), (4, .int (nI l)), (5, .int (nI b)), (6, .int (nI m))] dM_readNode_385 (by decide) rfl ?_
                    refine x_aload_n C dM_readNode_387 rfl 1 rfl ?_
                    refine x_aload_n C dM_readNode_388 rfl 1 rfl ?_
                    refine x_get C fgM_165 0 rfl rfl dM_readNode_389 ?_
                    refine x_if_gt (tgt := 402) C dM_readNode_392 (by decide) (fun _ => ?_) (fun h => absurd (by decide) h)
                    refine x_iconst (v := nI 1) C dM_readNode_402 (by decide) ?_
                    refine x_goto C 407 dM_readNode_403 (by decide) ?_
                    refine x_callV C (c_M_must D mm cmm th (va_up iu m true) (va_up ki m 8) (vp_updL mu m 0) (va_up fs m none) (va_up ss m none) tx (us + 1) te my mo mz mi iz ma 1 (some iz) od ar lw oc sk sa sl (pp + 1) (va_up re rd m) (rd + 1) co (va_up dq rd l) (va_up bo rd bv) (va_up lc rd (tc_tk 8)) true (by first | decide | omega) (fun z => by cases z)) kbM_182 kcM_182 [0, 1, 2, 3, 4, 5, 6, 7, 8, 9, 10, 11, 12, 13, 14, 15, 16, 17, 18, 19, 20] [] [0, 1, 2, 3, 4, 5, 6, 7, 8, 9, 10, 11, 12, 13, 14, 15, 16, 17, 18, 19] ([]) rfl rfl (by decide) (by decide) (by decide) rfl 0 rfl rfl ⟨Nat.le_of_ble_eq_true rfl, Nat.le_of_ble_eq_true rfl⟩ ⟨Nat.le_of_ble_eq_true rfl, Nat.le_of_ble_eq_true rfl⟩ [] rfl rfl (Nat.le_of_ble_eq_true rfl) dM_readNode_407 (fun rv ru hw => ?_)
                    rcases hw with ⟨rfl, rfl, g1u⟩ | ⟨rfl, rfl, g1u⟩
                    ·
                      show xk_Go K D 9 0 0 (tc_wM mm cmm th (va_up iu m true) (va_up ki m 8) (vp_updL mu m 0) (va_up fs m none) (va_up ss m none) tx (us + 1) te my mo mz mi iz ma 1 (some iz) od ar lw oc sk sa sl (pp + 1) (va_up re rd m) (rd + 1) co (va_up dq rd l) (va_up bo rd bv) (va_up lc rd (tc_tk 8))) [(7, .int (nI 0)), (0, .ref (mm 0)), (1, .int (nI j)), (2, .int (nI pp)), (3, .int (nI 8)), (4, .int (nI l)), (5, .int (nI b)), (6, .int (nI m))] 410 []
                      refine x_iconst (v := nI 0) C dM_readNode_410 (by decide) ?_
                      refine x_istore C [(8, .int (nI 0)), (7, .int (nI 0)), (0, .ref (mm 0)), (1, .int (nI j)), (2, .int (nI pp)), (3, .int (nI 8)), (4, .int (nI l)), (5, .int (nI b)), (6, .int (nI m))] dM_readNode_411 (by decide) rfl ?_
                      refine x_iload C dM_readNode_413 0 rfl ?_
                      refine x_iload C dM_readNode_415 1 rfl ?_
                      refine x_icmp_ge (tgt := 445) C dM_readNode_417 (by decide) (fun _ => ?_) (fun h => absurd (by decide) h)
                      exact x_sub [2, 3, 8] rfl (jn445 (vp_updL mu m 0) tx (pp + 1) 1 (some iz) (Or.inr ⟨by first | decide | omega, by first | decide | omega, _, rfl, tc_rE_l (tc_rV_e (by decide) g2n)⟩) (fun i hi => pk_uLn hi) (fun i hi t ht => rfl) (⟨by omega, by omega⟩))
                    ·
                      show xk_Go K D 9 0 0 (tc_wM mm cmm th (va_up iu m true) (va_up ki m 8) (vp_updL mu m 0) (va_up fs m none) (va_up ss m none) tx (us + 1) te my mo mz mi iz ma (tc_f1 1 3) (tc_f2 1 (some iz) ((pp + 1) - 1)) od ar lw oc sk sa sl (pp + 1) (va_up re rd m) (rd + 1) co (va_up dq rd l) (va_up bo rd bv) (va_up lc rd (tc_tk 8))) [(7, .int (nI 0)), (0, .ref (mm 0)), (1, .int (nI j)), (2, .int (nI pp)), (3, .int (nI 8)), (4, .int (nI l)), (5, .int (nI b)), (6, .int (nI m))] 410 []
                      cases g1u
                  ·
                    show xk_Go K D 9 0 0 (tc_wM mm cmm th (va_up iu m true) (va_up ki m 8) (vp_updL mu m 0) (va_up fs m none) (va_up ss m none) tx (us + 1) te my mo mz mi iz ma 0 none od ar lw oc sk sa sl ((pp + 1) + 1) (va_up re rd m) (rd + 1) co (va_up dq rd l) (va_up bo rd bv) (va_up lc rd (tc_tk 8))) [(0, .ref (mm 0)), (1, .int (nI j)), (2, .int (nI pp)), (3, .int (nI 8)), (4, .int (nI l)), (5, .int (nI b)), (6, .int (nI m))] 385 [.int (nI (mi (pp + 1) % 256))]
                    obtain ⟨c, hcc⟩ : ∃ c, c = mi (pp + 1) % 256 := ⟨_, rfl⟩
                    rw [← hcc]
                    have hc256 : c < 256 := by omega
                    have hrv : tc_rV (tc_B mi) iz 8 (pp + 1) = .inr (lN c, pp + 2) := by rw [hcc]; exact tc_rV_b (by decide) g2n
                    refine x_istore C [(7, .int (nI c)), (0, .ref (mm 0)), (1, .int (nI j)), (2, .int (nI pp)), (3, .int (nI 8)), (4, .int (nI l)), (5, .int (nI b)), (6, .int (nI m))] dM_readNode_385 (by decide) rfl ?_
                    refine x_aload_n C dM_readNode_387 rfl 1 rfl ?_
                    refine x_aload_n C dM_readNode_388 rfl 1 rfl ?_
                    refine x_get C fgM_165 0 rfl rfl dM_readNode_389 ?_
                    refine x_if_gt (tgt := 402) C dM_readNode_392 (by decide) (fun h => absurd h (by decide)) (fun _ => ?_)
                    refine x_iload C dM_readNode_395 0 rfl ?_
                    refine x_bipush (v := nI 64) C dM_readNode_397 (by decide) ?_
                    refine x_icmp_gtN (tgt := 406) C (by omega) (by decide) dM_readNode_399 (by decide) (fun h399 => ?_) (fun h399 => ?_)
                    ·
                      refine x_iconst (v := nI 0) C dM_readNode_406 (by decide) ?_
                      refine x_callV C (c_M_must D mm cmm th (va_up iu m true) (va_up ki m 8) (vp_updL mu m 0) (va_up fs m none) (va_up ss m none) tx (us + 1) te my mo mz mi iz ma 0 none od ar lw oc sk sa sl ((pp + 1) + 1) (va_up re rd m) (rd + 1) co (va_up dq rd l) (va_up bo rd bv) (va_up lc rd (tc_tk 8)) false (by first | decide | omega) (fun _ => by omega)) kbM_182 kcM_182 [0, 1, 2, 3, 4, 5, 6, 7, 8, 9, 10, 11, 12, 13, 14, 15, 16, 17, 18, 19, 20] [] [0, 1, 2, 3, 4, 5, 6, 7, 8, 9, 10, 11, 12, 13, 14, 15, 16, 17, 18, 19] ([]) rfl rfl (by decide) (by decide) (by decide) rfl 0 rfl rfl ⟨Nat.le_of_ble_eq_true rfl, Nat.le_of_ble_eq_true rfl⟩ ⟨Nat.le_of_ble_eq_true rfl, Nat.le_of_ble_eq_true rfl⟩ [] rfl rfl (Nat.le_of_ble_eq_true rfl) dM_readNode_407 (fun rv ru hw => ?_)
                      rcases hw with ⟨rfl, rfl, g1u⟩ | ⟨rfl, rfl, g1u⟩
                      ·
                        show xk_Go K D 9 0 0 (tc_wM mm cmm th (va_up iu m true) (va_up ki m 8) (vp_updL mu m 0) (va_up fs m none) (va_up ss m none) tx (us + 1) te my mo mz mi iz ma 0 none od ar lw oc sk sa sl ((pp + 1) + 1) (va_up re rd m) (rd + 1) co (va_up dq rd l) (va_up bo rd bv) (va_up lc rd (tc_tk 8))) [(7, .int (nI c)), (0, .ref (mm 0)), (1, .int (nI j)), (2, .int (nI pp)), (3, .int (nI 8)), (4, .int (nI l)), (5, .int (nI b)), (6, .int (nI m))] 410 []
                        cases g1u
                      ·
                        show xk_Go K D 9 0 0 (tc_wM mm cmm th (va_up iu m true) (va_up ki m 8) (vp_updL mu m 0) (va_up fs m none) (va_up ss m none) tx (us + 1) te my mo mz mi iz ma (tc_f1 0 3) (tc_f2 0 none (((pp + 1) + 1) - 1)) od ar lw oc sk sa sl ((pp + 1) + 1) (va_up re rd m) (rd + 1) co (va_up dq rd l) (va_up bo rd bv) (va_up lc rd (tc_tk 8))) [(7, .int (nI c)), (0, .ref (mm 0)), (1, .int (nI j)), (2, .int (nI pp)), (3, .int (nI 8)), (4, .int (nI l)), (5, .int (nI b)), (6, .int (nI m))] 410 []
                        show xk_Go K D 9 0 0 (tc_wM mm cmm th (va_up iu m true) (va_up ki m 8) (vp_updL mu m 0) (va_up fs m none) (va_up ss m none) tx (us + 1) te my mo mz mi iz ma 3 (some ((pp + 1) + 1 - 1)) od ar lw oc sk sa sl ((pp + 1) + 1) (va_up re rd m) (rd + 1) co (va_up dq rd l) (va_up bo rd bv) (va_up lc rd (tc_tk 8))) [(7, .int (nI c)), (0, .ref (mm 0)), (1, .int (nI j)), (2, .int (nI pp)), (3, .int (nI 8)), (4, .int (nI l)), (5, .int (nI b)), (6, .int (nI m))] 410 []
                        refine x_iconst (v := nI 0) C dM_readNode_410 (by decide) ?_
                        refine x_istore C [(8, .int (nI 0)), (7, .int (nI c)), (0, .ref (mm 0)), (1, .int (nI j)), (2, .int (nI pp)), (3, .int (nI 8)), (4, .int (nI l)), (5, .int (nI b)), (6, .int (nI m))] dM_readNode_411 (by decide) rfl ?_
                        refine x_iload C dM_readNode_413 0 rfl ?_
                        refine x_iload C dM_readNode_415 1 rfl ?_
                        refine x_icmp_geN (tgt := 445) C (by decide) (by omega) dM_readNode_417 (by decide) (fun h417 => ?_) (fun h417 => ?_)
                        ·
                          exact x_sub [2, 3, 8] rfl (jn445 (vp_updL mu m 0) tx ((pp + 1) + 1) 3 (some ((pp + 1) + 1 - 1)) (Or.inr ⟨by first | decide | omega, by first | decide | omega, _, rfl, tc_rE_3 (tc_rV_b (by decide) g2n) (tc_fit_f (fun z => by have z1 := (tc_fit8' (c := mi (pp + 1) % 256) (by omega)).mp z; omega))⟩) (fun i hi => pk_uLn hi) (fun i hi t ht => rfl) (⟨by omega, by omega⟩))
                        ·
                          refine x_aload_n C dM_readNode_420 rfl 2 rfl ?_
                          refine x_get C fgM_165 0 rfl rfl dM_readNode_421 ?_
                          refine x_if_ne (tgt := 445) C dM_readNode_424 (by decide) (fun _ => ?_) (fun h => absurd h (by decide))
                          exact x_sub [2, 3, 8] rfl (jn445 (vp_updL mu m 0) tx ((pp + 1) + 1) 3 (some ((pp + 1) + 1 - 1)) (Or.inr ⟨by first | decide | omega, by first | decide | omega, _, rfl, tc_rE_3 (tc_rV_b (by decide) g2n) (tc_fit_f (fun z => by have z1 := (tc_fit8' (c := mi (pp + 1) % 256) (by omega)).mp z; omega))⟩) (fun i hi => pk_uLn hi) (fun i hi t ht => rfl) (⟨by omega, by omega⟩))
                    ·
                      refine x_iconst (v := nI 1) C dM_readNode_402 (by decide) ?_
                      refine x_goto C 407 dM_readNode_403 (by decide) ?_
                      refine x_callV C (c_M_must D mm cmm th (va_up iu m true) (va_up ki m 8) (vp_updL mu m 0) (va_up fs m none) (va_up ss m none) tx (us + 1) te my mo mz mi iz ma 0 none od ar lw oc sk sa sl ((pp + 1) + 1) (va_up re rd m) (rd + 1) co (va_up dq rd l) (va_up bo rd bv) (va_up lc rd (tc_tk 8)) true (by first | decide | omega) (fun z => by cases z)) kbM_182 kcM_182 [0, 1, 2, 3, 4, 5, 6, 7, 8, 9, 10, 11, 12, 13, 14, 15, 16, 17, 18, 19, 20] [] [0, 1, 2, 3, 4, 5, 6, 7, 8, 9, 10, 11, 12, 13, 14, 15, 16, 17, 18, 19] ([]) rfl rfl (by decide) (by decide) (by decide) rfl 0 rfl rfl ⟨Nat.le_of_ble_eq_true rfl, Nat.le_of_ble_eq_true rfl⟩ ⟨Nat.le_of_ble_eq_true rfl, Nat.le_of_ble_eq_true rfl⟩ [] rfl rfl (Nat.le_of_ble_eq_true rfl) dM_readNode_407 (fun rv ru hw => ?_)
                      rcases hw with ⟨rfl, rfl, g1u⟩ | ⟨rfl, rfl, g1u⟩
                      ·
                        show xk_Go K D 9 0 0 (tc_wM mm cmm th (va_up iu m true) (va_up ki m 8) (vp_updL mu m 0) (va_up fs m none) (va_up ss m none) tx (us + 1) te my mo mz mi iz ma 0 none od ar lw oc sk sa sl ((pp + 1) + 1) (va_up re rd m) (rd + 1) co (va_up dq rd l) (va_up bo rd bv) (va_up lc rd (tc_tk 8))) [(7, .int (nI c)), (0, .ref (mm 0)), (1, .int (nI j)), (2, .int (nI pp)), (3, .int (nI 8)), (4, .int (nI l)), (5, .int (nI b)), (6, .int (nI m))] 410 []
                        refine x_iconst (v := nI 0) C dM_readNode_410 (by decide) ?_
                        refine x_istore C [(8, .int (nI 0)), (7, .int (nI c)), (0, .ref (mm 0)), (1, .int (nI j)), (2, .int (nI pp)), (3, .int (nI 8)), (4, .int (nI l)), (5, .int (nI b)), (6, .int (nI m))] dM_readNode_411 (by decide) rfl ?_
                        have lp413 : ∀ (zc : Nat) (i : Nat) (mu1 : Nat → Int64) (tx1 : Nat → Nat), (c - i) < zc → (i ≤ c) → (mu1 m = lN i) → (∀ i, i ≠ m → mu1 i = mu i) → (∀ i, i ≠ m → ∀ t, t < 64 → tx1 (64 * i + t) % 256 = tx (64 * i + t) % 256) → (∀ t, t < i → tx1 (64 * m + t) % 256 = tc_B mi (pp + 2 + t)) → (pp + 2 + i ≤ iz) → xk_Go K D 9 0 0 (tc_wM mm cmm th (va_up iu m true) (va_up ki m 8) mu1 (va_up fs m none) (va_up ss m none) tx1 (us + 1) te my mo mz mi iz ma 0 none od ar lw oc sk sa sl (pp + 2 + i) (va_up re rd m) (rd + 1) co (va_up dq rd l) (va_up bo rd bv) (va_up lc rd (tc_tk 8))) [(0, .ref (mm 0)), (1, .int (nI j)), (2, .int (nI pp)), (3, .int (nI 8)), (6, .int (nI m)), (7, .int (nI c)), (8, .int (nI i))] 413 [] := by
                          intro zc
                          induction zc with
                          | zero => intro i mu1 tx1 hm; exact absurd hm (Nat.not_lt_zero _)
                          | succ zc ih413 =>
                            intro i mu1 tx1 hm e1 e2 e3 e4 e5 e6
                            refine x_iload C dM_readNode_413 6 rfl ?_
                            refine x_iload C dM_readNode_415 5 rfl ?_
                            refine x_icmp_geN (tgt := 445) C (by omega) (by omega) dM_readNode_417 (by decide) (fun h417 => ?_) (fun h417 => ?_)
                            ·
                              obtain rfl : i = c := by omega
                              exact x_sub [0, 1, 4] rfl (jn445 mu1 tx1 (pp + 2 + i) 0 none (Or.inl ⟨rfl, rfl, _, tc_rE_8o hrv (tc_fit_t ((tc_fit8' (c := i) (by omega)).mpr h399)) rfl (show (lN i).toInt.toNat = i by rw [pk_lT (by omega), Int.toNat_natCast]) (by omega), tc_mn_8 (va_up_self _ _ _) e2 h399 e5⟩) e3 e4 (⟨by omega, by omega⟩))
                            ·
                              refine x_aload_n C dM_readNode_420 rfl 0 rfl ?_
                              refine x_get C fgM_165 0 rfl rfl dM_readNode_421 ?_
                              refine x_if_ne (tgt := 445) C dM_readNode_424 (by decide) (fun h => absurd (by decide) h) (fun _ => ?_)
                              refine x_aload_n C dM_readNode_427 rfl 0 rfl ?_
                              refine x_iload C dM_readNode_428 4 rfl ?_
                              refine x_aload_n C dM_readNode_430 rfl 0 rfl ?_
                              refine x_callV C (c_M_next D mm cmm th (va_up iu m true) (va_up ki m 8) mu1 (va_up fs m none) (va_up ss m none) tx1 (us + 1) te my mo mz mi iz ma 0 none od ar lw oc sk sa sl (pp + 2 + i) (va_up re rd m) (rd + 1) co (va_up dq rd l) (va_up bo rd bv) (va_up lc rd (tc_tk 8)) (by omega) y2 (by decide)) kbM_175 kcM_175 [0, 1, 2, 3, 4, 5, 6, 7, 8, 9, 10, 11, 12, 13, 14, 15, 16, 17, 18, 19, 20] [] [0, 1, 2, 3, 4, 5, 6, 7, 8, 9, 10, 11, 12, 13, 14, 15, 16, 17, 18, 19] ([]) rfl rfl (by decide) (by decide) (by decide) rfl 0 rfl rfl ⟨Nat.le_of_ble_eq_true rfl, Nat.le_of_ble_eq_true rfl⟩ ⟨Nat.le_of_ble_eq_true rfl, Nat.le_of_ble_eq_true rfl⟩ [.int (nI m), .ref (mm 0)] rfl rfl (Nat.le_of_ble_eq_true rfl) dM_readNode_431 (fun rv ru hw => ?_)
                              rcases hw with ⟨rfl, rfl, g1v⟩ | ⟨rfl, rfl, g1v, g2v⟩ | ⟨rfl, rfl, g1v, g2v⟩
                              ·
                                show xk_Go K D 9 0 0 (tc_wM mm cmm th (va_up iu m true) (va_up ki m 8) mu1 (va_up fs m none) (va_up ss m none) tx1 (us + 1) te my mo mz mi iz ma 0 none od ar lw oc sk sa sl (pp + 2 + i) (va_up re rd m) (rd + 1) co (va_up dq rd l) (va_up bo rd bv) (va_up lc rd (tc_tk 8))) [(0, .ref (mm 0)), (1, .int (nI j)), (2, .int (nI pp)), (3, .int (nI 8)), (6, .int (nI m)), (7, .int (nI c)), (8, .int (nI i))] 434 [.int (nI 0), .int (nI m), .ref (mm 0)]
                                exact absurd g1v (by decide)
                              ·
                                show xk_Go K D 9 0 0 (tc_wM mm cmm th (va_up iu m true) (va_up ki m 8) mu1 (va_up fs m none) (va_up ss m none) tx1 (us + 1) te my mo mz mi iz ma 1 (some iz) od ar lw oc sk sa sl (pp + 2 + i) (va_up re rd m) (rd + 1) co (va_up dq rd l) (va_up bo rd bv) (va_up lc rd (tc_tk 8))) [(0, .ref (mm 0)), (1, .int (nI j)), (2, .int (nI pp)), (3, .int (nI 8)), (6, .int (nI m)), (7, .int (nI c)), (8, .int (nI i))] 434 [.int (nI 0), .int (nI m), .ref (mm 0)]
                                refine x_i2l (v := 0) C dM_readNode_434 (by decide) ?_
                                refine x_iconst (v := nI 1) C dM_readNode_435 (by decide) ?_
                                refine x_callV C (c_M_append D mm cmm th (va_up iu m true) (va_up ki m 8) mu1 (va_up fs m none) (va_up ss m none) tx1 (us + 1) te my mo mz mi iz ma 1 (some iz) od ar lw oc sk sa sl (pp + 2 + i) (va_up re rd m) (rd + 1) co (va_up dq rd l) (va_up bo rd bv) (va_up lc rd (tc_tk 8)) m 0 1 i g1m (by decide) e2 (by omega)) kbM_119 kcM_119 [0, 1, 2, 3, 4, 5, 6, 7, 8, 9, 10, 11, 12, 13, 14, 15, 16, 17, 18, 19, 20] [] [0, 1, 2, 3, 4, 5, 6, 7, 8, 9, 10, 11, 12, 13, 14, 15, 16, 17, 18, 19] ([]) rfl rfl (by decide) (by decide) (by decide) rfl 0 rfl rfl ⟨Nat.le_of_ble_eq_true rfl, Nat.le_of_ble_eq_true rfl⟩ ⟨Nat.le_of_ble_eq_true rfl, Nat.le_of_ble_eq_true rfl⟩ [] rfl rfl (Nat.le_of_ble_eq_true rfl) dM_readNode_436 (fun rv ru hw => ?_)
                                obtain ⟨mu2, tx2, rfl, rfl, g1a, g2a, g3a⟩ := hw
                                show xk_Go K D 9 0 0 (tc_wM mm cmm th (va_up iu m true) (va_up ki m 8) mu2 (va_up fs m none) (va_up ss m none) tx2 (us + 1) te my mo mz mi iz ma 1 (some iz) od ar lw oc sk sa sl (pp + 2 + i) (va_up re rd m) (rd + 1) co (va_up dq rd l) (va_up bo rd bv) (va_up lc rd (tc_tk 8))) [(0, .ref (mm 0)), (1, .int (nI j)), (2, .int (nI pp)), (3, .int (nI 8)), (6, .int (nI m)), (7, .int (nI c)), (8, .int (nI i))] 439 []
                                refine x_iinc (q := 6) C (nI (i + 1)) [(8, .int (nI (i + 1))), (0, .ref (mm 0)), (1, .int (nI j)), (2, .int (nI pp)), (3, .int (nI 8)), (6, .int (nI m)), (7, .int (nI c))] dM_readNode_439 rfl (nI_add i 1) (by decide) rfl ?_
                                refine x_goto C 413 dM_readNode_442 (by decide) ?_
                                refine x_iload C dM_readNode_413 0 rfl ?_
                                refine x_iload C dM_readNode_415 6 rfl ?_
                                refine x_icmp_geN (tgt := 445) C (by omega) (by omega) dM_readNode_417 (by decide) (fun h417 => ?_) (fun h417 => ?_)
                                ·
                                  exact x_sub [1, 2, 5] rfl (jn445 mu2 tx2 (pp + 2 + i) 1 (some iz) (Or.inr ⟨by first | decide | omega, by first | decide | omega, _, rfl, tc_rE_8f hrv (tc_fit_t ((tc_fit8' (c := c) (by omega)).mpr h399)) rfl (show (lN c).toInt.toNat = c by rw [pk_lT (by omega), Int.toNat_natCast]) (by omega)⟩) (fun i hi => (g2a i hi).trans (e3 i hi)) (fun i hi t ht => ((tc_ap_keep (by omega) g3a).1 i hi t ht).trans (e4 i hi t ht)) (⟨by omega, by omega⟩))
                                ·
                                  refine x_aload_n C dM_readNode_420 rfl 1 rfl ?_
                                  refine x_get C fgM_165 0 rfl rfl dM_readNode_421 ?_
                                  refine x_if_ne (tgt := 445) C dM_readNode_424 (by decide) (fun _ => ?_) (fun h => absurd h (by decide))
                                  exact x_sub [1, 2, 5] rfl (jn445 mu2 tx2 (pp + 2 + i) 1 (some iz) (Or.inr ⟨by first | decide | omega, by first | decide | omega, _, rfl, tc_rE_8f hrv (tc_fit_t ((tc_fit8' (c := c) (by omega)).mpr h399)) rfl (show (lN c).toInt.toNat = c by rw [pk_lT (by omega), Int.toNat_natCast]) (by omega)⟩) (fun i hi => (g2a i hi).trans (e3 i hi)) (fun i hi t ht => ((tc_ap_keep (by omega) g3a).1 i hi t ht).trans (e4 i hi t ht)) (⟨by omega, by omega⟩))
                              ·
                                show xk_Go K D 9 0 0 (tc_wM mm cmm th (va_up iu m true) (va_up ki m 8) mu1 (va_up fs m none) (va_up ss m none) tx1 (us + 1) te my mo mz mi iz ma 0 none od ar lw oc sk sa sl ((pp + 2 + i) + 1) (va_up re rd m) (rd + 1) co (va_up dq rd l) (va_up bo rd bv) (va_up lc rd (tc_tk 8))) [(0, .ref (mm 0)), (1, .int (nI j)), (2, .int (nI pp)), (3, .int (nI 8)), (6, .int (nI m)), (7, .int (nI c)), (8, .int (nI i))] 434 [.int (nI (mi (pp + 2 + i) % 256)), .int (nI m), .ref (mm 0)]
                                refine x_i2l (v := lN (mi (pp + 2 + i) % 256)) C dM_readNode_434 (nI_l (by omega)) ?_
                                refine x_iconst (v := nI 1) C dM_readNode_435 (by decide) ?_
                                refine x_callV C (c_M_append D mm cmm th (va_up iu m true) (va_up ki m 8) mu1 (va_up fs m none) (va_up ss m none) tx1 (us + 1) te my mo mz mi iz ma 0 none od ar lw oc sk sa sl ((pp + 2 + i) + 1) (va_up re rd m) (rd + 1) co (va_up dq rd l) (va_up bo rd bv) (va_up lc rd (tc_tk 8)) m (lN (mi (pp + 2 + i) % 256)) 1 i g1m (by decide) e2 (by omega)) kbM_119 kcM_119 [0, 1, 2, 3, 4, 5, 6, 7, 8, 9, 10, 11, 12, 13, 14, 15, 16, 17, 18, 19, 20] [] [0, 1, 2, 3, 4, 5, 6, 7, 8, 9, 10, 11, 12, 13, 14, 15, 16, 17, 18, 19] ([]) rfl rfl (by decide) (by decide) (by decide) rfl 0 rfl rfl ⟨Nat.le_of_ble_eq_true rfl, Nat.le_of_ble_eq_true rfl⟩ ⟨Nat.le_of_ble_eq_true rfl, Nat.le_of_ble_eq_true rfl⟩ [] rfl rfl (Nat.le_of_ble_eq_true rfl) dM_readNode_436 (fun rv ru hw => ?_)
                                obtain ⟨mu2, tx2, rfl, rfl, g1a, g2a, g3a⟩ := hw
                                show xk_Go K D 9 0 0 (tc_wM mm cmm th (va_up iu m true) (va_up ki m 8) mu2 (va_up fs m none) (va_up ss m none) tx2 (us + 1) te my mo mz mi iz ma 0 none od ar lw oc sk sa sl ((pp + 2 + i) + 1) (va_up re rd m) (rd + 1) co (va_up dq rd l) (va_up bo rd bv) (va_up lc rd (tc_tk 8))) [(0, .ref (mm 0)), (1, .int (nI j)), (2, .int (nI pp)), (3, .int (nI 8)), (6, .int (nI m)), (7, .int (nI c)), (8, .int (nI i))] 439 []
                                refine x_iinc (q := 6) C (nI (i + 1)) [(8, .int (nI (i + 1))), (0, .ref (mm 0)), (1, .int (nI j)), (2, .int (nI pp)), (3, .int (nI 8)), (6, .int (nI m)), (7, .int (nI c))] dM_readNode_439 rfl (nI_add i 1) (by decide) rfl ?_
                                refine x_goto C 413 dM_readNode_442 (by decide) ?_
                                exact x_sub [1, 2, 3, 4, 5, 6, 0] rfl (ih413 (i + 1) mu2 tx2 (by omega) (by omega) g1a (fun q hq => (g2a q hq).trans (e3 q hq)) (fun q hq t ht => ((tc_ap_keep (by omega) g3a).1 q hq t ht).trans (e4 q hq t ht)) (tc_seg1 e5 (tc_ap_keep (by omega) g3a).2 ((tc_ap_one g3a).trans (tc_by_0 (by omega)))) (by omega))
                        exact x_sub [2, 3, 4, 5, 8, 1, 0] rfl (lp413 _ 0 (vp_updL mu m 0) tx (Nat.lt_succ_self _) (Nat.zero_le _) pk_uLs (fun i hi => pk_uLn hi) (fun i hi t ht => rfl) (fun t ht => absurd ht (Nat.not_lt_zero _)) (by omega))
                      ·
                        show xk_Go K D 9 0 0 (tc_wM mm cmm th (va_up iu m true) (va_up ki m 8) (vp_updL mu m 0) (va_up fs m none) (va_up ss m none) tx (us + 1) te my mo mz mi iz ma (tc_f1 0 3) (tc_f2 0 none (((pp + 1) + 1) - 1)) od ar lw oc sk sa sl ((pp + 1) + 1) (va_up re rd m) (rd + 1) co (va_up dq rd l) (va_up bo rd bv) (va_up lc rd (tc_tk 8))) [(7, .int (nI c)), (0, .ref (mm 0)), (1, .int (nI j)), (2, .int (nI pp)), (3, .int (nI 8)), (4, .int (nI l)), (5, .int (nI b)), (6, .int (nI m))] 410 []
                        cases g1u
                ·
                  refine x_if_ne (tgt := 286) C dM_readNode_198 (by decide) (fun _ => ?_) (fun h => absurd h (by decide))
                  refine x_iload_n C dM_readNode_286 rfl 3 rfl ?_
                  refine x_bipush (v := nI 6) C dM_readNode_287 (by decide) ?_
                  refine x_icmp_eq (tgt := 298) C dM_readNode_289 (by decide) (fun h => absurd h (by decide)) (fun _ => ?_)
                  refine x_iload_n C dM_readNode_292 rfl 3 rfl ?_
                  refine x_bipush (v := nI 9) C dM_readNode_293 (by decide) ?_
                  refine x_icmp_ne (tgt := 355) C dM_readNode_295 (by decide) (fun h => absurd (by decide) h) (fun _ => ?_)
                  refine x_aload_n C dM_readNode_298 rfl 0 rfl ?_
                  refine x_get C fgM_17 0 rfl rfl dM_readNode_299 ?_
                  refine x_iload C dM_readNode_302 6 rfl ?_
                  refine x_aload_n C dM_readNode_304 rfl 0 rfl ?_
                  refine x_callV C (c_M_next D mm cmm th (va_up iu m true) (va_up ki m 9) (vp_updL mu m 0) (va_up fs m none) (va_up ss m none) tx (us + 1) te my mo mz mi iz ma 0 none od ar lw oc sk sa sl (pp + 1) (va_up re rd m) (rd + 1) co (va_up dq rd l) (va_up bo rd bv) (va_up lc rd (tc_tk 9)) (by omega) y2 (by decide)) kbM_175 kcM_175 [0, 1, 2, 3, 4, 5, 6, 7, 8, 9, 10, 11, 12, 13, 14, 15, 16, 17, 18, 19, 20] [] [0, 1, 2, 3, 4, 5, 6, 7, 8, 9, 10, 11, 12, 13, 14, 15, 16, 17, 18, 19] ([]) rfl rfl (by decide) (by decide) (by decide) rfl 0 rfl rfl ⟨Nat.le_of_ble_eq_true rfl, Nat.le_of_ble_eq_true rfl⟩ ⟨Nat.le_of_ble_eq_true rfl, Nat.le_of_ble_eq_true rfl⟩ [.int (nI m), .ref (mm 3)] rfl rfl (Nat.le_of_ble_eq_true rfl) dM_readNode_305 (fun rv ru hw => ?_)
                  rcases hw with ⟨rfl, rfl, g1n⟩ | ⟨rfl, rfl, g1n, g2n⟩ | ⟨rfl, rfl, g1n, g2n⟩
                  ·
                    show xk_Go K D 9 0 0 (tc_wM mm cmm th (va_up iu m true) (va_up ki m 9) (vp_updL mu m 0) (va_up fs m none) (va_up ss m none) tx (us + 1) te my mo mz mi iz ma 0 none od ar lw oc sk sa sl (pp + 1) (va_up re rd m) (rd + 1) co (va_up dq rd l) (va_up bo rd bv) (va_up lc rd (tc_tk 9))) [(0, .ref (mm 0)), (1, .int (nI j)), (2, .int (nI pp)), (3, .int (nI 9)), (4, .int (nI l)), (5, .int (nI b)), (6, .int (nI m))] 308 [.int (nI 0), .int (nI m), .ref (mm 3)]
                    exact absurd g1n (by decide)
                  ·
                    show xk_Go K D 9 0 0 (tc_wM mm cmm th (va_up iu m true) (va_up ki m 9) (vp_updL mu m 0) (va_up fs m none) (va_up ss m none) tx (us + 1) te my mo mz mi iz ma 1 (some iz) od ar lw oc sk sa sl (pp + 1) (va_up re rd m) (rd + 1) co (va_up dq rd l) (va_up bo rd bv) (va_up lc rd (tc_tk 9))) [(0, .ref (mm 0)), (1, .int (nI j)), (2, .int (nI pp)), (3, .int (nI 9)), (4, .int (nI l)), (5, .int (nI b)), (6, .int (nI m))] 308 [.int (nI 0), .int (nI m), .ref (mm 3)]
                    refine x_i2l (v := 0) C dM_readNode_308 (by decide) ?_
                    refine x_lst C 3 2 (tc_wM mm cmm th (va_up iu m true) (va_up ki m 9) (vp_updL (vp_updL mu m 0) m 0) (va_up fs m none) (va_up ss m none) tx (us + 1) te my mo mz mi iz ma 1 (some iz) od ar lw oc sk sa sl (pp + 1) (va_up re rd m) (rd + 1) co (va_up dq rd l) (va_up bo rd bv) (va_up lc rd (tc_tk 9))) rfl rfl rfl rfl (by omega) (by decide) dM_readNode_309 ?_
                    refine x_aload_n C dM_readNode_310 rfl 0 rfl ?_
                    refine x_aload_n C dM_readNode_311 rfl 0 rfl ?_
                    refine x_get C fgM_165 0 rfl rfl dM_readNode_312 ?_
                    refine x_if_gt (tgt := 344) C dM_readNode_315 (by decide) (fun _ => ?_) (fun h => absurd (by decide) h)
                    refine x_iconst (v := nI 1) C dM_readNode_344 (by decide) ?_
                    refine x_goto C 349 dM_readNode_345 (by decide) ?_
                    refine x_callV C (c_M_must D mm cmm th (va_up iu m true) (va_up ki m 9) (vp_updL (vp_updL mu m 0) m 0) (va_up fs m none) (va_up ss m none) tx (us + 1) te my mo mz mi iz ma 1 (some iz) od ar lw oc sk sa sl (pp + 1) (va_up re rd m) (rd + 1) co (va_up dq rd l) (va_up bo rd bv) (va_up lc rd (tc_tk 9)) true (by first | decide | omega) (fun z => by cases z)) kbM_182 kcM_182 [0, 1, 2, 3, 4, 5, 6, 7, 8, 9, 10, 11, 12, 13, 14, 15, 16, 17, 18, 19, 20] [] [0, 1, 2, 3, 4, 5, 6, 7, 8, 9, 10, 11, 12, 13, 14, 15, 16, 17, 18, 19] ([]) rfl rfl (by decide) (by decide) (by decide) rfl 0 rfl rfl ⟨Nat.le_of_ble_eq_true rfl, Nat.le_of_ble_eq_true rfl⟩ ⟨Nat.le_of_ble_eq_true rfl, Nat.le_of_ble_eq_true rfl⟩ [] rfl rfl (Nat.le_of_ble_eq_true rfl) dM_readNode_349 (fun rv ru hw => ?_)
                    rcases hw with ⟨rfl, rfl, g1u⟩ | ⟨rfl, rfl, g1u⟩
                    ·
                      show xk_Go K D 9 0 0 (tc_wM mm cmm th (va_up iu m true) (va_up ki m 9) (vp_updL (vp_updL mu m 0) m 0) (va_up fs m none) (va_up ss m none) tx (us + 1) te my mo mz mi iz ma 1 (some iz) od ar lw oc sk sa sl (pp + 1) (va_up re rd m) (rd + 1) co (va_up dq rd l) (va_up bo rd bv) (va_up lc rd (tc_tk 9))) [(0, .ref (mm 0)), (1, .int (nI j)), (2, .int (nI pp)), (3, .int (nI 9)), (4, .int (nI l)), (5, .int (nI b)), (6, .int (nI m))] 352 []
                      refine x_goto C 445 dM_readNode_352 (by decide) ?_
                      exact x_sub [0, 1, 6] rfl (jn445 (vp_updL (vp_updL mu m 0) m 0) tx (pp + 1) 1 (some iz) (Or.inr ⟨by first | decide | omega, by first | decide | omega, _, rfl, tc_rE_l (tc_rV_e (by decide) g2n)⟩) (fun i hi => (pk_uLn hi).trans (pk_uLn hi)) (fun i hi t ht => rfl) (⟨by omega, by omega⟩))
                    ·
                      show xk_Go K D 9 0 0 (tc_wM mm cmm th (va_up iu m true) (va_up ki m 9) (vp_updL (vp_updL mu m 0) m 0) (va_up fs m none) (va_up ss m none) tx (us + 1) te my mo mz mi iz ma (tc_f1 1 3) (tc_f2 1 (some iz) ((pp + 1) - 1)) od ar lw oc sk sa sl (pp + 1) (va_up re rd m) (rd + 1) co (va_up dq rd l) (va_up bo rd bv) (va_up lc rd (tc_tk 9))) [(0, .ref (mm 0)), (1, .int (nI j)), (2, .int (nI pp)), (3, .int (nI 9)), (4, .int (nI l)), (5, .int (nI b)), (6, .int (nI m))] 352 []
                      cases g1u
                  ·
                    show xk_Go K D 9 0 0 (tc_wM mm cmm th (va_up iu m true) (va_up ki m 9) (vp_updL mu m 0) (va_up fs m none) (va_up ss m none) tx (us + 1) te my mo mz mi iz ma 0 none od ar lw oc sk sa sl ((pp + 1) + 1) (va_up re rd m) (rd + 1) co (va_up dq rd l) (va_up bo rd bv) (va_up lc rd (tc_tk 9))) [(0, .ref (mm 0)), (1, .int (nI j)), (2, .int (nI pp)), (3, .int (nI 9)), (4, .int (nI l)), (5, .int (nI b)), (6, .int (nI m))] 308 [.int (nI (mi (pp + 1) % 256)), .int (nI m), .ref (mm 3)]
                    refine x_i2l (v := lN (mi (pp + 1) % 256)) C dM_readNode_308 (nI_l (by omega)) ?_
                    refine x_lst C 3 2 (tc_wM mm cmm th (va_up iu m true) (va_up ki m 9) (vp_updL (vp_updL mu m 0) m (lN (mi (pp + 1) % 256))) (va_up fs m none) (va_up ss m none) tx (us + 1) te my mo mz mi iz ma 0 none od ar lw oc sk sa sl ((pp + 1) + 1) (va_up re rd m) (rd + 1) co (va_up dq rd l) (va_up bo rd bv) (va_up lc rd (tc_tk 9))) rfl rfl rfl rfl (by omega) (by decide) dM_readNode_309 ?_
                    refine x_aload_n C dM_readNode_310 rfl 0 rfl ?_
                    refine x_aload_n C dM_readNode_311 rfl 0 rfl ?_
                    refine x_get C fgM_165 0 rfl rfl dM_readNode_312 ?_
                    refine x_if_gt (tgt := 344) C dM_readNode_315 (by decide) (fun h => absurd h (by decide)) (fun _ => ?_)
                    refine x_aload_n C dM_readNode_318 rfl 0 rfl ?_
                    refine x_get C fgM_17 0 rfl rfl dM_readNode_319 ?_
                    refine x_iload C dM_readNode_322 6 rfl ?_
                    refine x_lld C 3 2 rfl rfl (by omega) (by decide) dM_readNode_324 ?_
                    rw [pk_uLs]
                    refine x_iload_n C dM_readNode_325 rfl 3 rfl ?_
                    refine x_bipush (v := nI 6) C dM_readNode_326 (by decide) ?_
                    refine x_icmp_ne (tgt := 337) C dM_readNode_328 (by decide) (fun _ => ?_) (fun h => absurd h (by decide))
                    refine x_ldc2 (v := 2) C dM_readNode_337 klM_195 ?_
                    refine x_lcmp C dM_readNode_340 ?_
                    refine x_if_geC (tgt := 348) C dM_readNode_341 (by decide) (fun h341 => ?_) (fun h341 => ?_)
                    ·
                      refine x_iconst (v := nI 0) C dM_readNode_348 (by decide) ?_
                      refine x_callV C (c_M_must D mm cmm th (va_up iu m true) (va_up ki m 9) (vp_updL (vp_updL mu m 0) m (lN (mi (pp + 1) % 256))) (va_up fs m none) (va_up ss m none) tx (us + 1) te my mo mz mi iz ma 0 none od ar lw oc sk sa sl ((pp + 1) + 1) (va_up re rd m) (rd + 1) co (va_up dq rd l) (va_up bo rd bv) (va_up lc rd (tc_tk 9)) false (by first | decide | omega) (fun _ => by omega)) kbM_182 kcM_182 [0, 1, 2, 3, 4, 5, 6, 7, 8, 9, 10, 11, 12, 13, 14, 15, 16, 17, 18, 19, 20] [] [0, 1, 2, 3, 4, 5, 6, 7, 8, 9, 10, 11, 12, 13, 14, 15, 16, 17, 18, 19] ([]) rfl rfl (by decide) (by decide) (by decide) rfl 0 rfl rfl ⟨Nat.le_of_ble_eq_true rfl, Nat.le_of_ble_eq_true rfl⟩ ⟨Nat.le_of_ble_eq_true rfl, Nat.le_of_ble_eq_true rfl⟩ [] rfl rfl (Nat.le_of_ble_eq_true rfl) dM_readNode_349 (fun rv ru hw => ?_)
                      rcases hw with ⟨rfl, rfl, g1u⟩ | ⟨rfl, rfl, g1u⟩
                      ·
                        show xk_Go K D 9 0 0 (tc_wM mm cmm th (va_up iu m true) (va_up ki m 9) (vp_updL (vp_updL mu m 0) m (lN (mi (pp + 1) % 256))) (va_up fs m none) (va_up ss m none) tx (us + 1) te my mo mz mi iz ma 0 none od ar lw oc sk sa sl ((pp + 1) + 1) (va_up re rd m) (rd + 1) co (va_up dq rd l) (va_up bo rd bv) (va_up lc rd (tc_tk 9))) [(0, .ref (mm 0)), (1, .int (nI j)), (2, .int (nI pp)), (3, .int (nI 9)), (4, .int (nI l)), (5, .int (nI b)), (6, .int (nI m))] 352 []
                        cases g1u
                      ·
                        show xk_Go K D 9 0 0 (tc_wM mm cmm th (va_up iu m true) (va_up ki m 9) (vp_updL (vp_updL mu m 0) m (lN (mi (pp + 1) % 256))) (va_up fs m none) (va_up ss m none) tx (us + 1) te my mo mz mi iz ma (tc_f1 0 3) (tc_f2 0 none (((pp + 1) + 1) - 1)) od ar lw oc sk sa sl ((pp + 1) + 1) (va_up re rd m) (rd + 1) co (va_up dq rd l) (va_up bo rd bv) (va_up lc rd (tc_tk 9))) [(0, .ref (mm 0)), (1, .int (nI j)), (2, .int (nI pp)), (3, .int (nI 9)), (4, .int (nI l)), (5, .int (nI b)), (6, .int (nI m))] 352 []
                        show xk_Go K D 9 0 0 (tc_wM mm cmm th (va_up iu m true) (va_up ki m 9) (vp_updL (vp_updL mu m 0) m (lN (mi (pp + 1) % 256))) (va_up fs m none) (va_up ss m none) tx (us + 1) te my mo mz mi iz ma 3 (some ((pp + 1) + 1 - 1)) od ar lw oc sk sa sl ((pp + 1) + 1) (va_up re rd m) (rd + 1) co (va_up dq rd l) (va_up bo rd bv) (va_up lc rd (tc_tk 9))) [(0, .ref (mm 0)), (1, .int (nI j)), (2, .int (nI pp)), (3, .int (nI 9)), (4, .int (nI l)), (5, .int (nI b)), (6, .int (nI m))] 352 []
                        refine x_goto C 445 dM_readNode_352 (by decide) ?_
                        exact x_sub [0, 1, 6] rfl (jn445 (vp_updL (vp_updL mu m 0) m (lN (mi (pp + 1) % 256))) tx ((pp + 1) + 1) 3 (some ((pp + 1) + 1 - 1)) (Or.inr ⟨by first | decide | omega, by first | decide | omega, _, rfl, tc_rE_3 (tc_rV_b (by decide) g2n) (tc_fit_f (fun z => by have z1 := (tc_fit9 (c := mi (pp + 1) % 256) (by omega)).mp z; have z2 := (pk_lLE (a := 2) (b := mi (pp + 1) % 256) (by decide) (by omega)).mp h341; omega))⟩) (fun i hi => (pk_uLn hi).trans (pk_uLn hi)) (fun i hi t ht => rfl) (⟨by omega, by omega⟩))
                    ·
                      refine x_iconst (v := nI 1) C dM_readNode_344 (by decide) ?_
                      refine x_goto C 349 dM_readNode_345 (by decide) ?_
                      refine x_callV C (c_M_must D mm cmm th (va_up iu m true) (va_up ki m 9) (vp_updL (vp_updL mu m 0) m (lN (mi (pp + 1) % 256))) (va_up fs m none) (va_up ss m none) tx (us + 1) te my mo mz mi iz ma 0 none od ar lw oc sk sa sl ((pp + 1) + 1) (va_up re rd m) (rd + 1) co (va_up dq rd l) (va_up bo rd bv) (va_up lc rd (tc_tk 9)) true (by first | decide | omega) (fun z => by cases z)) kbM_182 kcM_182 [0, 1, 2, 3, 4, 5, 6, 7, 8, 9, 10, 11, 12, 13, 14, 15, 16, 17, 18, 19, 20] [] [0, 1, 2, 3, 4, 5, 6, 7, 8, 9, 10, 11, 12, 13, 14, 15, 16, 17, 18, 19] ([]) rfl rfl (by decide) (by decide) (by decide) rfl 0 rfl rfl ⟨Nat.le_of_ble_eq_true rfl, Nat.le_of_ble_eq_true rfl⟩ ⟨Nat.le_of_ble_eq_true rfl, Nat.le_of_ble_eq_true rfl⟩ [] rfl rfl (Nat.le_of_ble_eq_true rfl) dM_readNode_349 (fun rv ru hw => ?_)
                      rcases hw with ⟨rfl, rfl, g1u⟩ | ⟨rfl, rfl, g1u⟩
                      ·
                        show xk_Go K D 9 0 0 (tc_wM mm cmm th (va_up iu m true) (va_up ki m 9) (vp_updL (vp_updL mu m 0) m (lN (mi (pp + 1) % 256))) (va_up fs m none) (va_up ss m none) tx (us + 1) te my mo mz mi iz ma 0 none od ar lw oc sk sa sl ((pp + 1) + 1) (va_up re rd m) (rd + 1) co (va_up dq rd l) (va_up bo rd bv) (va_up lc rd (tc_tk 9))) [(0, .ref (mm 0)), (1, .int (nI j)), (2, .int (nI pp)), (3, .int (nI 9)), (4, .int (nI l)), (5, .int (nI b)), (6, .int (nI m))] 352 []
                        refine x_goto C 445 dM_readNode_352 (by decide) ?_
                        exact x_sub [0, 1, 6] rfl (jn445 (vp_updL (vp_updL mu m 0) m (lN (mi (pp + 1) % 256))) tx ((pp + 1) + 1) 0 none (Or.inl ⟨rfl, rfl, _, tc_rE_o (tc_rV_b (by decide) g2n) (tc_fit_t ((tc_fit9 (c := mi (pp + 1) % 256) (by omega)).mpr (Nat.not_le.mp (fun z => h341 ((pk_lLE (a := 2) (b := mi (pp + 1) % 256) (by decide) (by omega)).mpr z))))) (fun z => absurd z.1 (by decide)) (by decide), tc_mn_n8 (va_up_self _ _ _) pk_uLs (by decide)⟩) (fun i hi => (pk_uLn hi).trans (pk_uLn hi)) (fun i hi t ht => rfl) (⟨by omega, by omega⟩))
                      ·
                        show xk_Go K D 9 0 0 (tc_wM mm cmm th (va_up iu m true) (va_up ki m 9) (vp_updL (vp_updL mu m 0) m (lN (mi (pp + 1) % 256))) (va_up fs m none) (va_up ss m none) tx (us + 1) te my mo mz mi iz ma (tc_f1 0 3) (tc_f2 0 none (((pp + 1) + 1) - 1)) od ar lw oc sk sa sl ((pp + 1) + 1) (va_up re rd m) (rd + 1) co (va_up dq rd l) (va_up bo rd bv) (va_up lc rd (tc_tk 9))) [(0, .ref (mm 0)), (1, .int (nI j)), (2, .int (nI pp)), (3, .int (nI 9)), (4, .int (nI l)), (5, .int (nI b)), (6, .int (nI m))] 352 []
                        cases g1u
                ·
                  refine x_if_ne (tgt := 286) C dM_readNode_198 (by decide) (fun _ => ?_) (fun h => absurd h (by decide))
                  refine x_iload_n C dM_readNode_286 rfl 3 rfl ?_
                  refine x_bipush (v := nI 6) C dM_readNode_287 (by decide) ?_
                  refine x_icmp_eq (tgt := 298) C dM_readNode_289 (by decide) (fun h => absurd h (by decide)) (fun _ => ?_)
                  refine x_iload_n C dM_readNode_292 rfl 3 rfl ?_
                  refine x_bipush (v := nI 9) C dM_readNode_293 (by decide) ?_
                  refine x_icmp_ne (tgt := 355) C dM_readNode_295 (by decide) (fun _ => ?_) (fun h => absurd h (by decide))
                  refine x_iload_n C dM_readNode_355 rfl 3 rfl ?_
                  refine x_bipush (v := nI 7) C dM_readNode_356 (by decide) ?_
                  refine x_icmp_ne (tgt := 375) C dM_readNode_358 (by decide) (fun _ => ?_) (fun h => absurd h (by decide))
                  refine x_iload_n C dM_readNode_375 rfl 3 rfl ?_
                  refine x_bipush (v := nI 8) C dM_readNode_376 (by decide) ?_
                  refine x_icmp_ne (tgt := 445) C dM_readNode_378 (by decide) (fun _ => ?_) (fun h => absurd h (by decide))
                  exact x_sub [0, 1, 6] rfl (jn445 (vp_updL mu m 0) tx (pp + 1) 0 none (Or.inl ⟨rfl, rfl, _, tc_rE_o (x := 0) (q := pp + 1) rfl (tc_fit_t rfl) (fun z => absurd z.1 (by decide)) (by decide), tc_mn_n8 (va_up_self _ _ _) pk_uLs (by decide)⟩) (fun i hi => pk_uLn hi) (fun i hi t ht => rfl) (⟨by omega, by omega⟩))
                ·
                  refine x_if_ne (tgt := 286) C dM_readNode_198 (by decide) (fun _ => ?_) (fun h => absurd h (by decide))
                  refine x_iload_n C dM_readNode_286 rfl 3 rfl ?_
                  refine x_bipush (v := nI 6) C dM_readNode_287 (by decide) ?_
                  refine x_icmp_eq (tgt := 298) C dM_readNode_289 (by decide) (fun h => absurd h (by decide)) (fun _ => ?_)
                  refine x_iload_n C dM_readNode_292 rfl 3 rfl ?_
                  refine x_bipush (v := nI 9) C dM_readNode_293 (by decide) ?_
                  refine x_icmp_ne (tgt := 355) C dM_readNode_295 (by decide) (fun _ => ?_) (fun h => absurd h (by decide))
                  refine x_iload_n C dM_readNode_355 rfl 3 rfl ?_
                  refine x_bipush (v := nI 7) C dM_readNode_356 (by decide) ?_
                  refine x_icmp_ne (tgt := 375) C dM_readNode_358 (by decide) (fun _ => ?_) (fun h => absurd h (by decide))
                  refine x_iload_n C dM_readNode_375 rfl 3 rfl ?_
                  refine x_bipush (v := nI 8) C dM_readNode_376 (by decide) ?_
                  refine x_icmp_ne (tgt := 445) C dM_readNode_378 (by decide) (fun _ => ?_) (fun h => absurd h (by decide))
                  exact x_sub [0, 1, 6] rfl (jn445 (vp_updL mu m 0) tx (pp + 1) 0 none (Or.inl ⟨rfl, rfl, _, tc_rE_o (x := 0) (q := pp + 1) rfl (tc_fit_t rfl) (fun z => absurd z.1 (by decide)) (by decide), tc_mn_n8 (va_up_self _ _ _) pk_uLs (by decide)⟩) (fun i hi => pk_uLn hi) (fun i hi t ht => rfl) (⟨by omega, by omega⟩))
              refine x_iload_n C dM_readNode_162 rfl 3 rfl ?_
              refine x_iconst (v := nI 1) C dM_readNode_163 (by decide) ?_
              refine x_icmp_neN (tgt := 171) C (by omega) (by decide) dM_readNode_164 (by decide) (fun h164 => ?_) (fun h164 => ?_)
              ·
                refine x_iconst (v := nI 0) C dM_readNode_171 (by decide) ?_
                refine x_iaddN C dM_readNode_172 ?_
                refine x_ist C 19 18 (tc_wM mm cmm th (va_up iu m true) (va_up ki m bk) (vp_updL mu m 0) (va_up fs m none) (va_up ss m none) tx (us + 1) te my mo mz mi iz ma 0 none od ar lw oc sk sa sl (pp + 1) (va_up re rd m) rd co (va_up dq rd l) (va_up bo rd (b + 0)) lc) rfl rfl (xk_nA_up bo rd (b + 0)) rfl (by omega) (by decide) dM_readNode_173 ?_
                exact x_sub [5, 6, 4, 3, 2, 1, 0] rfl (jn174 _ (by rw [if_neg h164]))
              ·
                refine x_iconst (v := nI 1) C dM_readNode_167 (by decide) ?_
                refine x_goto C 172 dM_readNode_168 (by decide) ?_
                refine x_iaddN C dM_readNode_172 ?_
                refine x_ist C 19 18 (tc_wM mm cmm th (va_up iu m true) (va_up ki m bk) (vp_updL mu m 0) (va_up fs m none) (va_up ss m none) tx (us + 1) te my mo mz mi iz ma 0 none od ar lw oc sk sa sl (pp + 1) (va_up re rd m) rd co (va_up dq rd l) (va_up bo rd (b + 1)) lc) rfl rfl (xk_nA_up bo rd (b + 1)) rfl (by omega) (by decide) dM_readNode_173 ?_
                exact x_sub [5, 6, 4, 3, 2, 1, 0] rfl (jn174 _ (by rw [if_pos h164]))
            ·
              refine x_aload_n C dM_readNode_89 rfl 3 rfl ?_
              refine x_bipush (v := nI 6) C dM_readNode_90 (by decide) ?_
              refine x_iload_n C dM_readNode_92 rfl 2 rfl ?_
              refine x_callV C (c_M_wrong D mm cmm th iu ki mu fs ss tx us te my mo mz mi iz ma 0 none od ar lw oc sk sa sl (pp + 1) re rd co dq bo lc 6 pp (by decide)) kbM_171 kcM_171 [0, 1, 2, 3, 4, 5, 6, 7, 8, 9, 10, 11, 12, 13, 14, 15, 16, 17, 18, 19, 20] [] [0, 1, 2, 3, 4, 5, 6, 7, 8, 9, 10, 11, 12, 13, 14, 15, 16, 17, 18, 19] ([]) rfl rfl (by decide) (by decide) (by decide) rfl 0 rfl rfl ⟨Nat.le_of_ble_eq_true rfl, Nat.le_of_ble_eq_true rfl⟩ ⟨Nat.le_of_ble_eq_true rfl, Nat.le_of_ble_eq_true rfl⟩ [] rfl rfl (Nat.le_of_ble_eq_true rfl) dM_readNode_93 (fun rv ru hw => ?_)
              obtain ⟨rfl, rfl⟩ := hw
              show xk_Go K D 9 0 0 (tc_wM mm cmm th iu ki mu fs ss tx us te my mo mz mi iz ma (tc_f1 0 6) (tc_f2 0 none pp) od ar lw oc sk sa sl (pp + 1) re rd co dq bo lc) [(4, .int (nI l)), (3, .int (nI bk)), (2, .int (nI pp)), (0, .ref (mm 0)), (1, .int (nI j))] 96 [.int (nI 0)]
              show xk_Go K D 9 0 0 (tc_wM mm cmm th iu ki mu fs ss tx us te my mo mz mi iz ma 6 (some pp) od ar lw oc sk sa sl (pp + 1) re rd co dq bo lc) [(4, .int (nI l)), (3, .int (nI bk)), (2, .int (nI pp)), (0, .ref (mm 0)), (1, .int (nI j))] 96 [.int (nI 0)]
              refine x_istore C [(5, .int (nI 0)), (4, .int (nI l)), (3, .int (nI bk)), (2, .int (nI pp)), (0, .ref (mm 0)), (1, .int (nI j))] dM_readNode_96 (by decide) rfl ?_
              refine x_aload_n C dM_readNode_98 rfl 4 rfl ?_
              refine x_get C fgM_165 0 rfl rfl dM_readNode_99 ?_
              refine x_if_le (tgt := 106) C dM_readNode_102 (by decide) (fun h => absurd h (by decide)) (fun _ => ?_)
              exact x_vret C T rfl dM_readNode_105 (Or.inr (⟨6, pp, _, _, _, _, _, _, _, _, _, _, _, _, _, rfl, rfl, (tc_rN_6 (Nat.not_le.mpr g2t) (show ¬ 11 < mi pp % 256 by omega) (by omega) (by omega)), (by decide), (⟨ids, y3, y4, rfl, y5⟩), (by omega), (by omega)⟩))
          ·
            refine x_aload_n C dM_readNode_64 rfl 3 rfl ?_
            refine x_iconst (v := nI 5) C dM_readNode_65 (by decide) ?_
            refine x_iload_n C dM_readNode_66 rfl 2 rfl ?_
            refine x_callV C (c_M_wrong D mm cmm th iu ki mu fs ss tx us te my mo mz mi iz ma 0 none od ar lw oc sk sa sl (pp + 1) re rd co dq bo lc 5 pp (by decide)) kbM_171 kcM_171 [0, 1, 2, 3, 4, 5, 6, 7, 8, 9, 10, 11, 12, 13, 14, 15, 16, 17, 18, 19, 20] [] [0, 1, 2, 3, 4, 5, 6, 7, 8, 9, 10, 11, 12, 13, 14, 15, 16, 17, 18, 19] ([]) rfl rfl (by decide) (by decide) (by decide) rfl 0 rfl rfl ⟨Nat.le_of_ble_eq_true rfl, Nat.le_of_ble_eq_true rfl⟩ ⟨Nat.le_of_ble_eq_true rfl, Nat.le_of_ble_eq_true rfl⟩ [] rfl rfl (Nat.le_of_ble_eq_true rfl) dM_readNode_67 (fun rv ru hw => ?_)
            obtain ⟨rfl, rfl⟩ := hw
            show xk_Go K D 9 0 0 (tc_wM mm cmm th iu ki mu fs ss tx us te my mo mz mi iz ma (tc_f1 0 5) (tc_f2 0 none pp) od ar lw oc sk sa sl (pp + 1) re rd co dq bo lc) [(4, .int (nI l)), (3, .int (nI bk)), (2, .int (nI pp)), (0, .ref (mm 0)), (1, .int (nI j))] 70 [.int (nI 0)]
            show xk_Go K D 9 0 0 (tc_wM mm cmm th iu ki mu fs ss tx us te my mo mz mi iz ma 5 (some pp) od ar lw oc sk sa sl (pp + 1) re rd co dq bo lc) [(4, .int (nI l)), (3, .int (nI bk)), (2, .int (nI pp)), (0, .ref (mm 0)), (1, .int (nI j))] 70 [.int (nI 0)]
            refine x_istore C [(5, .int (nI 0)), (4, .int (nI l)), (3, .int (nI bk)), (2, .int (nI pp)), (0, .ref (mm 0)), (1, .int (nI j))] dM_readNode_70 (by decide) rfl ?_
            refine x_aload_n C dM_readNode_72 rfl 4 rfl ?_
            refine x_get C fgM_165 0 rfl rfl dM_readNode_73 ?_
            refine x_if_ne (tgt := 98) C dM_readNode_76 (by decide) (fun _ => ?_) (fun h => absurd h (by decide))
            refine x_aload_n C dM_readNode_98 rfl 4 rfl ?_
            refine x_get C fgM_165 0 rfl rfl dM_readNode_99 ?_
            refine x_if_le (tgt := 106) C dM_readNode_102 (by decide) (fun h => absurd h (by decide)) (fun _ => ?_)
            exact x_vret C T rfl dM_readNode_105 (Or.inr (⟨5, pp, _, _, _, _, _, _, _, _, _, _, _, _, _, rfl, rfl, (tc_rN_5 (Nat.not_le.mpr g2t) (show ¬ 11 < mi pp % 256 by omega) (by omega)), (by decide), (⟨ids, y3, y4, rfl, y5⟩), (by omega), (by omega)⟩))
        ·
          show xk_Go K D 9 0 0 (tc_wM mm cmm th iu ki mu fs ss tx us te my mo mz mi iz ma (tc_f1 0 3) (tc_f2 0 none ((pp + 1) - 1)) od ar lw oc sk sa sl (pp + 1) re rd co dq bo lc) [(3, .int (nI bk)), (2, .int (nI pp)), (0, .ref (mm 0)), (1, .int (nI j))] 32 []
          cases g1u
