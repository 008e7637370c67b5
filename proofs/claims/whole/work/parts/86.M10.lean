set_option maxHeartbeats 4000000 in
set_option maxRecDepth 100000 in
/-- open -/
theorem c_M_open (D : va_G) (mm : Nat → Nat) (cmm : Nat → ClassId) (th : Nat) (iu : Nat → Bool) (ki : Nat → Nat) (mu : Nat → Int64) (fs : Nat → Option Nat) (ss : Nat → Option Nat) (tx : Nat → Nat) (us : Nat) (te : Nat → Nat) (my : Nat) (mo : Nat → Nat) (mz : Nat) (mi : Nat → Nat) (iz : Nat) (ma : Nat) (mf : Nat) (mp : Option Nat) (od : Nat → Nat) (ar : Nat → Option Nat) (lw : Nat → Nat) (oc : Nat) (sk : Nat → Nat) (sa : Nat → Option Nat) (sl : Nat → Nat) (pp : Nat) (re : Nat → Nat) (rd : Nat) (co : Nat → Nat) (dq : Nat → Nat) (bo : Nat → Nat) (lc : Nat → Nat) (y1 : rd ≤ 200) : xk_Ct yM_open cM_open 2 (some .int) { frames := 0, cells := 0, slots := 0, locals := 0 } D (tc_tM cmm) [.ref (mm 0)] (tc_wM mm cmm th iu ki mu fs ss tx us te my mo mz mi iz ma mf mp od ar lw oc sk sa sl pp re rd co dq bo lc) (fun rv ru => (rv = some (.int (xk_oI none)) ∧ ru = tc_wM mm cmm th iu ki mu fs ss tx us te my mo mz mi iz ma mf mp od ar lw oc sk sa sl pp re rd co dq bo lc ∧ (∀ i, i < rd → nI (lc i) = 0)) ∨ (∃ (j : Nat), rv = some (.int (nI j)) ∧ ru = tc_wM mm cmm th iu ki mu fs ss tx us te my mo mz mi iz ma mf mp od ar lw oc sk sa sl pp re rd co dq bo lc ∧ (j < rd) ∧ (¬ nI (lc j) = 0) ∧ (∀ i, j < i → i < rd → nI (lc i) = 0))) := by
  refine xk_enter (by decide) (Nat.le_of_ble_eq_true rfl) (fun K C T hin => ?_)
  show xk_Go K D 2 0 0 (tc_wM mm cmm th iu ki mu fs ss tx us te my mo mz mi iz ma mf mp od ar lw oc sk sa sl pp re rd co dq bo lc) [(0, .ref (mm 0))] 0 []
  refine x_aload_n C dM_open_0 rfl 0 rfl ?_
  refine x_get C fgM_186 0 rfl rfl dM_open_1 ?_
  refine x_iconst (v := nI 1) C dM_open_4 (by decide) ?_
  refine x_isub C dM_open_5 ?_
  refine x_top (tc_pr_sub rd) ?_
  refine x_istore_n C [(1, .int (xk_oI (tc_pr rd))), (0, .ref (mm 0))] dM_open_6 rfl (by decide) rfl ?_
  have lp7 : ∀ (zc : Nat) (jn : Nat), jn < zc → (jn ≤ rd) → (∀ i, jn ≤ i → i < rd → nI (lc i) = 0) → xk_Go K D 2 0 0 (tc_wM mm cmm th iu ki mu fs ss tx us te my mo mz mi iz ma mf mp od ar lw oc sk sa sl pp re rd co dq bo lc) [(0, .ref (mm 0)), (1, .int (xk_oI (tc_pr jn)))] 7 [] := by
    intro zc
    induction zc with
    | zero => intro jn hm; exact absurd hm (Nat.not_lt_zero _)
    | succ zc ih7 =>
      intro jn hm e1 e2
      refine x_iload_n C dM_open_7 rfl 1 rfl ?_
      rcases jn with _ | j
      ·
        show xk_Go K D 2 0 0 (tc_wM mm cmm th iu ki mu fs ss tx us te my mo mz mi iz ma mf mp od ar lw oc sk sa sl pp re rd co dq bo lc) [(0, .ref (mm 0)), (1, .int (xk_oI none))] 8 [.int (xk_oI none)]
        refine x_if_lt (tgt := 26) C dM_open_8 (by decide) (fun _ => ?_) (fun h => absurd (by decide) h)
        refine x_iload_n C dM_open_26 rfl 1 rfl ?_
        exact x_iret C T .int rfl rfl dM_open_27 (Or.inl (⟨rfl, rfl, (fun i hi => e2 i (Nat.zero_le _) hi)⟩))
      ·
        show xk_Go K D 2 0 0 (tc_wM mm cmm th iu ki mu fs ss tx us te my mo mz mi iz ma mf mp od ar lw oc sk sa sl pp re rd co dq bo lc) [(0, .ref (mm 0)), (1, .int (nI j))] 8 [.int (nI j)]
        refine x_if_ltN (tgt := 26) C (by omega) dM_open_8 (by decide) ?_
        refine x_aload_n C dM_open_11 rfl 0 rfl ?_
        refine x_get C fgM_74 0 rfl rfl dM_open_12 ?_
        refine x_iload_n C dM_open_15 rfl 1 rfl ?_
        refine x_ild C 20 19 rfl rfl (by omega) (by decide) dM_open_16 ?_
        show xk_Go K D 2 0 0 (tc_wM mm cmm th iu ki mu fs ss tx us te my mo mz mi iz ma mf mp od ar lw oc sk sa sl pp re rd co dq bo lc) [(0, .ref (mm 0)), (1, .int (nI j))] 17 [.int (nI (lc j))]
        refine x_if_ne (tgt := 26) C dM_open_17 (by decide) (fun h17 => ?_) (fun h17 => ?_)
        ·
          refine x_iload_n C dM_open_26 rfl 1 rfl ?_
          exact x_iret C T .int rfl rfl dM_open_27 (Or.inr (⟨j, rfl, rfl, (by omega), h17, (fun i h1 h2 => e2 i h1 h2)⟩))
        ·
          refine x_iinc (q := 1) C (xk_oI (tc_pr j)) [(1, .int (xk_oI (tc_pr j))), (0, .ref (mm 0))] dM_open_20 rfl (tc_pr_dec j) (by decide) rfl ?_
          refine x_goto C 7 dM_open_23 (by decide) ?_
          exact x_sub [1, 0] rfl (ih7 j (by omega) (by omega) (fun i h1 h2 => by rcases Nat.lt_or_ge j i with q | q; exact e2 i (by omega) h2; obtain rfl : i = j := (by omega); exact h17))
  exact x_sub [1, 0] rfl (lp7 _ rd (Nat.lt_succ_self _) (Nat.le_refl _) (fun i h1 h2 => by omega))
set_option maxHeartbeats 4000000 in
set_option maxRecDepth 100000 in
/-- read -/
theorem c_M_read (D : va_G) (mm : Nat → Nat) (cmm : Nat → ClassId) (th : Nat) (iu : Nat → Bool) (ki : Nat → Nat) (mu : Nat → Int64) (fs : Nat → Option Nat) (ss : Nat → Option Nat) (tx : Nat → Nat) (us : Nat) (te : Nat → Nat) (my : Nat) (mo : Nat → Nat) (mz : Nat) (mi : Nat → Nat) (iz : Nat) (ma : Nat) (mf : Nat) (mp : Option Nat) (od : Nat → Nat) (ar : Nat → Option Nat) (lw : Nat → Nat) (oc : Nat) (sk : Nat → Nat) (sa : Nat → Option Nat) (sl : Nat → Nat) (pp : Nat) (re : Nat → Nat) (rd : Nat) (co : Nat → Nat) (dq : Nat → Nat) (bo : Nat → Nat) (lc : Nat → Nat) (Ts : List (List tc_Nd)) (y1 : tc_RM Ts (iu, ki, mu, fs, ss, tx) us te my) (y2 : iz ≤ 4096) (y3 : ma ≤ iz) : xk_Ct yM_read cM_read 2 (some .int) { frames := 4, cells := 0, slots := 0, locals := 97 } D (tc_tM cmm) [.ref (mm 0)] (tc_wM mm cmm th iu ki mu fs ss tx us te my mo mz mi iz ma mf mp od ar lw oc sk sa sl pp re rd co dq bo lc) (fun rv ru => (rv = some (.int (xk_oI none)) ∧ ru = tc_wM mm cmm 0 iu ki mu fs ss tx us te my mo mz mi iz ma mf mp od ar lw oc sk sa sl pp re rd co dq bo lc ∧ (iz ≤ ma)) ∨ (∃ (f : Nat), ∃ (q : Nat), ∃ (nw : Nat), ∃ (iug : Nat → Bool), ∃ (kig : Nat → Nat), ∃ (mug : Nat → Int64), ∃ (fsg : Nat → Option Nat), ∃ (ssg : Nat → Option Nat), ∃ (txg : Nat → Nat), ∃ (reg : Nat → Nat), ∃ (rdg : Nat), ∃ (dqg : Nat → Nat), ∃ (bog : Nat → Nat), ∃ (lcg : Nat → Nat), rv = some (.int (nI f)) ∧ ru = tc_wM mm cmm 0 iug kig mug fsg ssg txg us te my mo mz mi iz ma f (some q) od ar lw oc sk sa sl nw reg rdg co dqg bog lcg ∧ (ma < iz) ∧ (tc_rT (tc_B mi) iz us ma = .inl (f, q)) ∧ (tc_RM Ts (iug, kig, mug, fsg, ssg, txg) us te my) ∧ (0 < f ∧ f < 10)) ∨ (∃ (L : List tc_Nd), ∃ (nw : Nat), ∃ (iug : Nat → Bool), ∃ (kig : Nat → Nat), ∃ (mug : Nat → Int64), ∃ (fsg : Nat → Option Nat), ∃ (ssg : Nat → Option Nat), ∃ (txg : Nat → Nat), ∃ (usg : Nat), ∃ (teg : Nat → Nat), ∃ (myg : Nat), ∃ (reg : Nat → Nat), ∃ (dqg : Nat → Nat), ∃ (bog : Nat → Nat), ∃ (lcg : Nat → Nat), ∃ (rdg : Nat), rv = some (.int (nI 0)) ∧ ru = tc_wM mm cmm 0 iug kig mug fsg ssg txg usg teg myg mo mz mi iz nw 0 none od ar lw oc sk sa sl nw reg rdg co dqg bog lcg ∧ (ma < iz) ∧ (tc_rT (tc_B mi) iz us ma = .inr (L, nw)) ∧ (tc_RM (L :: Ts) (iug, kig, mug, fsg, ssg, txg) usg teg myg) ∧ (nw ≤ iz))) := by
  refine xk_enter (by decide) (Nat.le_of_ble_eq_true rfl) (fun K C T hin => ?_)
  obtain ⟨yu, yv, yn, yc⟩ := tc_RM_us y1
  show xk_Go K D 2 0 0 (tc_wM mm cmm th iu ki mu fs ss tx us te my mo mz mi iz ma mf mp od ar lw oc sk sa sl pp re rd co dq bo lc) [(0, .ref (mm 0))] 0 []
  refine x_aload_n C dM_read_0 rfl 0 rfl ?_
  refine x_iconst (v := nI 0) C dM_read_1 (by decide) ?_
  refine x_put C fpM_77 0 (tc_wM mm cmm 0 iu ki mu fs ss tx us te my mo mz mi iz ma mf mp od ar lw oc sk sa sl pp re rd co dq bo lc) rfl rfl rfl rfl (Nat.le_of_ble_eq_true rfl) dM_read_2 ?_
  refine x_aload_n C dM_read_5 rfl 0 rfl ?_
  refine x_get C fgM_162 0 rfl rfl dM_read_6 ?_
  refine x_aload_n C dM_read_9 rfl 0 rfl ?_
  refine x_get C fgM_159 0 rfl rfl dM_read_10 ?_
  refine x_icmp_neN (tgt := 18) C (by omega) (by omega) dM_read_13 (by decide) (fun h13 => ?_) (fun h13 => ?_)
  ·
    refine x_aload_n C dM_read_18 rfl 0 rfl ?_
    refine x_iconst (v := nI 0) C dM_read_19 (by decide) ?_
    refine x_put C fpM_165 0 (tc_wM mm cmm 0 iu ki mu fs ss tx us te my mo mz mi iz ma 0 mp od ar lw oc sk sa sl pp re rd co dq bo lc) rfl rfl rfl rfl (Nat.le_of_ble_eq_true rfl) dM_read_20 ?_
    refine x_aload_n C dM_read_23 rfl 0 rfl ?_
    refine x_iconst (v := xk_oI none) C dM_read_24 (by decide) ?_
    refine x_put C fpM_40 0 (tc_wM mm cmm 0 iu ki mu fs ss tx us te my mo mz mi iz ma 0 none od ar lw oc sk sa sl pp re rd co dq bo lc) rfl rfl rfl rfl (Nat.le_of_ble_eq_true rfl) dM_read_25 ?_
    refine x_aload_n C dM_read_28 rfl 0 rfl ?_
    refine x_aload_n C dM_read_29 rfl 0 rfl ?_
    refine x_get C fgM_162 0 rfl rfl dM_read_30 ?_
    refine x_put C fpM_168 0 (tc_wM mm cmm 0 iu ki mu fs ss tx us te my mo mz mi iz ma 0 none od ar lw oc sk sa sl ma re rd co dq bo lc) rfl rfl rfl rfl (Nat.le_of_ble_eq_true rfl) dM_read_33 ?_
    refine x_aload_n C dM_read_36 rfl 0 rfl ?_
    refine x_iconst (v := nI 0) C dM_read_37 (by decide) ?_
    refine x_put C fpM_186 0 (tc_wM mm cmm 0 iu ki mu fs ss tx us te my mo mz mi iz ma 0 none od ar lw oc sk sa sl ma re 0 co dq bo lc) rfl rfl rfl rfl (Nat.le_of_ble_eq_true rfl) dM_read_38 ?_
    refine x_aload_n C dM_read_41 rfl 0 rfl ?_
    refine x_iconst (v := xk_oI none) C dM_read_42 (by decide) ?_
    refine x_callV C (c_M_readNode D mm cmm 0 iu ki mu fs ss tx us te my mo mz mi iz ma od ar lw oc sk sa sl ma re 0 co dq bo lc none ([]) (iu, ki, mu, fs, ss, tx) 1 0 y3 y2 (tc_PF_0 _) rfl (fun j c h => by simp at h) (fun _ => ⟨rfl, rfl⟩) (fun j hj => by cases hj) (⟨Nat.zero_le _, yu⟩) (fun h => tc_RM_free y1 h) (⟨by decide, by decide⟩)) kbM_200 kcM_200 [0, 1, 2, 3, 4, 5, 6, 7, 8, 9, 10, 11, 12, 13, 14, 15, 16, 17, 18, 19, 20] [] [0, 1, 2, 3, 4, 5, 6, 7, 8, 9, 10, 11, 12, 13, 14, 15, 16, 17, 18, 19] ([]) rfl rfl (by decide) (by decide) (by decide) rfl 0 rfl rfl ⟨Nat.le_of_ble_eq_true rfl, Nat.le_of_ble_eq_true rfl⟩ ⟨Nat.le_of_ble_eq_true rfl, Nat.le_of_ble_eq_true rfl⟩ [] rfl rfl (Nat.le_of_ble_eq_true rfl) dM_read_43 (fun rv ru hw => ?_)
    rcases hw with ⟨x, nw, m, fsg, ssg, mug, txg, lcg, rfl, rfl, g1, g2, g3, g4, g5, g6, g7, g8, g9⟩ | ⟨f, q, nw, iug, kig, mug, fsg, ssg, txg, usg, reg, rdg, dqg, bog, lcg, rfl, rfl, g1, g2, g3, g4, g5⟩
    ·
      show xk_Go K D 2 0 0 (tc_wM mm cmm 0 (va_up iu m true) (va_up ki m x.1) mug fsg ssg txg (us + 1) te my mo mz mi iz ma 0 none od ar lw oc sk sa sl nw (va_up re 0 m) (0 + 1) co (va_up dq 0 1) (va_up bo 0 (0 + if x.1 = 1 then 1 else 0)) lcg) [(0, .ref (mm 0))] 46 []
      have hRd := tc_Rd_1 (re := re) (dq := dq) (bo := bo) rfl g1 (tc_B_lt mi) g2 g3 g4 g5 (g6 rfl)
      have hlb : ∀ i, i < 0 + 1 → lcg i ≤ 2 := tc_Rd_lc hRd
      refine x_aload_n C dM_read_46 rfl 0 rfl ?_
      refine x_callV C (c_M_open D mm cmm 0 (va_up iu m true) (va_up ki m x.1) mug fsg ssg txg (us + 1) te my mo mz mi iz ma 0 none od ar lw oc sk sa sl nw (va_up re 0 m) (0 + 1) co (va_up dq 0 1) (va_up bo 0 (0 + if x.1 = 1 then 1 else 0)) lcg (by omega)) kbM_203 kcM_203 [0, 1, 2, 3, 4, 5, 6, 7, 8, 9, 10, 11, 12, 13, 14, 15, 16, 17, 18, 19, 20] [] [0, 1, 2, 3, 4, 5, 6, 7, 8, 9, 10, 11, 12, 13, 14, 15, 16, 17, 18, 19] ([]) rfl rfl (by decide) (by decide) (by decide) rfl 0 rfl rfl ⟨Nat.le_of_ble_eq_true rfl, Nat.le_of_ble_eq_true rfl⟩ ⟨Nat.le_of_ble_eq_true rfl, Nat.le_of_ble_eq_true rfl⟩ [] rfl rfl (Nat.le_of_ble_eq_true rfl) dM_read_47 (fun rv ru hw => ?_)
      rcases hw with ⟨rfl, rfl, o1⟩ | ⟨jo, rfl, rfl, o1, o2, o3⟩
      ·
        show xk_Go K D 2 0 0 (tc_wM mm cmm 0 (va_up iu m true) (va_up ki m x.1) mug fsg ssg txg (us + 1) te my mo mz mi iz ma 0 none od ar lw oc sk sa sl nw (va_up re 0 m) (0 + 1) co (va_up dq 0 1) (va_up bo 0 (0 + if x.1 = 1 then 1 else 0)) lcg) [(0, .ref (mm 0))] 50 [.int (xk_oI none)]
        have o1 := fun i hi => (tc_lc0 (hlb i hi)).mp (o1 i hi)
        refine x_istore_n C [(1, .int (xk_oI none)), (0, .ref (mm 0))] dM_read_50 rfl (by decide) rfl ?_
        have lp51 : ∀ (zc : Nat) (L : List tc_Nd) (ids : List Nat) (v : Option Nat) (p : Nat) (iug : Nat → Bool) (kig : Nat → Nat) (mug : Nat → Int64) (fsg : Nat → Option Nat) (ssg : Nat → Option Nat) (txg : Nat → Nat) (reg : Nat → Nat) (dqg : Nat → Nat) (bog : Nat → Nat) (lcg : Nat → Nat), (200 - ids.length) < zc → (tc_rT (tc_B mi) iz us ma = tc_rL (tc_B mi) iz us (202 - L.length) p (tc_pd 0 [tc_q0] L) L) → (tc_Rd L ids (iu, ki, mu, fs, ss, tx) (iug, kig, mug, fsg, ssg, txg) reg dqg bog lcg) → (v = none → ∀ i, i < ids.length → lcg i = 0) → (∀ j, v = some j → j < ids.length ∧ 0 < lcg j ∧ ∀ i, j < i → i < ids.length → lcg i = 0) → (p ≤ iz) → (0 < ids.length) → xk_Go K D 2 0 0 (tc_wM mm cmm 0 iug kig mug fsg ssg txg (us + ids.length) te my mo mz mi iz ma 0 none od ar lw oc sk sa sl p reg ids.length co dqg bog lcg) [(0, .ref (mm 0)), (1, .int (xk_oI v))] 51 [] := by
          intro zc
          induction zc with
          | zero => intro L ids v p iug kig mug fsg ssg txg reg dqg bog lcg hm; exact absurd hm (Nat.not_lt_zero _)
          | succ zc ih51 =>
            intro L ids v p iug kig mug fsg ssg txg reg dqg bog lcg hm e1 e2 e3 e4 e5 e6
            have eln := tc_Rd_ln e2
            have eus := tc_PF_us e2.1 y1
            refine x_iload_n C dM_read_51 rfl 1 rfl ?_
            refine x_if_ltO (tgt := 75) C (by first | omega | exact (fun z hz => by have := (e4 z hz).1; omega)) dM_read_52 (by decide) (fun h52 => ?_) (fun j h52 => ?_)
            ·
              rw [h52]
              show xk_Go K D 2 0 0 (tc_wM mm cmm 0 iug kig mug fsg ssg txg (us + ids.length) te my mo mz mi iz ma 0 none od ar lw oc sk sa sl p reg ids.length co dqg bog lcg) [(0, .ref (mm 0)), (1, .int (xk_oI none))] 75 []
              refine x_aload_n C dM_read_75 rfl 0 rfl ?_
              refine x_get C fgM_165 0 rfl rfl dM_read_76 ?_
              refine x_if_le (tgt := 113) C dM_read_79 (by decide) (fun _ => ?_) (fun h => absurd (by decide) h)
              refine x_aload_n C dM_read_113 rfl 0 rfl ?_
              refine x_aload_n C dM_read_114 rfl 0 rfl ?_
              refine x_get C fgM_168 0 rfl rfl dM_read_115 ?_
              refine x_put C fpM_162 0 (tc_wM mm cmm 0 iug kig mug fsg ssg txg (us + ids.length) te my mo mz mi iz p 0 none od ar lw oc sk sa sl p reg ids.length co dqg bog lcg) rfl rfl rfl rfl (Nat.le_of_ble_eq_true rfl) dM_read_118 ?_
              refine x_aload_n C dM_read_121 rfl 0 rfl ?_
              refine x_get C fgM_31 0 rfl rfl dM_read_122 ?_
              refine x_aload_n C dM_read_125 rfl 0 rfl ?_
              refine x_get C fgM_94 0 rfl rfl dM_read_126 ?_
              refine x_aload_n C dM_read_129 rfl 0 rfl ?_
              refine x_get C fgM_62 0 rfl rfl dM_read_130 ?_
              refine x_iconst (v := nI 0) C dM_read_133 (by decide) ?_
              refine x_ild C 16 15 rfl rfl (by omega) (by decide) dM_read_134 ?_
              show xk_Go K D 2 0 0 (tc_wM mm cmm 0 iug kig mug fsg ssg txg (us + ids.length) te my mo mz mi iz p 0 none od ar lw oc sk sa sl p reg ids.length co dqg bog lcg) [(0, .ref (mm 0)), (1, .int (xk_oI none))] 135 [.int (nI (reg 0)), .int (nI my), .ref (mm 7)]
              refine x_ist C 7 6 (tc_wM mm cmm 0 iug kig mug fsg ssg txg (us + ids.length) (va_up te my (reg 0)) my mo mz mi iz p 0 none od ar lw oc sk sa sl p reg ids.length co dqg bog lcg) rfl rfl (xk_nA_up te my (reg 0)) rfl (by omega) (by decide) dM_read_135 ?_
              refine x_aload_n C dM_read_136 rfl 0 rfl ?_
              refine x_dup C dM_read_137 rfl ?_
              refine x_get C fgM_94 0 rfl rfl dM_read_138 ?_
              refine x_iconst (v := nI 1) C dM_read_141 (by decide) ?_
              refine x_iaddN C dM_read_142 ?_
              refine x_put C fpM_94 0 (tc_wM mm cmm 0 iug kig mug fsg ssg txg (us + ids.length) (va_up te my (reg 0)) (my + 1) mo mz mi iz p 0 none od ar lw oc sk sa sl p reg ids.length co dqg bog lcg) rfl rfl rfl rfl (Nat.le_of_ble_eq_true rfl) dM_read_143 ?_
              refine x_iconst (v := nI 0) C dM_read_146 (by decide) ?_
              have hpd0 : tc_pd 0 [tc_q0] L = [] := e2.2.2.2.1.trans (tc_lz_none (e3 h52))
              exact x_iret C T .int rfl rfl dM_read_147 (Or.inr (Or.inr (⟨L, _, _, _, _, _, _, _, _, _, _, _, _, _, _, _, rfl, rfl, (by omega), (e1.trans (by rw [hpd0]; exact tc_rL_e)), (tc_Rd_RM e2 (e3 h52) e6 y1), e5⟩)))
            ·
              rw [h52]
              show xk_Go K D 2 0 0 (tc_wM mm cmm 0 iug kig mug fsg ssg txg (us + ids.length) te my mo mz mi iz ma 0 none od ar lw oc sk sa sl p reg ids.length co dqg bog lcg) [(0, .ref (mm 0)), (1, .int (nI j))] 55 []
              refine x_aload_n C dM_read_55 rfl 0 rfl ?_
              refine x_get C fgM_165 0 rfl rfl dM_read_56 ?_
              refine x_if_ne (tgt := 75) C dM_read_59 (by decide) (fun h => absurd (by decide) h) (fun _ => ?_)
              refine x_aload_n C dM_read_62 rfl 0 rfl ?_
              refine x_iload_n C dM_read_63 rfl 1 rfl ?_
              obtain ⟨ej1, ej2, ej3⟩ := e4 j h52
              have eat := tc_Rd_at e2 ej1
              have eq61 := tc_Rd_q e2 ej1 ej3 ej2
              refine x_callV C (c_M_readNode D mm cmm 0 iug kig mug fsg ssg txg (us + ids.length) te my mo mz mi iz ma od ar lw oc sk sa sl p reg ids.length co dqg bog lcg (some j) ids (iu, ki, mu, fs, ss, tx) (dqg j + 1) (bog j) e5 y2 e2.1 rfl e2.2.1 (fun h => by cases h) (fun z hz => by obtain rfl : j = z := (by simpa using hz); exact ⟨rfl, rfl, ej1, ej2, eat⟩) (⟨by omega, eus⟩) (fun h => tc_PF_free e2.1 y1 h) (⟨by omega, by omega⟩)) kbM_200 kcM_200 [0, 1, 2, 3, 4, 5, 6, 7, 8, 9, 10, 11, 12, 13, 14, 15, 16, 17, 18, 19, 20] [] [0, 1, 2, 3, 4, 5, 6, 7, 8, 9, 10, 11, 12, 13, 14, 15, 16, 17, 18, 19] ([]) rfl rfl (by decide) (by decide) (by decide) rfl 0 rfl rfl ⟨Nat.le_of_ble_eq_true rfl, Nat.le_of_ble_eq_true rfl⟩ ⟨Nat.le_of_ble_eq_true rfl, Nat.le_of_ble_eq_true rfl⟩ [] rfl rfl (Nat.le_of_ble_eq_true rfl) dM_read_64 (fun rv ru hw => ?_)
              rcases hw with ⟨x, nw, m, fs1, ss1, mu1, tx1, lc1, rfl, rfl, g1, g2, g3, g4, g5, g6, g7, g8, g9⟩ | ⟨f, q, nw, iu1, ki1, mu1, fs1, ss1, tx1, us1, re1, rd1, dq1, bo1, lc1, rfl, rfl, g1, g2, g3, g4, g5⟩
              ·
                show xk_Go K D 2 0 0 (tc_wM mm cmm 0 (va_up iug m true) (va_up kig m x.1) mu1 fs1 ss1 tx1 ((us + ids.length) + 1) te my mo mz mi iz ma 0 none od ar lw oc sk sa sl nw (va_up reg ids.length m) (ids.length + 1) co (va_up dqg ids.length (dqg j + 1)) (va_up bog ids.length ((bog j) + if x.1 = 1 then 1 else 0)) lc1) [(0, .ref (mm 0)), (1, .int (nI j))] 67 []
                have hRd := tc_Rd_s e2 rfl ej1 ej3 ej2 g1 (tc_B_lt mi) g2 g3 g4 g5 (g7 j rfl)
                have eus1 := tc_PF_us hRd.1 y1
                have hlb := tc_Rd_lc hRd
                rw [List.length_append, List.length_singleton] at eus1 hlb
                refine x_aload_n C dM_read_67 rfl 0 rfl ?_
                refine x_callV C (c_M_open D mm cmm 0 (va_up iug m true) (va_up kig m x.1) mu1 fs1 ss1 tx1 ((us + ids.length) + 1) te my mo mz mi iz ma 0 none od ar lw oc sk sa sl nw (va_up reg ids.length m) (ids.length + 1) co (va_up dqg ids.length (dqg j + 1)) (va_up bog ids.length ((bog j) + if x.1 = 1 then 1 else 0)) lc1 (by omega)) kbM_203 kcM_203 [0, 1, 2, 3, 4, 5, 6, 7, 8, 9, 10, 11, 12, 13, 14, 15, 16, 17, 18, 19, 20] [] [0, 1, 2, 3, 4, 5, 6, 7, 8, 9, 10, 11, 12, 13, 14, 15, 16, 17, 18, 19] ([]) rfl rfl (by decide) (by decide) (by decide) rfl 0 rfl rfl ⟨Nat.le_of_ble_eq_true rfl, Nat.le_of_ble_eq_true rfl⟩ ⟨Nat.le_of_ble_eq_true rfl, Nat.le_of_ble_eq_true rfl⟩ [] rfl rfl (Nat.le_of_ble_eq_true rfl) dM_read_68 (fun rv ru hw => ?_)
                rcases hw with ⟨rfl, rfl, o1⟩ | ⟨jo, rfl, rfl, o1, o2, o3⟩
                ·
                  show xk_Go K D 2 0 0 (tc_wM mm cmm 0 (va_up iug m true) (va_up kig m x.1) mu1 fs1 ss1 tx1 ((us + ids.length) + 1) te my mo mz mi iz ma 0 none od ar lw oc sk sa sl nw (va_up reg ids.length m) (ids.length + 1) co (va_up dqg ids.length (dqg j + 1)) (va_up bog ids.length ((bog j) + if x.1 = 1 then 1 else 0)) lc1) [(0, .ref (mm 0)), (1, .int (nI j))] 71 [.int (xk_oI none)]
                  have o1 := fun i hi => (tc_lc0 (hlb i hi)).mp (o1 i hi)
                  refine x_istore_n C [(1, .int (xk_oI none)), (0, .ref (mm 0))] dM_read_71 rfl (by decide) rfl ?_
                  refine x_goto C 51 dM_read_72 (by decide) ?_
                  have hil : (ids ++ [m]).length = ids.length + 1 := by simp
                  rw [show us + ids.length + 1 = us + (ids ++ [m]).length by rw [hil]; omega, ← hil]
                  exact x_sub [1, 0] rfl (ih51 (L ++ [x]) (ids ++ [m]) none nw (va_up iug m true) (va_up kig m x.1) mu1 fs1 ss1 tx1 (va_up reg ids.length m) (va_up dqg ids.length (dqg j + 1)) (va_up bog ids.length ((bog j) + if x.1 = 1 then 1 else 0)) lc1 (by omega) (e1.trans (tc_rL_pd (tc_Rd_pd e2 ej1 ej3 ej2) (by omega) (by rw [eln]; exact g1))) hRd (fun _ => (by rw [hil]; exact o1)) (fun z hz => by cases hz) g9 (by omega))
                ·
                  show xk_Go K D 2 0 0 (tc_wM mm cmm 0 (va_up iug m true) (va_up kig m x.1) mu1 fs1 ss1 tx1 ((us + ids.length) + 1) te my mo mz mi iz ma 0 none od ar lw oc sk sa sl nw (va_up reg ids.length m) (ids.length + 1) co (va_up dqg ids.length (dqg j + 1)) (va_up bog ids.length ((bog j) + if x.1 = 1 then 1 else 0)) lc1) [(0, .ref (mm 0)), (1, .int (nI j))] 71 [.int (nI jo)]
                  have o2 := Nat.pos_of_ne_zero (fun z => o2 ((tc_lc0 (hlb jo o1)).mpr z))
                  have o3 := fun i hi hi2 => (tc_lc0 (hlb i hi2)).mp (o3 i hi hi2)
                  refine x_istore_n C [(1, .int (nI jo)), (0, .ref (mm 0))] dM_read_71 rfl (by decide) rfl ?_
                  refine x_goto C 51 dM_read_72 (by decide) ?_
                  have hil : (ids ++ [m]).length = ids.length + 1 := by simp
                  rw [show us + ids.length + 1 = us + (ids ++ [m]).length by rw [hil]; omega, ← hil]
                  exact x_sub [1, 0] rfl (ih51 (L ++ [x]) (ids ++ [m]) (some jo) nw (va_up iug m true) (va_up kig m x.1) mu1 fs1 ss1 tx1 (va_up reg ids.length m) (va_up dqg ids.length (dqg j + 1)) (va_up bog ids.length ((bog j) + if x.1 = 1 then 1 else 0)) lc1 (by omega) (e1.trans (tc_rL_pd (tc_Rd_pd e2 ej1 ej3 ej2) (by omega) (by rw [eln]; exact g1))) hRd (fun z => by cases z) (fun z hz => by obtain rfl : jo = z := (by simpa using hz); rw [hil]; exact ⟨o1, o2, o3⟩) g9 (by omega))
              ·
                show xk_Go K D 2 0 0 (tc_wM mm cmm 0 iu1 ki1 mu1 fs1 ss1 tx1 us1 te my mo mz mi iz ma f (some q) od ar lw oc sk sa sl nw re1 rd1 co dq1 bo1 lc1) [(0, .ref (mm 0)), (1, .int (nI j))] 67 []
                obtain ⟨js, hp1, hp2, hp3, hp4⟩ := g3
                have hjl := (tc_PF_len hp1).1
                rw [← hp2] at hjl
                refine x_aload_n C dM_read_67 rfl 0 rfl ?_
                refine x_callV C (c_M_open D mm cmm 0 iu1 ki1 mu1 fs1 ss1 tx1 us1 te my mo mz mi iz ma f (some q) od ar lw oc sk sa sl nw re1 rd1 co dq1 bo1 lc1 hjl) kbM_203 kcM_203 [0, 1, 2, 3, 4, 5, 6, 7, 8, 9, 10, 11, 12, 13, 14, 15, 16, 17, 18, 19, 20] [] [0, 1, 2, 3, 4, 5, 6, 7, 8, 9, 10, 11, 12, 13, 14, 15, 16, 17, 18, 19] ([]) rfl rfl (by decide) (by decide) (by decide) rfl 0 rfl rfl ⟨Nat.le_of_ble_eq_true rfl, Nat.le_of_ble_eq_true rfl⟩ ⟨Nat.le_of_ble_eq_true rfl, Nat.le_of_ble_eq_true rfl⟩ [] rfl rfl (Nat.le_of_ble_eq_true rfl) dM_read_68 (fun rv ru hw => ?_)
                rcases hw with ⟨rfl, rfl, o1⟩ | ⟨jf, rfl, rfl, o1, o2, o3⟩
                ·
                  show xk_Go K D 2 0 0 (tc_wM mm cmm 0 iu1 ki1 mu1 fs1 ss1 tx1 us1 te my mo mz mi iz ma f (some q) od ar lw oc sk sa sl nw re1 rd1 co dq1 bo1 lc1) [(0, .ref (mm 0)), (1, .int (nI j))] 71 [.int (xk_oI none)]
                  refine x_istore_n C [(1, .int (xk_oI none)), (0, .ref (mm 0))] dM_read_71 rfl (by decide) rfl ?_
                  refine x_goto C 51 dM_read_72 (by decide) ?_
                  refine x_iload_n C dM_read_51 rfl 0 rfl ?_
                  refine x_if_lt (tgt := 75) C dM_read_52 (by decide) (fun _ => ?_) (fun h => absurd (by decide) h)
                  refine x_aload_n C dM_read_75 rfl 1 rfl ?_
                  refine x_get C fgM_165 0 rfl rfl dM_read_76 ?_
                  refine x_if_leN (tgt := 113) C (by omega) dM_read_79 (by decide) (fun h79 => ?_) (fun h79 => ?_)
                  ·
                    exact absurd h79 (by omega)
                  ·
                    refine x_iconst (v := nI 0) C dM_read_82 (by decide) ?_
                    refine x_istore_n C [(1, .int (nI 0)), (0, .ref (mm 0))] dM_read_83 rfl (by decide) rfl ?_
                    have lp84 : ∀ (zc : Nat) (f : Nat) (q : Nat) (nw : Nat) (iug : Nat → Bool) (kig : Nat → Nat) (mug : Nat → Int64) (fsg : Nat → Option Nat) (ssg : Nat → Option Nat) (txg : Nat → Nat) (usg : Nat) (reg : Nat → Nat) (rdg : Nat) (dqg : Nat → Nat) (bog : Nat → Nat) (lcg : Nat → Nat) (js : List Nat) (k : Nat) (iu2 : Nat → Bool), (js.length - k) < zc → (tc_rT (tc_B mi) iz us ma = .inl (f, q)) → (0 < f ∧ f < 10) → (tc_PF js (iu, ki, mu, fs, ss, tx) (iu2, kig, mug, fsg, ssg, txg)) → (rdg = js.length) → (usg + k = us + js.length) → (∀ j c, js[j]? = some c → reg j = c) → (k ≤ js.length) → (∀ i, i ∈ js.take k → iug i = false) → (∀ i, i ∉ js.take k → iug i = iu2 i) → xk_Go K D 2 0 0 (tc_wM mm cmm 0 iug kig mug fsg ssg txg usg te my mo mz mi iz ma f (some q) od ar lw oc sk sa sl nw reg rdg co dqg bog lcg) [(0, .ref (mm 0)), (1, .int (nI k))] 84 [] := by
                      intro zc
                      induction zc with
                      | zero => intro f q nw iug kig mug fsg ssg txg usg reg rdg dqg bog lcg js k iu2 hm; exact absurd hm (Nat.not_lt_zero _)
                      | succ zc ih84 =>
                        intro f q nw iug kig mug fsg ssg txg usg reg rdg dqg bog lcg js k iu2 hm c1 c2 c3 c4 c5 c6 c7 c8 c9
                        have hjl := (tc_PF_len c3).1
                        have huj := tc_PF_us c3 y1
                        refine x_iload_n C dM_read_84 rfl 1 rfl ?_
                        refine x_aload_n C dM_read_85 rfl 0 rfl ?_
                        refine x_get C fgM_186 0 rfl rfl dM_read_86 ?_
                        refine x_icmp_geN (tgt := 108) C (by omega) (by omega) dM_read_89 (by decide) (fun h89 => ?_) (fun h89 => ?_)
                        ·
                          refine x_aload_n C dM_read_108 rfl 0 rfl ?_
                          refine x_get C fgM_165 0 rfl rfl dM_read_109 ?_
                          obtain rfl : us = usg := by omega
                          obtain rfl : k = js.length := by omega
                          rw [List.take_length] at c8 c9
                          exact x_iret C T .int rfl rfl dM_read_112 (Or.inr (Or.inl (⟨f, q, _, _, _, _, _, _, _, _, _, _, _, _, rfl, rfl, (by omega), c1, (tc_PF_RM c3 c8 c9 y1), c2⟩)))
                        ·
                          obtain ⟨c, hc⟩ : ∃ c, js[k]? = some c := ⟨_, List.getElem?_eq_getElem (by omega)⟩
                          have hck := c6 k c hc
                          have hc2 := (tc_PF_len c3).2 c (List.mem_of_getElem? hc)
                          refine x_aload_n C dM_read_92 rfl 0 rfl ?_
                          refine x_aload_n C dM_read_93 rfl 0 rfl ?_
                          refine x_get C fgM_62 0 rfl rfl dM_read_94 ?_
                          refine x_iload_n C dM_read_97 rfl 1 rfl ?_
                          refine x_ild C 16 15 rfl rfl (by omega) (by decide) dM_read_98 ?_
                          show xk_Go K D 2 0 0 (tc_wM mm cmm 0 iug kig mug fsg ssg txg usg te my mo mz mi iz ma f (some q) od ar lw oc sk sa sl nw reg rdg co dqg bog lcg) [(0, .ref (mm 0)), (1, .int (nI k))] 99 [.int (nI (reg k)), .ref (mm 0)]
                          rw [hck]
                          refine x_callV C (c_M_release D mm cmm 0 iug kig mug fsg ssg txg usg te my mo mz mi iz ma f (some q) od ar lw oc sk sa sl nw reg rdg co dqg bog lcg c hc2 (by omega)) kbM_125 kcM_125 [0, 1, 2, 3, 4, 5, 6, 7, 8, 9, 10, 11, 12, 13, 14, 15, 16, 17, 18, 19, 20] [] [0, 1, 2, 3, 4, 5, 6, 7, 8, 9, 10, 11, 12, 13, 14, 15, 16, 17, 18, 19] ([]) rfl rfl (by decide) (by decide) (by decide) rfl 0 rfl rfl ⟨Nat.le_of_ble_eq_true rfl, Nat.le_of_ble_eq_true rfl⟩ ⟨Nat.le_of_ble_eq_true rfl, Nat.le_of_ble_eq_true rfl⟩ [] rfl rfl (Nat.le_of_ble_eq_true rfl) dM_read_99 (fun rv ru hw => ?_)
                          obtain ⟨rfl, rfl⟩ := hw
                          show xk_Go K D 2 0 0 (tc_wM mm cmm 0 (va_up iug c false) kig mug fsg ssg txg (usg - 1) te my mo mz mi iz ma f (some q) od ar lw oc sk sa sl nw reg rdg co dqg bog lcg) [(0, .ref (mm 0)), (1, .int (nI k))] 102 []
                          refine x_iinc (q := 1) C (nI (k + 1)) [(1, .int (nI (k + 1))), (0, .ref (mm 0))] dM_read_102 rfl (nI_add k 1) (by decide) rfl ?_
                          refine x_goto C 84 dM_read_105 (by decide) ?_
                          exact x_sub [1, 0] rfl (ih84 f _ nw (va_up iug c false) kig mug fsg ssg txg (usg - 1) reg rdg dqg bog lcg js (k + 1) iu2 (by omega) c1 c2 c3 c4 (by omega) c6 (by omega) (tc_rel1 hc rfl c8) (tc_rel2 hc rfl c9))
                    exact x_sub [1, 0] rfl (lp84 _ f _ nw iu1 ki1 mu1 fs1 ss1 tx1 us1 re1 rd1 dq1 bo1 lc1 js 0 iu1 (Nat.lt_succ_self _) (e1.trans (by rw [tc_Rd_pd e2 ej1 ej3 ej2]; exact tc_rL_f (by omega) (by rw [eln]; exact g1))) g2 hp1 hp2 (by omega) hp4 (Nat.zero_le _) (fun i hi => by simp at hi) (fun i _ => rfl))
                ·
                  show xk_Go K D 2 0 0 (tc_wM mm cmm 0 iu1 ki1 mu1 fs1 ss1 tx1 us1 te my mo mz mi iz ma f (some q) od ar lw oc sk sa sl nw re1 rd1 co dq1 bo1 lc1) [(0, .ref (mm 0)), (1, .int (nI j))] 71 [.int (nI jf)]
                  refine x_istore_n C [(1, .int (nI jf)), (0, .ref (mm 0))] dM_read_71 rfl (by decide) rfl ?_
                  refine x_goto C 51 dM_read_72 (by decide) ?_
                  refine x_iload_n C dM_read_51 rfl 0 rfl ?_
                  refine x_if_ltN (tgt := 75) C (by first | omega | exact (fun z hz => by have := (e4 z hz).1; omega)) dM_read_52 (by decide) ?_
                  refine x_aload_n C dM_read_55 rfl 1 rfl ?_
                  refine x_get C fgM_165 0 rfl rfl dM_read_56 ?_
                  refine x_if_neN (tgt := 75) C (by omega) dM_read_59 (by decide) (fun h59 => ?_) (fun h59 => ?_)
                  ·
                    refine x_aload_n C dM_read_75 rfl 1 rfl ?_
                    refine x_get C fgM_165 0 rfl rfl dM_read_76 ?_
                    refine x_if_leN (tgt := 113) C (by omega) dM_read_79 (by decide) (fun h79 => ?_) (fun h79 => ?_)
                    ·
                      exact absurd h79 (by omega)
                    ·
                      refine x_iconst (v := nI 0) C dM_read_82 (by decide) ?_
                      refine x_istore_n C [(1, .int (nI 0)), (0, .ref (mm 0))] dM_read_83 rfl (by decide) rfl ?_
                      have lp84 : ∀ (zc : Nat) (f : Nat) (q : Nat) (nw : Nat) (iug : Nat → Bool) (kig : Nat → Nat) (mug : Nat → Int64) (fsg : Nat → Option Nat) (ssg : Nat → Option Nat) (txg : Nat → Nat) (usg : Nat) (reg : Nat → Nat) (rdg : Nat) (dqg : Nat → Nat) (bog : Nat → Nat) (lcg : Nat → Nat) (js : List Nat) (k : Nat) (iu2 : Nat → Bool), (js.length - k) < zc → (tc_rT (tc_B mi) iz us ma = .inl (f, q)) → (0 < f ∧ f < 10) → (tc_PF js (iu, ki, mu, fs, ss, tx) (iu2, kig, mug, fsg, ssg, txg)) → (rdg = js.length) → (usg + k = us + js.length) → (∀ j c, js[j]? = some c → reg j = c) → (k ≤ js.length) → (∀ i, i ∈ js.take k → iug i = false) → (∀ i, i ∉ js.take k → iug i = iu2 i) → xk_Go K D 2 0 0 (tc_wM mm cmm 0 iug kig mug fsg ssg txg usg te my mo mz mi iz ma f (some q) od ar lw oc sk sa sl nw reg rdg co dqg bog lcg) [(0, .ref (mm 0)), (1, .int (nI k))] 84 [] := by
                        intro zc
                        induction zc with
                        | zero => intro f q nw iug kig mug fsg ssg txg usg reg rdg dqg bog lcg js k iu2 hm; exact absurd hm (Nat.not_lt_zero _)
                        | succ zc ih84 =>
                          intro f q nw iug kig mug fsg ssg txg usg reg rdg dqg bog lcg js k iu2 hm c1 c2 c3 c4 c5 c6 c7 c8 c9
                          have hjl := (tc_PF_len c3).1
                          have huj := tc_PF_us c3 y1
                          refine x_iload_n C dM_read_84 rfl 1 rfl ?_
                          refine x_aload_n C dM_read_85 rfl 0 rfl ?_
                          refine x_get C fgM_186 0 rfl rfl dM_read_86 ?_
                          refine x_icmp_geN (tgt := 108) C (by omega) (by omega) dM_read_89 (by decide) (fun h89 => ?_) (fun h89 => ?_)
                          ·
                            refine x_aload_n C dM_read_108 rfl 0 rfl ?_
                            refine x_get C fgM_165 0 rfl rfl dM_read_109 ?_
                            obtain rfl : us = usg := by omega
                            obtain rfl : k = js.length := by omega
                            rw [List.take_length] at c8 c9
                            exact x_iret C T .int rfl rfl dM_read_112 (Or.inr (Or.inl (⟨f, q, _, _, _, _, _, _, _, _, _, _, _, _, rfl, rfl, (by omega), c1, (tc_PF_RM c3 c8 c9 y1), c2⟩)))
                          ·
                            obtain ⟨c, hc⟩ : ∃ c, js[k]? = some c := ⟨_, List.getElem?_eq_getElem (by omega)⟩
                            have hck := c6 k c hc
                            have hc2 := (tc_PF_len c3).2 c (List.mem_of_getElem? hc)
                            refine x_aload_n C dM_read_92 rfl 0 rfl ?_
                            refine x_aload_n C dM_read_93 rfl 0 rfl ?_
                            refine x_get C fgM_62 0 rfl rfl dM_read_94 ?_
                            refine x_iload_n C dM_read_97 rfl 1 rfl ?_
                            refine x_ild C 16 15 rfl rfl (by omega) (by decide) dM_read_98 ?_
                            show xk_Go K D 2 0 0 (tc_wM mm cmm 0 iug kig mug fsg ssg txg usg te my mo mz mi iz ma f (some q) od ar lw oc sk sa sl nw reg rdg co dqg bog lcg) [(0, .ref (mm 0)), (1, .int (nI k))] 99 [.int (nI (reg k)), .ref (mm 0)]
                            rw [hck]
                            refine x_callV C (c_M_release D mm cmm 0 iug kig mug fsg ssg txg usg te my mo mz mi iz ma f (some q) od ar lw oc sk sa sl nw reg rdg co dqg bog lcg c hc2 (by omega)) kbM_125 kcM_125 [0, 1, 2, 3, 4, 5, 6, 7, 8, 9, 10, 11, 12, 13, 14, 15, 16, 17, 18, 19, 20] [] [0, 1, 2, 3, 4, 5, 6, 7, 8, 9, 10, 11, 12, 13, 14, 15, 16, 17, 18, 19] ([]) rfl rfl (by decide) (by decide) (by decide) rfl 0 rfl rfl ⟨Nat.le_of_ble_eq_true rfl, Nat.le_of_ble_eq_true rfl⟩ ⟨Nat.le_of_ble_eq_true rfl, Nat.le_of_ble_eq_true rfl⟩ [] rfl rfl (Nat.le_of_ble_eq_true rfl) dM_read_99 (fun rv ru hw => ?_)
                            obtain ⟨rfl, rfl⟩ := hw
                            show xk_Go K D 2 0 0 (tc_wM mm cmm 0 (va_up iug c false) kig mug fsg ssg txg (usg - 1) te my mo mz mi iz ma f (some q) od ar lw oc sk sa sl nw reg rdg co dqg bog lcg) [(0, .ref (mm 0)), (1, .int (nI k))] 102 []
                            refine x_iinc (q := 1) C (nI (k + 1)) [(1, .int (nI (k + 1))), (0, .ref (mm 0))] dM_read_102 rfl (nI_add k 1) (by decide) rfl ?_
                            refine x_goto C 84 dM_read_105 (by decide) ?_
                            exact x_sub [1, 0] rfl (ih84 f _ nw (va_up iug c false) kig mug fsg ssg txg (usg - 1) reg rdg dqg bog lcg js (k + 1) iu2 (by omega) c1 c2 c3 c4 (by omega) c6 (by omega) (tc_rel1 hc rfl c8) (tc_rel2 hc rfl c9))
                      exact x_sub [1, 0] rfl (lp84 _ f _ nw iu1 ki1 mu1 fs1 ss1 tx1 us1 re1 rd1 dq1 bo1 lc1 js 0 iu1 (Nat.lt_succ_self _) (e1.trans (by rw [tc_Rd_pd e2 ej1 ej3 ej2]; exact tc_rL_f (by omega) (by rw [eln]; exact g1))) g2 hp1 hp2 (by omega) hp4 (Nat.zero_le _) (fun i hi => by simp at hi) (fun i _ => rfl))
                  ·
                    exact absurd h59 (by omega)
        exact x_sub [1, 0] rfl (lp51 _ ([x]) ([m]) none nw (va_up iu m true) (va_up ki m x.1) mug fsg ssg txg (va_up re 0 m) (va_up dq 0 1) (va_up bo 0 (0 + if x.1 = 1 then 1 else 0)) lcg (Nat.lt_succ_self _) (tc_rL_pd (L := []) rfl (by decide) g1) hRd (fun _ => o1) (fun z hz => by cases hz) g9 (Nat.zero_lt_one))
      ·
        show xk_Go K D 2 0 0 (tc_wM mm cmm 0 (va_up iu m true) (va_up ki m x.1) mug fsg ssg txg (us + 1) te my mo mz mi iz ma 0 none od ar lw oc sk sa sl nw (va_up re 0 m) (0 + 1) co (va_up dq 0 1) (va_up bo 0 (0 + if x.1 = 1 then 1 else 0)) lcg) [(0, .ref (mm 0))] 50 [.int (nI jo)]
        have o2 := Nat.pos_of_ne_zero (fun z => o2 ((tc_lc0 (hlb jo o1)).mpr z))
        have o3 := fun i hi hi2 => (tc_lc0 (hlb i hi2)).mp (o3 i hi hi2)
        refine x_istore_n C [(1, .int (nI jo)), (0, .ref (mm 0))] dM_read_50 rfl (by decide) rfl ?_
        have lp51 : ∀ (zc : Nat) (L : List tc_Nd) (ids : List Nat) (v : Option Nat) (p : Nat) (iug : Nat → Bool) (kig : Nat → Nat) (mug : Nat → Int64) (fsg : Nat → Option Nat) (ssg : Nat → Option Nat) (txg : Nat → Nat) (reg : Nat → Nat) (dqg : Nat → Nat) (bog : Nat → Nat) (lcg : Nat → Nat), (200 - ids.length) < zc → (tc_rT (tc_B mi) iz us ma = tc_rL (tc_B mi) iz us (202 - L.length) p (tc_pd 0 [tc_q0] L) L) → (tc_Rd L ids (iu, ki, mu, fs, ss, tx) (iug, kig, mug, fsg, ssg, txg) reg dqg bog lcg) → (v = none → ∀ i, i < ids.length → lcg i = 0) → (∀ j, v = some j → j < ids.length ∧ 0 < lcg j ∧ ∀ i, j < i → i < ids.length → lcg i = 0) → (p ≤ iz) → (0 < ids.length) → xk_Go K D 2 0 0 (tc_wM mm cmm 0 iug kig mug fsg ssg txg (us + ids.length) te my mo mz mi iz ma 0 none od ar lw oc sk sa sl p reg ids.length co dqg bog lcg) [(0, .ref (mm 0)), (1, .int (xk_oI v))] 51 [] := by
          intro zc
          induction zc with
          | zero => intro L ids v p iug kig mug fsg ssg txg reg dqg bog lcg hm; exact absurd hm (Nat.not_lt_zero _)
          | succ zc ih51 =>
            intro L ids v p iug kig mug fsg ssg txg reg dqg bog lcg hm e1 e2 e3 e4 e5 e6
            have eln := tc_Rd_ln e2
            have eus := tc_PF_us e2.1 y1
            refine x_iload_n C dM_read_51 rfl 1 rfl ?_
            refine x_if_ltO (tgt := 75) C (by first | omega | exact (fun z hz => by have := (e4 z hz).1; omega)) dM_read_52 (by decide) (fun h52 => ?_) (fun j h52 => ?_)
            ·
              rw [h52]
              show xk_Go K D 2 0 0 (tc_wM mm cmm 0 iug kig mug fsg ssg txg (us + ids.length) te my mo mz mi iz ma 0 none od ar lw oc sk sa sl p reg ids.length co dqg bog lcg) [(0, .ref (mm 0)), (1, .int (xk_oI none))] 75 []
              refine x_aload_n C dM_read_75 rfl 0 rfl ?_
              refine x_get C fgM_165 0 rfl rfl dM_read_76 ?_
              refine x_if_le (tgt := 113) C dM_read_79 (by decide) (fun _ => ?_) (fun h => absurd (by decide) h)
              refine x_aload_n C dM_read_113 rfl 0 rfl ?_
              refine x_aload_n C dM_read_114 rfl 0 rfl ?_
              refine x_get C fgM_168 0 rfl rfl dM_read_115 ?_
              refine x_put C fpM_162 0 (tc_wM mm cmm 0 iug kig mug fsg ssg txg (us + ids.length) te my mo mz mi iz p 0 none od ar lw oc sk sa sl p reg ids.length co dqg bog lcg) rfl rfl rfl rfl (Nat.le_of_ble_eq_true rfl) dM_read_118 ?_
              refine x_aload_n C dM_read_121 rfl 0 rfl ?_
              refine x_get C fgM_31 0 rfl rfl dM_read_122 ?_
              refine x_aload_n C dM_read_125 rfl 0 rfl ?_
              refine x_get C fgM_94 0 rfl rfl dM_read_126 ?_
              refine x_aload_n C dM_read_129 rfl 0 rfl ?_
              refine x_get C fgM_62 0 rfl rfl dM_read_130 ?_
              refine x_iconst (v := nI 0) C dM_read_133 (by decide) ?_
              refine x_ild C 16 15 rfl rfl (by omega) (by decide) dM_read_134 ?_
              show xk_Go K D 2 0 0 (tc_wM mm cmm 0 iug kig mug fsg ssg txg (us + ids.length) te my mo mz mi iz p 0 none od ar lw oc sk sa sl p reg ids.length co dqg bog lcg) [(0, .ref (mm 0)), (1, .int (xk_oI none))] 135 [.int (nI (reg 0)), .int (nI my), .ref (mm 7)]
              refine x_ist C 7 6 (tc_wM mm cmm 0 iug kig mug fsg ssg txg (us + ids.length) (va_up te my (reg 0)) my mo mz mi iz p 0 none od ar lw oc sk sa sl p reg ids.length co dqg bog lcg) rfl rfl (xk_nA_up te my (reg 0)) rfl (by omega) (by decide) dM_read_135 ?_
              refine x_aload_n C dM_read_136 rfl 0 rfl ?_
              refine x_dup C dM_read_137 rfl ?_
              refine x_get C fgM_94 0 rfl rfl dM_read_138 ?_
              refine x_iconst (v := nI 1) C dM_read_141 (by decide) ?_
              refine x_iaddN C dM_read_142 ?_
              refine x_put C fpM_94 0 (tc_wM mm cmm 0 iug kig mug fsg ssg txg (us + ids.length) (va_up te my (reg 0)) (my + 1) mo mz mi iz p 0 none od ar lw oc sk sa sl p reg ids.length co dqg bog lcg) rfl rfl rfl rfl (Nat.le_of_ble_eq_true rfl) dM_read_143 ?_
              refine x_iconst (v := nI 0) C dM_read_146 (by decide) ?_
              have hpd0 : tc_pd 0 [tc_q0] L = [] := e2.2.2.2.1.trans (tc_lz_none (e3 h52))
              exact x_iret C T .int rfl rfl dM_read_147 (Or.inr (Or.inr (⟨L, _, _, _, _, _, _, _, _, _, _, _, _, _, _, _, rfl, rfl, (by omega), (e1.trans (by rw [hpd0]; exact tc_rL_e)), (tc_Rd_RM e2 (e3 h52) e6 y1), e5⟩)))
            ·
              rw [h52]
              show xk_Go K D 2 0 0 (tc_wM mm cmm 0 iug kig mug fsg ssg txg (us + ids.length) te my mo mz mi iz ma 0 none od ar lw oc sk sa sl p reg ids.length co dqg bog lcg) [(0, .ref (mm 0)), (1, .int (nI j))] 55 []
              refine x_aload_n C dM_read_55 rfl 0 rfl ?_
              refine x_get C fgM_165 0 rfl rfl dM_read_56 ?_
              refine x_if_ne (tgt := 75) C dM_read_59 (by decide) (fun h => absurd (by decide) h) (fun _ => ?_)
              refine x_aload_n C dM_read_62 rfl 0 rfl ?_
              refine x_iload_n C dM_read_63 rfl 1 rfl ?_
              obtain ⟨ej1, ej2, ej3⟩ := e4 j h52
              have eat := tc_Rd_at e2 ej1
              have eq61 := tc_Rd_q e2 ej1 ej3 ej2
              refine x_callV C (c_M_readNode D mm cmm 0 iug kig mug fsg ssg txg (us + ids.length) te my mo mz mi iz ma od ar lw oc sk sa sl p reg ids.length co dqg bog lcg (some j) ids (iu, ki, mu, fs, ss, tx) (dqg j + 1) (bog j) e5 y2 e2.1 rfl e2.2.1 (fun h => by cases h) (fun z hz => by obtain rfl : j = z := (by simpa using hz); exact ⟨rfl, rfl, ej1, ej2, eat⟩) (⟨by omega, eus⟩) (fun h => tc_PF_free e2.1 y1 h) (⟨by omega, by omega⟩)) kbM_200 kcM_200 [0, 1, 2, 3, 4, 5, 6, 7, 8, 9, 10, 11, 12, 13, 14, 15, 16, 17, 18, 19, 20] [] [0, 1, 2, 3, 4, 5, 6, 7, 8, 9, 10, 11, 12, 13, 14, 15, 16, 17, 18, 19] ([]) rfl rfl (by decide) (by decide) (by decide) rfl 0 rfl rfl ⟨Nat.le_of_ble_eq_true rfl, Nat.le_of_ble_eq_true rfl⟩ ⟨Nat.le_of_ble_eq_true rfl, Nat.le_of_ble_eq_true rfl⟩ [] rfl rfl (Nat.le_of_ble_eq_true rfl) dM_read_64 (fun rv ru hw => ?_)
              rcases hw with ⟨x, nw, m, fs1, ss1, mu1, tx1, lc1, rfl, rfl, g1, g2, g3, g4, g5, g6, g7, g8, g9⟩ | ⟨f, q, nw, iu1, ki1, mu1, fs1, ss1, tx1, us1, re1, rd1, dq1, bo1, lc1, rfl, rfl, g1, g2, g3, g4, g5⟩
              ·
                show xk_Go K D 2 0 0 (tc_wM mm cmm 0 (va_up iug m true) (va_up kig m x.1) mu1 fs1 ss1 tx1 ((us + ids.length) + 1) te my mo mz mi iz ma 0 none od ar lw oc sk sa sl nw (va_up reg ids.length m) (ids.length + 1) co (va_up dqg ids.length (dqg j + 1)) (va_up bog ids.length ((bog j) + if x.1 = 1 then 1 else 0)) lc1) [(0, .ref (mm 0)), (1, .int (nI j))] 67 []
                have hRd := tc_Rd_s e2 rfl ej1 ej3 ej2 g1 (tc_B_lt mi) g2 g3 g4 g5 (g7 j rfl)
                have eus1 := tc_PF_us hRd.1 y1
                have hlb := tc_Rd_lc hRd
                rw [List.length_append, List.length_singleton] at eus1 hlb
                refine x_aload_n C dM_read_67 rfl 0 rfl ?_
                refine x_callV C (c_M_open D mm cmm 0 (va_up iug m true) (va_up kig m x.1) mu1 fs1 ss1 tx1 ((us + ids.length) + 1) te my mo mz mi iz ma 0 none od ar lw oc sk sa sl nw (va_up reg ids.length m) (ids.length + 1) co (va_up dqg ids.length (dqg j + 1)) (va_up bog ids.length ((bog j) + if x.1 = 1 then 1 else 0)) lc1 (by omega)) kbM_203 kcM_203 [0, 1, 2, 3, 4, 5, 6, 7, 8, 9, 10, 11, 12, 13, 14, 15, 16, 17, 18, 19, 20] [] [0, 1, 2, 3, 4, 5, 6, 7, 8, 9, 10, 11, 12, 13, 14, 15, 16, 17, 18, 19] ([]) rfl rfl (by decide) (by decide) (by decide) rfl 0 rfl rfl ⟨Nat.le_of_ble_eq_true rfl, Nat.le_of_ble_eq_true rfl⟩ ⟨Nat.le_of_ble_eq_true rfl, Nat.le_of_ble_eq_true rfl⟩ [] rfl rfl (Nat.le_of_ble_eq_true rfl) dM_read_68 (fun rv ru hw => ?_)
                rcases hw with ⟨rfl, rfl, o1⟩ | ⟨jo, rfl, rfl, o1, o2, o3⟩
                ·
                  show xk_Go K D 2 0 0 (tc_wM mm cmm 0 (va_up iug m true) (va_up kig m x.1) mu1 fs1 ss1 tx1 ((us + ids.length) + 1) te my mo mz mi iz ma 0 none od ar lw oc sk sa sl nw (va_up reg ids.length m) (ids.length + 1) co (va_up dqg ids.length (dqg j + 1)) (va_up bog ids.length ((bog j) + if x.1 = 1 then 1 else 0)) lc1) [(0, .ref (mm 0)), (1, .int (nI j))] 71 [.int (xk_oI none)]
                  have o1 := fun i hi => (tc_lc0 (hlb i hi)).mp (o1 i hi)
                  refine x_istore_n C [(1, .int (xk_oI none)), (0, .ref (mm 0))] dM_read_71 rfl (by decide) rfl ?_
                  refine x_goto C 51 dM_read_72 (by decide) ?_
                  have hil : (ids ++ [m]).length = ids.length + 1 := by simp
                  rw [show us + ids.length + 1 = us + (ids ++ [m]).length by rw [hil]; omega, ← hil]
                  exact x_sub [1, 0] rfl (ih51 (L ++ [x]) (ids ++ [m]) none nw (va_up iug m true) (va_up kig m x.1) mu1 fs1 ss1 tx1 (va_up reg ids.length m) (va_up dqg ids.length (dqg j + 1)) (va_up bog ids.length ((bog j) + if x.1 = 1 then 1 else 0)) lc1 (by omega) (e1.trans (tc_rL_pd (tc_Rd_pd e2 ej1 ej3 ej2) (by omega) (by rw [eln]; exact g1))) hRd (fun _ => (by rw [hil]; exact o1)) (fun z hz => by cases hz) g9 (by omega))
                ·
                  show xk_Go K D 2 0 0 (tc_wM mm cmm 0 (va_up iug m true) (va_up kig m x.1) mu1 fs1 ss1 tx1 ((us + ids.length) + 1) te my mo mz mi iz ma 0 none od ar lw oc sk sa sl nw (va_up reg ids.length m) (ids.length + 1) co (va_up dqg ids.length (dqg j + 1)) (va_up bog ids.length ((bog j) + if x.1 = 1 then 1 else 0)) lc1) [(0, .ref (mm 0)), (1, .int (nI j))] 71 [.int (nI jo)]
                  have o2 := Nat.pos_of_ne_zero (fun z => o2 ((tc_lc0 (hlb jo o1)).mpr z))
                  have o3 := fun i hi hi2 => (tc_lc0 (hlb i hi2)).mp (o3 i hi hi2)
                  refine x_istore_n C [(1, .int (nI jo)), (0, .ref (mm 0))] dM_read_71 rfl (by decide) rfl ?_
                  refine x_goto C 51 dM_read_72 (by decide) ?_
                  have hil : (ids ++ [m]).length = ids.length + 1 := by simp
                  rw [show us + ids.length + 1 = us + (ids ++ [m]).length by rw [hil]; omega, ← hil]
                  exact x_sub [1, 0] rfl (ih51 (L ++ [x]) (ids ++ [m]) (some jo) nw (va_up iug m true) (va_up kig m x.1) mu1 fs1 ss1 tx1 (va_up reg ids.length m) (va_up dqg ids.length (dqg j + 1)) (va_up bog ids.length ((bog j) + if x.1 = 1 then 1 else 0)) lc1 (by omega) (e1.trans (tc_rL_pd (tc_Rd_pd e2 ej1 ej3 ej2) (by omega) (by rw [eln]; exact g1))) hRd (fun z => by cases z) (fun z hz => by obtain rfl : jo = z := (by simpa using hz); rw [hil]; exact ⟨o1, o2, o3⟩) g9 (by omega))
              ·
                show xk_Go K D 2 0 0 (tc_wM mm cmm 0 iu1 ki1 mu1 fs1 ss1 tx1 us1 te my mo mz mi iz ma f (some q) od ar lw oc sk sa sl nw re1 rd1 co dq1 bo1 lc1) [(0, .ref (mm 0)), (1, .int (nI j))] 67 []
                obtain ⟨js, hp1, hp2, hp3, hp4⟩ := g3
                have hjl := (tc_PF_len hp1).1
                rw [← hp2] at hjl
                refine x_aload_n C dM_read_67 rfl 0 rfl ?_
                refine x_callV C (c_M_open D mm cmm 0 iu1 ki1 mu1 fs1 ss1 tx1 us1 te my mo mz mi iz ma f (some q) od ar lw oc sk sa sl nw re1 rd1 co dq1 bo1 lc1 hjl) kbM_203 kcM_203 [0, 1, 2, 3, 4, 5, 6, 7, 8, 9, 10, 11, 12, 13, 14, 15, 16, 17, 18, 19, 20] [] [0, 1, 2, 3, 4, 5, 6, 7, 8, 9, 10, 11, 12, 13, 14, 15, 16, 17, 18, 19] ([]) rfl rfl (by decide) (by decide) (by decide) rfl 0 rfl rfl ⟨Nat.le_of_ble_eq_true rfl, Nat.le_of_ble_eq_true rfl⟩ ⟨Nat.le_of_ble_eq_true rfl, Nat.le_of_ble_eq_true rfl⟩ [] rfl rfl (Nat.le_of_ble_eq_true rfl) dM_read_68 (fun rv ru hw => ?_)
                rcases hw with ⟨rfl, rfl, o1⟩ | ⟨jf, rfl, rfl, o1, o2, o3⟩
                ·
                  show xk_Go K D 2 0 0 (tc_wM mm cmm 0 iu1 ki1 mu1 fs1 ss1 tx1 us1 te my mo mz mi iz ma f (some q) od ar lw oc sk sa sl nw re1 rd1 co dq1 bo1 lc1) [(0, .ref (mm 0)), (1, .int (nI j))] 71 [.int (xk_oI none)]
                  refine x_istore_n C [(1, .int (xk_oI none)), (0, .ref (mm 0))] dM_read_71 rfl (by decide) rfl ?_
                  refine x_goto C 51 dM_read_72 (by decide) ?_
                  refine x_iload_n C dM_read_51 rfl 0 rfl ?_
                  refine x_if_lt (tgt := 75) C dM_read_52 (by decide) (fun _ => ?_) (fun h => absurd (by decide) h)
                  refine x_aload_n C dM_read_75 rfl 1 rfl ?_
                  refine x_get C fgM_165 0 rfl rfl dM_read_76 ?_
                  refine x_if_leN (tgt := 113) C (by omega) dM_read_79 (by decide) (fun h79 => ?_) (fun h79 => ?_)
                  ·
                    exact absurd h79 (by omega)
                  ·
                    refine x_iconst (v := nI 0) C dM_read_82 (by decide) ?_
                    refine x_istore_n C [(1, .int (nI 0)), (0, .ref (mm 0))] dM_read_83 rfl (by decide) rfl ?_
                    have lp84 : ∀ (zc : Nat) (f : Nat) (q : Nat) (nw : Nat) (iug : Nat → Bool) (kig : Nat → Nat) (mug : Nat → Int64) (fsg : Nat → Option Nat) (ssg : Nat → Option Nat) (txg : Nat → Nat) (usg : Nat) (reg : Nat → Nat) (rdg : Nat) (dqg : Nat → Nat) (bog : Nat → Nat) (lcg : Nat → Nat) (js : List Nat) (k : Nat) (iu2 : Nat → Bool), (js.length - k) < zc → (tc_rT (tc_B mi) iz us ma = .inl (f, q)) → (0 < f ∧ f < 10) → (tc_PF js (iu, ki, mu, fs, ss, tx) (iu2, kig, mug, fsg, ssg, txg)) → (rdg = js.length) → (usg + k = us + js.length) → (∀ j c, js[j]? = some c → reg j = c) → (k ≤ js.length) → (∀ i, i ∈ js.take k → iug i = false) → (∀ i, i ∉ js.take k → iug i = iu2 i) → xk_Go K D 2 0 0 (tc_wM mm cmm 0 iug kig mug fsg ssg txg usg te my mo mz mi iz ma f (some q) od ar lw oc sk sa sl nw reg rdg co dqg bog lcg) [(0, .ref (mm 0)), (1, .int (nI k))] 84 [] := by
                      intro zc
                      induction zc with
                      | zero => intro f q nw iug kig mug fsg ssg txg usg reg rdg dqg bog lcg js k iu2 hm; exact absurd hm (Nat.not_lt_zero _)
                      | succ zc ih84 =>
                        intro f q nw iug kig mug fsg ssg txg usg reg rdg dqg bog lcg js k iu2 hm c1 c2 c3 c4 c5 c6 c7 c8 c9
                        have hjl := (tc_PF_len c3).1
                        have huj := tc_PF_us c3 y1
                        refine x_iload_n C dM_read_84 rfl 1 rfl ?_
                        refine x_aload_n C dM_read_85 rfl 0 rfl ?_
                        refine x_get C fgM_186 0 rfl rfl dM_read_86 ?_
                        refine x_icmp_geN (tgt := 108) C (by omega) (by omega) dM_read_89 (by decide) (fun h89 => ?_) (fun h89 => ?_)
                        ·
                          refine x_aload_n C dM_read_108 rfl 0 rfl ?_
                          refine x_get C fgM_165 0 rfl rfl dM_read_109 ?_
                          obtain rfl : us = usg := by omega
                          obtain rfl : k = js.length := by omega
                          rw [List.take_length] at c8 c9
                          exact x_iret C T .int rfl rfl dM_read_112 (Or.inr (Or.inl (⟨f, q, _, _, _, _, _, _, _, _, _, _, _, _, rfl, rfl, (by omega), c1, (tc_PF_RM c3 c8 c9 y1), c2⟩)))
                        ·
                          obtain ⟨c, hc⟩ : ∃ c, js[k]? = some c := ⟨_, List.getElem?_eq_getElem (by omega)⟩
                          have hck := c6 k c hc
                          have hc2 := (tc_PF_len c3).2 c (List.mem_of_getElem? hc)
                          refine x_aload_n C dM_read_92 rfl 0 rfl ?_
                          refine x_aload_n C dM_read_93 rfl 0 rfl ?_
                          refine x_get C fgM_62 0 rfl rfl dM_read_94 ?_
                          refine x_iload_n C dM_read_97 rfl 1 rfl ?_
                          refine x_ild C 16 15 rfl rfl (by omega) (by decide) dM_read_98 ?_
                          show xk_Go K D 2 0 0 (tc_wM mm cmm 0 iug kig mug fsg ssg txg usg te my mo mz mi iz ma f (some q) od ar lw oc sk sa sl nw reg rdg co dqg bog lcg) [(0, .ref (mm 0)), (1, .int (nI k))] 99 [.int (nI (reg k)), .ref (mm 0)]
                          rw [hck]
                          refine x_callV C (c_M_release D mm cmm 0 iug kig mug fsg ssg txg usg te my mo mz mi iz ma f (some q) od ar lw oc sk sa sl nw reg rdg co dqg bog lcg c hc2 (by omega)) kbM_125 kcM_125 [0, 1, 2, 3, 4, 5, 6, 7, 8, 9, 10, 11, 12, 13, 14, 15, 16, 17, 18, 19, 20] [] [0, 1, 2, 3, 4, 5, 6, 7, 8, 9, 10, 11, 12, 13, 14, 15, 16, 17, 18, 19] ([]) rfl rfl (by decide) (by decide) (by decide) rfl 0 rfl rfl ⟨Nat.le_of_ble_eq_true rfl, Nat.le_of_ble_eq_true rfl⟩ ⟨Nat.le_of_ble_eq_true rfl, Nat.le_of_ble_eq_true rfl⟩ [] rfl rfl (Nat.le_of_ble_eq_true rfl) dM_read_99 (fun rv ru hw => ?_)
                          obtain ⟨rfl, rfl⟩ := hw
                          show xk_Go K D 2 0 0 (tc_wM mm cmm 0 (va_up iug c false) kig mug fsg ssg txg (usg - 1) te my mo mz mi iz ma f (some q) od ar lw oc sk sa sl nw reg rdg co dqg bog lcg) [(0, .ref (mm 0)), (1, .int (nI k))] 102 []
                          refine x_iinc (q := 1) C (nI (k + 1)) [(1, .int (nI (k + 1))), (0, .ref (mm 0))] dM_read_102 rfl (nI_add k 1) (by decide) rfl ?_
                          refine x_goto C 84 dM_read_105 (by decide) ?_
                          exact x_sub [1, 0] rfl (ih84 f _ nw (va_up iug c false) kig mug fsg ssg txg (usg - 1) reg rdg dqg bog lcg js (k + 1) iu2 (by omega) c1 c2 c3 c4 (by omega) c6 (by omega) (tc_rel1 hc rfl c8) (tc_rel2 hc rfl c9))
                    exact x_sub [1, 0] rfl (lp84 _ f _ nw iu1 ki1 mu1 fs1 ss1 tx1 us1 re1 rd1 dq1 bo1 lc1 js 0 iu1 (Nat.lt_succ_self _) (e1.trans (by rw [tc_Rd_pd e2 ej1 ej3 ej2]; exact tc_rL_f (by omega) (by rw [eln]; exact g1))) g2 hp1 hp2 (by omega) hp4 (Nat.zero_le _) (fun i hi => by simp at hi) (fun i _ => rfl))
                ·
                  show xk_Go K D 2 0 0 (tc_wM mm cmm 0 iu1 ki1 mu1 fs1 ss1 tx1 us1 te my mo mz mi iz ma f (some q) od ar lw oc sk sa sl nw re1 rd1 co dq1 bo1 lc1) [(0, .ref (mm 0)), (1, .int (nI j))] 71 [.int (nI jf)]
                  refine x_istore_n C [(1, .int (nI jf)), (0, .ref (mm 0))] dM_read_71 rfl (by decide) rfl ?_
                  refine x_goto C 51 dM_read_72 (by decide) ?_
                  refine x_iload_n C dM_read_51 rfl 0 rfl ?_
                  refine x_if_ltN (tgt := 75) C (by first | omega | exact (fun z hz => by have := (e4 z hz).1; omega)) dM_read_52 (by decide) ?_
                  refine x_aload_n C dM_read_55 rfl 1 rfl ?_
                  refine x_get C fgM_165 0 rfl rfl dM_read_56 ?_
                  refine x_if_neN (tgt := 75) C (by omega) dM_read_59 (by decide) (fun h59 => ?_) (fun h59 => ?_)
                  ·
                    refine x_aload_n C dM_read_75 rfl 1 rfl ?_
                    refine x_get C fgM_165 0 rfl rfl dM_read_76 ?_
                    refine x_if_leN (tgt := 113) C (by omega) dM_read_79 (by decide) (fun h79 => ?_) (fun h79 => ?_)
                    ·
                      exact absurd h79 (by omega)
                    ·
                      refine x_iconst (v := nI 0) C dM_read_82 (by decide) ?_
                      refine x_istore_n C [(1, .int (nI 0)), (0, .ref (mm 0))] dM_read_83 rfl (by decide) rfl ?_
                      have lp84 : ∀ (zc : Nat) (f : Nat) (q : Nat) (nw : Nat) (iug : Nat → Bool) (kig : Nat → Nat) (mug : Nat → Int64) (fsg : Nat → Option Nat) (ssg : Nat → Option Nat) (txg : Nat → Nat) (usg : Nat) (reg : Nat → Nat) (rdg : Nat) (dqg : Nat → Nat) (bog : Nat → Nat) (lcg : Nat → Nat) (js : List Nat) (k : Nat) (iu2 : Nat → Bool), (js.length - k) < zc → (tc_rT (tc_B mi) iz us ma = .inl (f, q)) → (0 < f ∧ f < 10) → (tc_PF js (iu, ki, mu, fs, ss, tx) (iu2, kig, mug, fsg, ssg, txg)) → (rdg = js.length) → (usg + k = us + js.length) → (∀ j c, js[j]? = some c → reg j = c) → (k ≤ js.length) → (∀ i, i ∈ js.take k → iug i = false) → (∀ i, i ∉ js.take k → iug i = iu2 i) → xk_Go K D 2 0 0 (tc_wM mm cmm 0 iug kig mug fsg ssg txg usg te my mo mz mi iz ma f (some q) od ar lw oc sk sa sl nw reg rdg co dqg bog lcg) [(0, .ref (mm 0)), (1, .int (nI k))] 84 [] := by
                        intro zc
                        induction zc with
                        | zero => intro f q nw iug kig mug fsg ssg txg usg reg rdg dqg bog lcg js k iu2 hm; exact absurd hm (Nat.not_lt_zero _)
                        | succ zc ih84 =>
                          intro f q nw iug kig mug fsg ssg txg usg reg rdg dqg bog lcg js k iu2 hm c1 c2 c3 c4 c5 c6 c7 c8 c9
                          have hjl := (tc_PF_len c3).1
                          have huj := tc_PF_us c3 y1
                          refine x_iload_n C dM_read_84 rfl 1 rfl ?_
                          refine x_aload_n C dM_read_85 rfl 0 rfl ?_
                          refine x_get C fgM_186 0 rfl rfl dM_read_86 ?_
                          refine x_icmp_geN (tgt := 108) C (by omega) (by omega) dM_read_89 (by decide) (fun h89 => ?_) (fun h89 => ?_)
                          ·
                            refine x_aload_n C dM_read_108 rfl 0 rfl ?_
                            refine x_get C fgM_165 0 rfl rfl dM_read_109 ?_
                            obtain rfl : us = usg := by omega
                            obtain rfl : k = js.length := by omega
                            rw [List.take_length] at c8 c9
                            exact x_iret C T .int rfl rfl dM_read_112 (Or.inr (Or.inl (⟨f, q, _, _, _, _, _, _, _, _, _, _, _, _, rfl, rfl, (by omega), c1, (tc_PF_RM c3 c8 c9 y1), c2⟩)))
                          ·
                            obtain ⟨c, hc⟩ : ∃ c, js[k]? = some c := ⟨_, List.getElem?_eq_getElem (by omega)⟩
                            have hck := c6 k c hc
                            have hc2 := (tc_PF_len c3).2 c (List.mem_of_getElem? hc)
                            refine x_aload_n C dM_read_92 rfl 0 rfl ?_
                            refine x_aload_n C dM_read_93 rfl 0 rfl ?_
                            refine x_get C fgM_62 0 rfl rfl dM_read_94 ?_
                            refine x_iload_n C dM_read_97 rfl 1 rfl ?_
                            refine x_ild C 16 15 rfl rfl (by omega) (by decide) dM_read_98 ?_
                            show xk_Go K D 2 0 0 (tc_wM mm cmm 0 iug kig mug fsg ssg txg usg te my mo mz mi iz ma f (some q) od ar lw oc sk sa sl nw reg rdg co dqg bog lcg) [(0, .ref (mm 0)), (1, .int (nI k))] 99 [.int (nI (reg k)), .ref (mm 0)]
                            rw [hck]
                            refine x_callV C (c_M_release D mm cmm 0 iug kig mug fsg ssg txg usg te my mo mz mi iz ma f (some q) od ar lw oc sk sa sl nw reg rdg co dqg bog lcg c hc2 (by omega)) kbM_125 kcM_125 [0, 1, 2, 3, 4, 5, 6, 7, 8, 9, 10, 11, 12, 13, 14, 15, 16, 17, 18, 19, 20] [] [0, 1, 2, 3, 4, 5, 6, 7, 8, 9, 10, 11, 12, 13, 14, 15, 16, 17, 18, 19] ([]) rfl rfl (by decide) (by decide) (by decide) rfl 0 rfl rfl ⟨Nat.le_of_ble_eq_true rfl, Nat.le_of_ble_eq_true rfl⟩ ⟨Nat.le_of_ble_eq_true rfl, Nat.le_of_ble_eq_true rfl⟩ [] rfl rfl (Nat.le_of_ble_eq_true rfl) dM_read_99 (fun rv ru hw => ?_)
                            obtain ⟨rfl, rfl⟩ := hw
                            show xk_Go K D 2 0 0 (tc_wM mm cmm 0 (va_up iug c false) kig mug fsg ssg txg (usg - 1) te my mo mz mi iz ma f (some q) od ar lw oc sk sa sl nw reg rdg co dqg bog lcg) [(0, .ref (mm 0)), (1, .int (nI k))] 102 []
                            refine x_iinc (q := 1) C (nI (k + 1)) [(1, .int (nI (k + 1))), (0, .ref (mm 0))] dM_read_102 rfl (nI_add k 1) (by decide) rfl ?_
                            refine x_goto C 84 dM_read_105 (by decide) ?_
                            exact x_sub [1, 0] rfl (ih84 f _ nw (va_up iug c false) kig mug fsg ssg txg (usg - 1) reg rdg dqg bog lcg js (k + 1) iu2 (by omega) c1 c2 c3 c4 (by omega) c6 (by omega) (tc_rel1 hc rfl c8) (tc_rel2 hc rfl c9))
                      exact x_sub [1, 0] rfl (lp84 _ f _ nw iu1 ki1 mu1 fs1 ss1 tx1 us1 re1 rd1 dq1 bo1 lc1 js 0 iu1 (Nat.lt_succ_self _) (e1.trans (by rw [tc_Rd_pd e2 ej1 ej3 ej2]; exact tc_rL_f (by omega) (by rw [eln]; exact g1))) g2 hp1 hp2 (by omega) hp4 (Nat.zero_le _) (fun i hi => by simp at hi) (fun i _ => rfl))
                  ·
                    exact absurd h59 (by omega)
        exact x_sub [1, 0] rfl (lp51 _ ([x]) ([m]) (some jo) nw (va_up iu m true) (va_up ki m x.1) mug fsg ssg txg (va_up re 0 m) (va_up dq 0 1) (va_up bo 0 (0 + if x.1 = 1 then 1 else 0)) lcg (Nat.lt_succ_self _) (tc_rL_pd (L := []) rfl (by decide) g1) hRd (fun z => by cases z) (fun z hz => by obtain rfl : jo = z := (by simpa using hz); exact ⟨o1, o2, o3⟩) g9 (Nat.zero_lt_one))
    ·
      show xk_Go K D 2 0 0 (tc_wM mm cmm 0 iug kig mug fsg ssg txg usg te my mo mz mi iz ma f (some q) od ar lw oc sk sa sl nw reg rdg co dqg bog lcg) [(0, .ref (mm 0))] 46 []
      obtain ⟨js, hp1, hp2, hp3, hp4⟩ := g3
      have hjl := (tc_PF_len hp1).1
      rw [← hp2] at hjl
      refine x_aload_n C dM_read_46 rfl 0 rfl ?_
      refine x_callV C (c_M_open D mm cmm 0 iug kig mug fsg ssg txg usg te my mo mz mi iz ma f (some q) od ar lw oc sk sa sl nw reg rdg co dqg bog lcg hjl) kbM_203 kcM_203 [0, 1, 2, 3, 4, 5, 6, 7, 8, 9, 10, 11, 12, 13, 14, 15, 16, 17, 18, 19, 20] [] [0, 1, 2, 3, 4, 5, 6, 7, 8, 9, 10, 11, 12, 13, 14, 15, 16, 17, 18, 19] ([]) rfl rfl (by decide) (by decide) (by decide) rfl 0 rfl rfl ⟨Nat.le_of_ble_eq_true rfl, Nat.le_of_ble_eq_true rfl⟩ ⟨Nat.le_of_ble_eq_true rfl, Nat.le_of_ble_eq_true rfl⟩ [] rfl rfl (Nat.le_of_ble_eq_true rfl) dM_read_47 (fun rv ru hw => ?_)
      rcases hw with ⟨rfl, rfl, o1⟩ | ⟨jf, rfl, rfl, o1, o2, o3⟩
      ·
        show xk_Go K D 2 0 0 (tc_wM mm cmm 0 iug kig mug fsg ssg txg usg te my mo mz mi iz ma f (some q) od ar lw oc sk sa sl nw reg rdg co dqg bog lcg) [(0, .ref (mm 0))] 50 [.int (xk_oI none)]
        refine x_istore_n C [(1, .int (xk_oI none)), (0, .ref (mm 0))] dM_read_50 rfl (by decide) rfl ?_
        refine x_iload_n C dM_read_51 rfl 0 rfl ?_
        refine x_if_lt (tgt := 75) C dM_read_52 (by decide) (fun _ => ?_) (fun h => absurd (by decide) h)
        refine x_aload_n C dM_read_75 rfl 1 rfl ?_
        refine x_get C fgM_165 0 rfl rfl dM_read_76 ?_
        refine x_if_leN (tgt := 113) C (by omega) dM_read_79 (by decide) (fun h79 => ?_) (fun h79 => ?_)
        ·
          exact absurd h79 (by omega)
        ·
          refine x_iconst (v := nI 0) C dM_read_82 (by decide) ?_
          refine x_istore_n C [(1, .int (nI 0)), (0, .ref (mm 0))] dM_read_83 rfl (by decide) rfl ?_
          have lp84 : ∀ (zc : Nat) (f : Nat) (q : Nat) (nw : Nat) (iug : Nat → Bool) (kig : Nat → Nat) (mug : Nat → Int64) (fsg : Nat → Option Nat) (ssg : Nat → Option Nat) (txg : Nat → Nat) (usg : Nat) (reg : Nat → Nat) (rdg : Nat) (dqg : Nat → Nat) (bog : Nat → Nat) (lcg : Nat → Nat) (js : List Nat) (k : Nat) (iu2 : Nat → Bool), (js.length - k) < zc → (tc_rT (tc_B mi) iz us ma = .inl (f, q)) → (0 < f ∧ f < 10) → (tc_PF js (iu, ki, mu, fs, ss, tx) (iu2, kig, mug, fsg, ssg, txg)) → (rdg = js.length) → (usg + k = us + js.length) → (∀ j c, js[j]? = some c → reg j = c) → (k ≤ js.length) → (∀ i, i ∈ js.take k → iug i = false) → (∀ i, i ∉ js.take k → iug i = iu2 i) → xk_Go K D 2 0 0 (tc_wM mm cmm 0 iug kig mug fsg ssg txg usg te my mo mz mi iz ma f (some q) od ar lw oc sk sa sl nw reg rdg co dqg bog lcg) [(0, .ref (mm 0)), (1, .int (nI k))] 84 [] := by
            intro zc
            induction zc with
            | zero => intro f q nw iug kig mug fsg ssg txg usg reg rdg dqg bog lcg js k iu2 hm; exact absurd hm (Nat.not_lt_zero _)
            | succ zc ih84 =>
              intro f q nw iug kig mug fsg ssg txg usg reg rdg dqg bog lcg js k iu2 hm c1 c2 c3 c4 c5 c6 c7 c8 c9
              have hjl := (tc_PF_len c3).1
              have huj := tc_PF_us c3 y1
              refine x_iload_n C dM_read_84 rfl 1 rfl ?_
              refine x_aload_n C dM_read_85 rfl 0 rfl ?_
              refine x_get C fgM_186 0 rfl rfl dM_read_86 ?_
              refine x_icmp_geN (tgt := 108) C (by omega) (by omega) dM_read_89 (by decide) (fun h89 => ?_) (fun h89 => ?_)
              ·
                refine x_aload_n C dM_read_108 rfl 0 rfl ?_
                refine x_get C fgM_165 0 rfl rfl dM_read_109 ?_
                obtain rfl : us = usg := by omega
                obtain rfl : k = js.length := by omega
                rw [List.take_length] at c8 c9
                exact x_iret C T .int rfl rfl dM_read_112 (Or.inr (Or.inl (⟨f, q, _, _, _, _, _, _, _, _, _, _, _, _, rfl, rfl, (by omega), c1, (tc_PF_RM c3 c8 c9 y1), c2⟩)))
              ·
                obtain ⟨c, hc⟩ : ∃ c, js[k]? = some c := ⟨_, List.getElem?_eq_getElem (by omega)⟩
                have hck := c6 k c hc
                have hc2 := (tc_PF_len c3).2 c (List.mem_of_getElem? hc)
                refine x_aload_n C dM_read_92 rfl 0 rfl ?_
                refine x_aload_n C dM_read_93 rfl 0 rfl ?_
                refine x_get C fgM_62 0 rfl rfl dM_read_94 ?_
                refine x_iload_n C dM_read_97 rfl 1 rfl ?_
                refine x_ild C 16 15 rfl rfl (by omega) (by decide) dM_read_98 ?_
                show xk_Go K D 2 0 0 (tc_wM mm cmm 0 iug kig mug fsg ssg txg usg te my mo mz mi iz ma f (some q) od ar lw oc sk sa sl nw reg rdg co dqg bog lcg) [(0, .ref (mm 0)), (1, .int (nI k))] 99 [.int (nI (reg k)), .ref (mm 0)]
                rw [hck]
                refine x_callV C (c_M_release D mm cmm 0 iug kig mug fsg ssg txg usg te my mo mz mi iz ma f (some q) od ar lw oc sk sa sl nw reg rdg co dqg bog lcg c hc2 (by omega)) kbM_125 kcM_125 [0, 1, 2, 3, 4, 5, 6, 7, 8, 9, 10, 11, 12, 13, 14, 15, 16, 17, 18, 19, 20] [] [0, 1, 2, 3, 4, 5, 6, 7, 8, 9, 10, 11, 12, 13, 14, 15, 16, 17, 18, 19] ([]) rfl rfl (by decide) (by decide) (by decide) rfl 0 rfl rfl ⟨Nat.le_of_ble_eq_true rfl, Nat.le_of_ble_eq_true rfl⟩ ⟨Nat.le_of_ble_eq_true rfl, Nat.le_of_ble_eq_true rfl⟩ [] rfl rfl (Nat.le_of_ble_eq_true rfl) dM_read_99 (fun rv ru hw => ?_)
                obtain ⟨rfl, rfl⟩ := hw
                show xk_Go K D 2 0 0 (tc_wM mm cmm 0 (va_up iug c false) kig mug fsg ssg txg (usg - 1) te my mo mz mi iz ma f (some q) od ar lw oc sk sa sl nw reg rdg co dqg bog lcg) [(0, .ref (mm 0)), (1, .int (nI k))] 102 []
                refine x_iinc (q := 1) C (nI (k + 1)) [(1, .int (nI (k + 1))), (0, .ref (mm 0))] dM_read_102 rfl (nI_add k 1) (by decide) rfl ?_
                refine x_goto C 84 dM_read_105 (by decide) ?_
                exact x_sub [1, 0] rfl (ih84 f _ nw (va_up iug c false) kig mug fsg ssg txg (usg - 1) reg rdg dqg bog lcg js (k + 1) iu2 (by omega) c1 c2 c3 c4 (by omega) c6 (by omega) (tc_rel1 hc rfl c8) (tc_rel2 hc rfl c9))
          exact x_sub [1, 0] rfl (lp84 _ f _ nw iug kig mug fsg ssg txg usg reg rdg dqg bog lcg js 0 iug (Nat.lt_succ_self _) (tc_rL_f (L := []) (by decide) g1) g2 hp1 hp2 (by simp only [List.length_nil] at hp3; omega) hp4 (Nat.zero_le _) (fun i hi => by simp at hi) (fun i _ => rfl))
      ·
        show xk_Go K D 2 0 0 (tc_wM mm cmm 0 iug kig mug fsg ssg txg usg te my mo mz mi iz ma f (some q) od ar lw oc sk sa sl nw reg rdg co dqg bog lcg) [(0, .ref (mm 0))] 50 [.int (nI jf)]
        refine x_istore_n C [(1, .int (nI jf)), (0, .ref (mm 0))] dM_read_50 rfl (by decide) rfl ?_
        refine x_iload_n C dM_read_51 rfl 0 rfl ?_
        refine x_if_ltN (tgt := 75) C (by first | omega | exact (fun z hz => by have := (e4 z hz).1; omega)) dM_read_52 (by decide) ?_
        refine x_aload_n C dM_read_55 rfl 1 rfl ?_
        refine x_get C fgM_165 0 rfl rfl dM_read_56 ?_
        refine x_if_neN (tgt := 75) C (by omega) dM_read_59 (by decide) (fun h59 => ?_) (fun h59 => ?_)
        ·
          refine x_aload_n C dM_read_75 rfl 1 rfl ?_
          refine x_get C fgM_165 0 rfl rfl dM_read_76 ?_
          refine x_if_leN (tgt := 113) C (by omega) dM_read_79 (by decide) (fun h79 => ?_) (fun h79 => ?_)
          ·
            exact absurd h79 (by omega)
          ·
            refine x_iconst (v := nI 0) C dM_read_82 (by decide) ?_
            refine x_istore_n C [(1, .int (nI 0)), (0, .ref (mm 0))] dM_read_83 rfl (by decide) rfl ?_
            have lp84 : ∀ (zc : Nat) (f : Nat) (q : Nat) (nw : Nat) (iug : Nat → Bool) (kig : Nat → Nat) (mug : Nat → Int64) (fsg : Nat → Option Nat) (ssg : Nat → Option Nat) (txg : Nat → Nat) (usg : Nat) (reg : Nat → Nat) (rdg : Nat) (dqg : Nat → Nat) (bog : Nat → Nat) (lcg : Nat → Nat) (js : List Nat) (k : Nat) (iu2 : Nat → Bool), (js.length - k) < zc → (tc_rT (tc_B mi) iz us ma = .inl (f, q)) → (0 < f ∧ f < 10) → (tc_PF js (iu, ki, mu, fs, ss, tx) (iu2, kig, mug, fsg, ssg, txg)) → (rdg = js.length) → (usg + k = us + js.length) → (∀ j c, js[j]? = some c → reg j = c) → (k ≤ js.length) → (∀ i, i ∈ js.take k → iug i = false) → (∀ i, i ∉ js.take k → iug i = iu2 i) → xk_Go K D 2 0 0 (tc_wM mm cmm 0 iug kig mug fsg ssg txg usg te my mo mz mi iz ma f (some q) od ar lw oc sk sa sl nw reg rdg co dqg bog lcg) [(0, .ref (mm 0)), (1, .int (nI k))] 84 [] := by
              intro zc
              induction zc with
              | zero => intro f q nw iug kig mug fsg ssg txg usg reg rdg dqg bog lcg js k iu2 hm; exact absurd hm (Nat.not_lt_zero _)
              | succ zc ih84 =>
                intro f q nw iug kig mug fsg ssg txg usg reg rdg dqg bog lcg js k iu2 hm c1 c2 c3 c4 c5 c6 c7 c8 c9
                have hjl := (tc_PF_len c3).1
                have huj := tc_PF_us c3 y1
                refine x_iload_n C dM_read_84 rfl 1 rfl ?_
                refine x_aload_n C dM_read_85 rfl 0 rfl ?_
                refine x_get C fgM_186 0 rfl rfl dM_read_86 ?_
                refine x_icmp_geN (tgt := 108) C (by omega) (by omega) dM_read_89 (by decide) (fun h89 => ?_) (fun h89 => ?_)
                ·
                  refine x_aload_n C dM_read_108 rfl 0 rfl ?_
                  refine x_get C fgM_165 0 rfl rfl dM_read_109 ?_
                  obtain rfl : us = usg := by omega
                  obtain rfl : k = js.length := by omega
                  rw [List.take_length] at c8 c9
                  exact x_iret C T .int rfl rfl dM_read_112 (Or.inr (Or.inl (⟨f, q, _, _, _, _, _, _, _, _, _, _, _, _, rfl, rfl, (by omega), c1, (tc_PF_RM c3 c8 c9 y1), c2⟩)))
                ·
                  obtain ⟨c, hc⟩ : ∃ c, js[k]? = some c := ⟨_, List.getElem?_eq_getElem (by omega)⟩
                  have hck := c6 k c hc
                  have hc2 := (tc_PF_len c3).2 c (List.mem_of_getElem? hc)
                  refine x_aload_n C dM_read_92 rfl 0 rfl ?_
                  refine x_aload_n C dM_read_93 rfl 0 rfl ?_
                  refine x_get C fgM_62 0 rfl rfl dM_read_94 ?_
                  refine x_iload_n C dM_read_97 rfl 1 rfl ?_
                  refine x_ild C 16 15 rfl rfl (by omega) (by decide) dM_read_98 ?_
                  show xk_Go K D 2 0 0 (tc_wM mm cmm 0 iug kig mug fsg ssg txg usg te my mo mz mi iz ma f (some q) od ar lw oc sk sa sl nw reg rdg co dqg bog lcg) [(0, .ref (mm 0)), (1, .int (nI k))] 99 [.int (nI (reg k)), .ref (mm 0)]
                  rw [hck]
                  refine x_callV C (c_M_release D mm cmm 0 iug kig mug fsg ssg txg usg te my mo mz mi iz ma f (some q) od ar lw oc sk sa sl nw reg rdg co dqg bog lcg c hc2 (by omega)) kbM_125 kcM_125 [0, 1, 2, 3, 4, 5, 6, 7, 8, 9, 10, 11, 12, 13, 14, 15, 16, 17, 18, 19, 20] [] [0, 1, 2, 3, 4, 5, 6, 7, 8, 9, 10, 11, 12, 13, 14, 15, 16, 17, 18, 19] ([]) rfl rfl (by decide) (by decide) (by decide) rfl 0 rfl rfl ⟨Nat.le_of_ble_eq_true rfl, Nat.le_of_ble_eq_true rfl⟩ ⟨Nat.le_of_ble_eq_true rfl, Nat.le_of_ble_eq_true rfl⟩ [] rfl rfl (Nat.le_of_ble_eq_true rfl) dM_read_99 (fun rv ru hw => ?_)
                  obtain ⟨rfl, rfl⟩ := hw
                  show xk_Go K D 2 0 0 (tc_wM mm cmm 0 (va_up iug c false) kig mug fsg ssg txg (usg - 1) te my mo mz mi iz ma f (some q) od ar lw oc sk sa sl nw reg rdg co dqg bog lcg) [(0, .ref (mm 0)), (1, .int (nI k))] 102 []
                  refine x_iinc (q := 1) C (nI (k + 1)) [(1, .int (nI (k + 1))), (0, .ref (mm 0))] dM_read_102 rfl (nI_add k 1) (by decide) rfl ?_
                  refine x_goto C 84 dM_read_105 (by decide) ?_
                  exact x_sub [1, 0] rfl (ih84 f _ nw (va_up iug c false) kig mug fsg ssg txg (usg - 1) reg rdg dqg bog lcg js (k + 1) iu2 (by omega) c1 c2 c3 c4 (by omega) c6 (by omega) (tc_rel1 hc rfl c8) (tc_rel2 hc rfl c9))
            exact x_sub [1, 0] rfl (lp84 _ f _ nw iug kig mug fsg ssg txg usg reg rdg dqg bog lcg js 0 iug (Nat.lt_succ_self _) (tc_rL_f (L := []) (by decide) g1) g2 hp1 hp2 (by simp only [List.length_nil] at hp3; omega) hp4 (Nat.zero_le _) (fun i hi => by simp at hi) (fun i _ => rfl))
        ·
          exact absurd h59 (by omega)
  ·
    refine x_iconst (v := xk_oI none) C dM_read_16 (by decide) ?_
    exact x_iret C T .int rfl rfl dM_read_17 (Or.inl (⟨rfl, rfl, (by omega)⟩))
