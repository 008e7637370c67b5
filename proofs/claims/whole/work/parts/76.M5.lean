set_option maxHeartbeats 4000000 in
set_option maxRecDepth 100000 in
/-- twice -/
theorem c_M_twice (D : va_G) (mm : Nat → Nat) (cmm : Nat → ClassId) (th : Nat) (iu : Nat → Bool) (ki : Nat → Nat) (mu : Nat → Int64) (fs : Nat → Option Nat) (ss : Nat → Option Nat) (tx : Nat → Nat) (us : Nat) (te : Nat → Nat) (my : Nat) (mo : Nat → Nat) (mz : Nat) (mi : Nat → Nat) (iz : Nat) (ma : Nat) (mf : Nat) (mp : Option Nat) (od : Nat → Nat) (ar : Nat → Option Nat) (lw : Nat → Nat) (oc : Nat) (sk : Nat → Nat) (sa : Nat → Option Nat) (sl : Nat → Nat) (pp : Nat) (re : Nat → Nat) (rd : Nat) (co : Nat → Nat) (dq : Nat → Nat) (bo : Nat → Nat) (lc : Nat → Nat) (Ts : List (List tc_Nd)) (y1 : tc_RM Ts (iu, ki, mu, fs, ss, tx) us te my) : xk_Ct yM_twice cM_twice 6 (some .boolean) { frames := 2, cells := 0, slots := 0, locals := 45 } D (tc_tM cmm) [.ref (mm 0)] (tc_wM mm cmm th iu ki mu fs ss tx us te my mo mz mi iz ma mf mp od ar lw oc sk sa sl pp re rd co dq bo lc) (fun rv ru => (∃ (odg : Nat → Nat), ∃ (arg : Nat → Option Nat), ∃ (lwg : Nat → Nat), ∃ (skg : Nat → Nat), ∃ (sag : Nat → Option Nat), ∃ (slg : Nat → Nat), ∃ (ocg : Nat), rv = some (.int (nI 0)) ∧ ru = tc_wM mm cmm 0 iu ki mu fs ss tx us te my mo mz mi iz ma mf mp odg arg lwg ocg skg sag slg pp re rd co dq bo lc ∧ (tc_dup Ts = none)) ∨ (∃ (iug : Nat → Bool), ∃ (kig : Nat → Nat), ∃ (mug : Nat → Int64), ∃ (fsg : Nat → Option Nat), ∃ (ssg : Nat → Option Nat), ∃ (txg : Nat → Nat), ∃ (usg : Nat), ∃ (teg : Nat → Nat), ∃ (myg : Nat), ∃ (odg : Nat → Nat), ∃ (arg : Nat → Option Nat), ∃ (lwg : Nat → Nat), ∃ (skg : Nat → Nat), ∃ (sag : Nat → Option Nat), ∃ (slg : Nat → Nat), ∃ (ocg : Nat), ∃ (cog : Nat → Nat), ∃ (Tn : List (List tc_Nd)), rv = some (.int (nI 1)) ∧ ru = tc_wM mm cmm 0 iug kig mug fsg ssg txg usg teg myg mo mz mi iz ma mf mp odg arg lwg ocg skg sag slg pp re rd cog dq bo lc ∧ (tc_dup Ts = some Tn) ∧ (tc_RM Tn (iug, kig, mug, fsg, ssg, txg) usg teg myg))) := by
  refine xk_enter (by decide) (Nat.le_of_ble_eq_true rfl) (fun K C T hin => ?_)
  obtain ⟨yu, yv, yn, yc⟩ := tc_RM_us y1
  show xk_Go K D 6 0 0 (tc_wM mm cmm th iu ki mu fs ss tx us te my mo mz mi iz ma mf mp od ar lw oc sk sa sl pp re rd co dq bo lc) [(0, .ref (mm 0))] 0 []
  refine x_aload_n C dM_twice_0 rfl 0 rfl ?_
  refine x_iconst (v := nI 0) C dM_twice_1 (by decide) ?_
  refine x_put C fpM_77 0 (tc_wM mm cmm 0 iu ki mu fs ss tx us te my mo mz mi iz ma mf mp od ar lw oc sk sa sl pp re rd co dq bo lc) rfl rfl rfl rfl (Nat.le_of_ble_eq_true rfl) dM_twice_2 ?_
  refine x_aload_n C dM_twice_5 rfl 0 rfl ?_
  refine x_get C fgM_94 0 rfl rfl dM_twice_6 ?_
  refine x_if_neN (tgt := 14) C (by omega) dM_twice_9 (by decide) (fun h9 => ?_) (fun h9 => ?_)
  ·
    obtain ⟨ids, I, R, rfl, yI, yg, ym⟩ := tc_RM_top y1 (by omega)
    have ynd : ids.Nodup := (List.pairwise_flatten.mp yI.2.2.2.2.1).1 ids List.mem_cons_self
    have ylm : (ids.map (tc_mn ki mu tx)).length = ids.length := List.length_map _
    have yw : tc_wf 1 (ids.map (tc_mn ki mu tx)) := tc_Hg_wf yg
    have yl1 : 0 < ids.length := by obtain ⟨F, hF, _⟩ := tc_Fo_hd yg.1; rw [hF]; simp
    have y200 := yg.2.1
    refine x_aload_n C dM_twice_14 rfl 0 rfl ?_
    refine x_aload_n C dM_twice_15 rfl 0 rfl ?_
    refine x_get C fgM_31 0 rfl rfl dM_twice_16 ?_
    refine x_aload_n C dM_twice_19 rfl 0 rfl ?_
    refine x_get C fgM_94 0 rfl rfl dM_twice_20 ?_
    refine x_iconst (v := nI 1) C dM_twice_23 (by decide) ?_
    refine x_isubN C (by omega) dM_twice_24 ?_
    refine x_ild C 7 6 rfl rfl (by omega) (by decide) dM_twice_25 ?_
    show xk_Go K D 6 0 0 (tc_wM mm cmm 0 iu ki mu fs ss tx us te my mo mz mi iz ma mf mp od ar lw oc sk sa sl pp re rd co dq bo lc) [(0, .ref (mm 0))] 26 [.int (nI (te (my - 1))), .ref (mm 0)]
    refine x_callV C (c_M_go D mm cmm 0 iu ki mu fs ss tx us te my mo mz mi iz ma mf mp od ar lw oc sk sa sl pp re rd co dq bo lc (te (my - 1)) ids yg.1 yg.2.1 yg.2.2.1 yg.2.2.2.1 yg.2.2.2.2.1) kbM_90 kcM_90 [0, 1, 2, 3, 4, 5, 6, 7, 8, 9, 10, 11, 12, 13, 14, 15, 16, 17, 18, 19, 20] [] [0, 1, 2, 3, 4, 5, 6, 7, 8, 9, 10, 11, 12, 13, 14, 15, 16, 17, 18, 19] ([]) rfl rfl (by decide) (by decide) (by decide) rfl 0 rfl rfl ⟨Nat.le_of_ble_eq_true rfl, Nat.le_of_ble_eq_true rfl⟩ ⟨Nat.le_of_ble_eq_true rfl, Nat.le_of_ble_eq_true rfl⟩ [] rfl rfl (Nat.le_of_ble_eq_true rfl) dM_twice_26 (fun rv ru hw => ?_)
    obtain ⟨odg, arg, lwg, skg, sag, slg, rfl, rfl, g1⟩ := hw
    show xk_Go K D 6 0 0 (tc_wM mm cmm 0 iu ki mu fs ss tx us te my mo mz mi iz ma mf mp odg arg lwg ids.length skg sag slg pp re rd co dq bo lc) [(0, .ref (mm 0))] 29 []
    refine x_aload_n C dM_twice_29 rfl 0 rfl ?_
    refine x_get C fgM_84 0 rfl rfl dM_twice_30 ?_
    refine x_aload_n C dM_twice_33 rfl 0 rfl ?_
    refine x_get C fgM_87 0 rfl rfl dM_twice_34 ?_
    refine x_iaddN C dM_twice_37 ?_
    refine x_sipush (v := nI 200) C dM_twice_38 (by decide) ?_
    refine x_icmp_leN (tgt := 46) C (by omega) (by decide) dM_twice_41 (by decide) (fun h41 => ?_) (fun h41 => ?_)
    ·
      refine x_iconst (v := nI 0) C dM_twice_46 (by decide) ?_
      refine x_istore_n C [(1, .int (nI 0)), (0, .ref (mm 0))] dM_twice_47 rfl (by decide) rfl ?_
      have lp48 : ∀ (zc : Nat) (cs : List Nat) (iug : Nat → Bool) (kig : Nat → Nat) (mug : Nat → Int64) (fsg : Nat → Option Nat) (ssg : Nat → Option Nat) (txg : Nat → Nat) (cog : Nat → Nat), (ids.length - cs.length) < zc → (cs.length ≤ ids.length) → (tc_TW ids cs (iu, ki, mu, fs, ss, tx) (iug, kig, mug, fsg, ssg, txg)) → (∀ j c, cs[j]? = some c → cog j = c) → xk_Go K D 6 0 0 (tc_wM mm cmm 0 iug kig mug fsg ssg txg (us + cs.length) te my mo mz mi iz ma mf mp odg arg lwg ids.length skg sag slg pp re rd cog dq bo lc) [(0, .ref (mm 0)), (1, .int (nI cs.length))] 48 [] := by
        intro zc
        induction zc with
        | zero => intro cs iug kig mug fsg ssg txg cog hm; exact absurd hm (Nat.not_lt_zero _)
        | succ zc ih48 =>
          intro cs iug kig mug fsg ssg txg cog hm e1 e2 e3
          refine x_iload_n C dM_twice_48 rfl 1 rfl ?_
          refine x_aload_n C dM_twice_49 rfl 0 rfl ?_
          refine x_get C fgM_87 0 rfl rfl dM_twice_50 ?_
          refine x_icmp_geN (tgt := 239) C (by omega) (by omega) dM_twice_53 (by decide) (fun h53 => ?_) (fun h53 => ?_)
          ·
            refine x_aload_n C dM_twice_239 rfl 0 rfl ?_
            refine x_get C fgM_31 0 rfl rfl dM_twice_240 ?_
            refine x_aload_n C dM_twice_243 rfl 0 rfl ?_
            refine x_get C fgM_94 0 rfl rfl dM_twice_244 ?_
            refine x_aload_n C dM_twice_247 rfl 0 rfl ?_
            refine x_get C fgM_65 0 rfl rfl dM_twice_248 ?_
            refine x_iconst (v := nI 0) C dM_twice_251 (by decide) ?_
            refine x_ild C 17 16 rfl rfl (by omega) (by decide) dM_twice_252 ?_
            show xk_Go K D 6 0 0 (tc_wM mm cmm 0 iug kig mug fsg ssg txg (us + cs.length) te my mo mz mi iz ma mf mp odg arg lwg ids.length skg sag slg pp re rd cog dq bo lc) [(0, .ref (mm 0)), (1, .int (nI cs.length))] 253 [.int (nI (cog 0)), .int (nI my), .ref (mm 7)]
            refine x_ist C 7 6 (tc_wM mm cmm 0 iug kig mug fsg ssg txg (us + cs.length) (va_up te my (cog 0)) my mo mz mi iz ma mf mp odg arg lwg ids.length skg sag slg pp re rd cog dq bo lc) rfl rfl (xk_nA_up te my (cog 0)) rfl (by omega) (by decide) dM_twice_253 ?_
            refine x_aload_n C dM_twice_254 rfl 0 rfl ?_
            refine x_dup C dM_twice_255 rfl ?_
            refine x_get C fgM_94 0 rfl rfl dM_twice_256 ?_
            refine x_iconst (v := nI 1) C dM_twice_259 (by decide) ?_
            refine x_iaddN C dM_twice_260 ?_
            refine x_put C fpM_94 0 (tc_wM mm cmm 0 iug kig mug fsg ssg txg (us + cs.length) (va_up te my (cog 0)) (my + 1) mo mz mi iz ma mf mp odg arg lwg ids.length skg sag slg pp re rd cog dq bo lc) rfl rfl rfl rfl (Nat.le_of_ble_eq_true rfl) dM_twice_261 ?_
            refine x_iconst (v := nI 1) C dM_twice_264 (by decide) ?_
            have hlen : cs.length = ids.length := by omega
            obtain ⟨c0, hc0⟩ : ∃ c0, cs[0]? = some c0 := ⟨_, List.getElem?_eq_getElem (by omega)⟩
            exact x_iret C T .boolean rfl rfl dM_twice_265 (Or.inr (⟨_, _, _, _, _, _, _, _, _, _, _, _, _, _, _, _, _, (ids.map (tc_mn ki mu tx) :: ids.map (tc_mn ki mu tx) :: R), rfl, rfl, (if_pos (by rw [← yc, List.length_map]; omega)), (by rw [hlen, e3 0 c0 hc0]; exact tc_TW_RM yI e2 yg hlen hc0)⟩))
          ·
            obtain ⟨n, hn⟩ : ∃ n, ids[cs.length]? = some n := ⟨_, List.getElem?_eq_getElem (by omega)⟩
            have hod := g1.1 _ n hn
            have hnm2 := List.mem_of_getElem? hn
            have hn2 := yg.2.2.1 n hnm2
            have hn11 := yg.2.2.2.2.2 n hnm2
            have hnu := (yI.2.2.1 n (List.mem_append_left _ hnm2)).2.1
            have hnc := tc_TW_cs e2 hnu
            have hkn := (e2.2.2.1 n hnc).2.1
            have hun := (e2.2.2.1 n hnc).1
            refine x_aload_n C dM_twice_56 rfl 0 rfl ?_
            refine x_get C fgM_44 0 rfl rfl dM_twice_57 ?_
            refine x_iload_n C dM_twice_60 rfl 1 rfl ?_
            refine x_ild C 10 9 rfl rfl (by omega) (by decide) dM_twice_61 ?_
            show xk_Go K D 6 0 0 (tc_wM mm cmm 0 iug kig mug fsg ssg txg (us + cs.length) te my mo mz mi iz ma mf mp odg arg lwg ids.length skg sag slg pp re rd cog dq bo lc) [(0, .ref (mm 0)), (1, .int (nI cs.length))] 62 [.int (nI (odg cs.length))]
            rw [hod]
            refine x_istore_n C [(2, .int (nI n)), (0, .ref (mm 0)), (1, .int (nI cs.length))] dM_twice_62 rfl (by decide) rfl ?_
            refine x_aload_n C dM_twice_63 rfl 1 rfl ?_
            refine x_aload_n C dM_twice_64 rfl 1 rfl ?_
            refine x_get C fgM_13 0 rfl rfl dM_twice_65 ?_
            refine x_iload_n C dM_twice_68 rfl 0 rfl ?_
            refine x_ild C 2 1 rfl rfl (by omega) (by decide) dM_twice_69 ?_
            show xk_Go K D 6 0 0 (tc_wM mm cmm 0 iug kig mug fsg ssg txg (us + cs.length) te my mo mz mi iz ma mf mp odg arg lwg ids.length skg sag slg pp re rd cog dq bo lc) [(2, .int (nI n)), (0, .ref (mm 0)), (1, .int (nI cs.length))] 70 [.int (nI (kig n)), .ref (mm 0)]
            rw [hkn]
            refine x_aload_n C dM_twice_70 rfl 1 rfl ?_
            refine x_get C fgM_17 0 rfl rfl dM_twice_71 ?_
            refine x_iload_n C dM_twice_74 rfl 0 rfl ?_
            refine x_lld C 3 2 rfl rfl (by omega) (by decide) dM_twice_75 ?_
            obtain ⟨k0, hk0, hk1⟩ := tc_TW_free yI e2 (by omega)
            refine x_callV C (c_M_make D mm cmm 0 iug kig mug fsg ssg txg (us + cs.length) te my mo mz mi iz ma mf mp odg arg lwg ids.length skg sag slg pp re rd cog dq bo lc (ki n) (mug n) k0 hk0 hk1) kbM_115 kcM_115 [0, 1, 2, 3, 4, 5, 6, 7, 8, 9, 10, 11, 12, 13, 14, 15, 16, 17, 18, 19, 20] [] [0, 1, 2, 3, 4, 5, 6, 7, 8, 9, 10, 11, 12, 13, 14, 15, 16, 17, 18, 19] ([]) rfl rfl (by decide) (by decide) (by decide) rfl 0 rfl rfl ⟨Nat.le_of_ble_eq_true rfl, Nat.le_of_ble_eq_true rfl⟩ ⟨Nat.le_of_ble_eq_true rfl, Nat.le_of_ble_eq_true rfl⟩ [] rfl rfl (Nat.le_of_ble_eq_true rfl) dM_twice_76 (fun rv ru hw => ?_)
            obtain ⟨m, rfl, rfl, g1m, g2m⟩ := hw
            show xk_Go K D 6 0 0 (tc_wM mm cmm 0 (va_up iug m true) (va_up kig m (ki n)) (vp_updL mug m (mug n)) (va_up fsg m none) (va_up ssg m none) txg ((us + cs.length) + 1) te my mo mz mi iz ma mf mp odg arg lwg ids.length skg sag slg pp re rd cog dq bo lc) [(2, .int (nI n)), (0, .ref (mm 0)), (1, .int (nI cs.length))] 79 [.int (nI m)]
            have hnm : n ≠ m := fun z => by rw [← z, hun, hnu] at g2m; cases g2m
            refine x_istore_n C [(3, .int (nI m)), (2, .int (nI n)), (0, .ref (mm 0)), (1, .int (nI cs.length))] dM_twice_79 rfl (by decide) rfl ?_
            refine x_aload_n C dM_twice_80 rfl 2 rfl ?_
            refine x_get C fgM_65 0 rfl rfl dM_twice_81 ?_
            refine x_iload_n C dM_twice_84 rfl 3 rfl ?_
            refine x_iload_n C dM_twice_85 rfl 0 rfl ?_
            refine x_ist C 17 16 (tc_wM mm cmm 0 (va_up iug m true) (va_up kig m (ki n)) (vp_updL mug m (mug n)) (va_up fsg m none) (va_up ssg m none) txg ((us + cs.length) + 1) te my mo mz mi iz ma mf mp odg arg lwg ids.length skg sag slg pp re rd (va_up cog cs.length m) dq bo lc) rfl rfl (xk_nA_up cog cs.length m) rfl (by omega) (by decide) dM_twice_86 ?_
            have jn138 : ∀ (txh : Nat → Nat), (∀ i, i ≠ m → ∀ j, j < 64 → txh (64 * i + j) = txg (64 * i + j)) → (ki n = 8 → ∀ j, j < 64 → txh (64 * m + j) = txg (64 * n + j)) → xk_Go K D 6 0 0 (tc_wM mm cmm 0 (va_up iug m true) (va_up kig m (ki n)) (vp_updL mug m (mug n)) (va_up fsg m none) (va_up ssg m none) txh ((us + cs.length) + 1) te my mo mz mi iz ma mf mp odg arg lwg ids.length skg sag slg pp re rd (va_up cog cs.length m) dq bo lc) [(0, .ref (mm 0)), (1, .int (nI cs.length)), (2, .int (nI n)), (3, .int (nI m))] 138 [] := by
              intro txh t1 t2
              obtain ⟨e, he⟩ := tc_E_at yw (k := cs.length) (by omega)
              have har := (g1.2 _ e he).1
              have hch := tc_chE yg he hn
              refine x_aload_n C dM_twice_138 rfl 0 rfl ?_
              refine x_get C fgM_47 0 rfl rfl dM_twice_139 ?_
              refine x_iload_n C dM_twice_142 rfl 1 rfl ?_
              refine x_ild C 11 10 rfl rfl (by omega) (by decide) dM_twice_143 ?_
              show xk_Go K D 6 0 0 (tc_wM mm cmm 0 (va_up iug m true) (va_up kig m (ki n)) (vp_updL mug m (mug n)) (va_up fsg m none) (va_up ssg m none) txh ((us + cs.length) + 1) te my mo mz mi iz ma mf mp odg arg lwg ids.length skg sag slg pp re rd (va_up cog cs.length m) dq bo lc) [(0, .ref (mm 0)), (1, .int (nI cs.length)), (2, .int (nI n)), (3, .int (nI m))] 144 [.int (xk_oI (arg cs.length))]
              rw [har]
              refine x_if_ltO (tgt := 233) C (fun v hv => by rcases hch with ⟨z, _⟩ | ⟨p2, ip, z, z2, _⟩; rw [hv] at z; cases z; rw [hv] at z; obtain rfl : v = p2 := (by simpa using z); omega) dM_twice_144 (by decide) (fun h144 => ?_) (fun p h144 => ?_)
              ·
                have hk0 : cs.length = 0 := by rcases hch with ⟨_, z⟩ | ⟨p, ip, z, _⟩; exact z; rw [h144] at z; cases z
                refine x_iinc (q := 1) C (nI (cs.length + 1)) [(1, .int (nI (cs.length + 1))), (0, .ref (mm 0)), (2, .int (nI n)), (3, .int (nI m))] dM_twice_233 rfl (nI_add cs.length 1) (by decide) rfl ?_
                refine x_goto C 48 dM_twice_236 (by decide) ?_
                have hcl : (cs ++ [m]).length = cs.length + 1 := by simp
                rw [Nat.add_assoc us, ← hcl]
                exact x_sub [1, 0] rfl (ih48 (cs ++ [m]) (va_up iug m true) (va_up kig m (ki n)) (vp_updL mug m (mug n)) (va_up fsg m none) (va_up ssg m none) txh (va_up cog cs.length m) (by omega) (by omega) (by rw [← hkn]; exact tc_TW_root e2 yg ynd hn hk0 g1m g2m t1 t2) (tc_co1 e3))
              ·
                obtain ⟨ip, hp2, hip, hkd⟩ : ∃ ip, p < cs.length ∧ ids[p]? = some ip ∧ n ∈ tc_kd fs ss ip := by rcases hch with ⟨z, _⟩ | ⟨p2, ip, z, z2, z3, z4⟩; rw [h144] at z; cases z; rw [h144] at z; obtain rfl : p = p2 := (by simpa using z); exact ⟨ip, z2, z3, z4⟩
                clear hch
                obtain ⟨o, ho⟩ : ∃ o, cs[p]? = some o := ⟨_, List.getElem?_eq_getElem hp2⟩
                have hco := e3 p o ho
                have hom := e2.2.1 o (List.mem_of_getElem? ho)
                have ho2 := hom.1
                have hipm := List.mem_of_getElem? hip
                have hip2 := yg.2.2.1 ip hipm
                have hipu := (yI.2.2.1 ip (List.mem_append_left _ hipm)).2
                have hipc := tc_TW_cs e2 hipu.1
                have hipn : ip ≠ m := fun z => by have q := (e2.2.2.1 ip hipc).1; rw [hipu.1, z, g2m] at q; cases q
                have hoip := g1.1 p ip hip
                have hfip := (e2.2.2.1 ip hipc).2.2.2.1
                obtain ⟨f, hf⟩ := tc_kd_f (fs := fs) (ss := ss) (m := ip) (fun z => by rw [List.eq_nil_of_length_eq_zero z] at hkd; cases hkd) hipu.2.2
                have hf2 := (yg.2.2.2.2.1 ip hipm).1 f hf
                refine x_aload_n C dM_twice_147 rfl 0 rfl ?_
                refine x_get C fgM_65 0 rfl rfl dM_twice_148 ?_
                refine x_aload_n C dM_twice_151 rfl 0 rfl ?_
                refine x_get C fgM_47 0 rfl rfl dM_twice_152 ?_
                refine x_iload_n C dM_twice_155 rfl 1 rfl ?_
                refine x_ild C 11 10 rfl rfl (by omega) (by decide) dM_twice_156 ?_
                show xk_Go K D 6 0 0 (tc_wM mm cmm 0 (va_up iug m true) (va_up kig m (ki n)) (vp_updL mug m (mug n)) (va_up fsg m none) (va_up ssg m none) txh ((us + cs.length) + 1) te my mo mz mi iz ma mf mp odg arg lwg ids.length skg sag slg pp re rd (va_up cog cs.length m) dq bo lc) [(0, .ref (mm 0)), (1, .int (nI cs.length)), (2, .int (nI n)), (3, .int (nI m))] 157 [.int (xk_oI (arg cs.length)), .ref (mm 17)]
                rw [har, h144]
                show xk_Go K D 6 0 0 (tc_wM mm cmm 0 (va_up iug m true) (va_up kig m (ki n)) (vp_updL mug m (mug n)) (va_up fsg m none) (va_up ssg m none) txh ((us + cs.length) + 1) te my mo mz mi iz ma mf mp odg arg lwg ids.length skg sag slg pp re rd (va_up cog cs.length m) dq bo lc) [(0, .ref (mm 0)), (1, .int (nI cs.length)), (2, .int (nI n)), (3, .int (nI m))] 157 [.int (nI p), .ref (mm 17)]
                refine x_ild C 17 16 rfl rfl (by omega) (by decide) dM_twice_157 ?_
                show xk_Go K D 6 0 0 (tc_wM mm cmm 0 (va_up iug m true) (va_up kig m (ki n)) (vp_updL mug m (mug n)) (va_up fsg m none) (va_up ssg m none) txh ((us + cs.length) + 1) te my mo mz mi iz ma mf mp odg arg lwg ids.length skg sag slg pp re rd (va_up cog cs.length m) dq bo lc) [(0, .ref (mm 0)), (1, .int (nI cs.length)), (2, .int (nI n)), (3, .int (nI m))] 158 [.int (nI ((va_up cog cs.length m) p))]
                rw [va_up_ne _ _ (show p ≠ cs.length by omega), hco]
                refine x_istore C [(4, .int (nI o)), (0, .ref (mm 0)), (1, .int (nI cs.length)), (2, .int (nI n)), (3, .int (nI m))] dM_twice_158 (by decide) rfl ?_
                refine x_aload_n C dM_twice_160 rfl 1 rfl ?_
                refine x_get C fgM_21 0 rfl rfl dM_twice_161 ?_
                refine x_aload_n C dM_twice_164 rfl 1 rfl ?_
                refine x_get C fgM_44 0 rfl rfl dM_twice_165 ?_
                refine x_aload_n C dM_twice_168 rfl 1 rfl ?_
                refine x_get C fgM_47 0 rfl rfl dM_twice_169 ?_
                refine x_iload_n C dM_twice_172 rfl 2 rfl ?_
                refine x_ild C 11 10 rfl rfl (by omega) (by decide) dM_twice_173 ?_
                show xk_Go K D 6 0 0 (tc_wM mm cmm 0 (va_up iug m true) (va_up kig m (ki n)) (vp_updL mug m (mug n)) (va_up fsg m none) (va_up ssg m none) txh ((us + cs.length) + 1) te my mo mz mi iz ma mf mp odg arg lwg ids.length skg sag slg pp re rd (va_up cog cs.length m) dq bo lc) [(4, .int (nI o)), (0, .ref (mm 0)), (1, .int (nI cs.length)), (2, .int (nI n)), (3, .int (nI m))] 174 [.int (xk_oI (arg cs.length)), .ref (mm 10), .ref (mm 4)]
                rw [har, h144]
                show xk_Go K D 6 0 0 (tc_wM mm cmm 0 (va_up iug m true) (va_up kig m (ki n)) (vp_updL mug m (mug n)) (va_up fsg m none) (va_up ssg m none) txh ((us + cs.length) + 1) te my mo mz mi iz ma mf mp odg arg lwg ids.length skg sag slg pp re rd (va_up cog cs.length m) dq bo lc) [(4, .int (nI o)), (0, .ref (mm 0)), (1, .int (nI cs.length)), (2, .int (nI n)), (3, .int (nI m))] 174 [.int (nI p), .ref (mm 10), .ref (mm 4)]
                refine x_ild C 10 9 rfl rfl (by omega) (by decide) dM_twice_174 ?_
                show xk_Go K D 6 0 0 (tc_wM mm cmm 0 (va_up iug m true) (va_up kig m (ki n)) (vp_updL mug m (mug n)) (va_up fsg m none) (va_up ssg m none) txh ((us + cs.length) + 1) te my mo mz mi iz ma mf mp odg arg lwg ids.length skg sag slg pp re rd (va_up cog cs.length m) dq bo lc) [(4, .int (nI o)), (0, .ref (mm 0)), (1, .int (nI cs.length)), (2, .int (nI n)), (3, .int (nI m))] 175 [.int (nI (odg p)), .ref (mm 4)]
                rw [hoip]
                refine x_ild C 4 3 rfl rfl (by omega) (by decide) dM_twice_175 ?_
                show xk_Go K D 6 0 0 (tc_wM mm cmm 0 (va_up iug m true) (va_up kig m (ki n)) (vp_updL mug m (mug n)) (va_up fsg m none) (va_up ssg m none) txh ((us + cs.length) + 1) te my mo mz mi iz ma mf mp odg arg lwg ids.length skg sag slg pp re rd (va_up cog cs.length m) dq bo lc) [(4, .int (nI o)), (0, .ref (mm 0)), (1, .int (nI cs.length)), (2, .int (nI n)), (3, .int (nI m))] 176 [.int (xk_oI ((va_up fsg m none) ip))]
                rw [va_up_ne _ _ hipn, hfip, hf]
                show xk_Go K D 6 0 0 (tc_wM mm cmm 0 (va_up iug m true) (va_up kig m (ki n)) (vp_updL mug m (mug n)) (va_up fsg m none) (va_up ssg m none) txh ((us + cs.length) + 1) te my mo mz mi iz ma mf mp odg arg lwg ids.length skg sag slg pp re rd (va_up cog cs.length m) dq bo lc) [(4, .int (nI o)), (0, .ref (mm 0)), (1, .int (nI cs.length)), (2, .int (nI n)), (3, .int (nI m))] 176 [.int (nI f)]
                refine x_iload_n C dM_twice_176 rfl 3 rfl ?_
                refine x_icmp_eqN (tgt := 184) C (by omega) (by omega) dM_twice_177 (by decide) (fun h177 => ?_) (fun h177 => ?_)
                ·
                  refine x_iconst (v := nI 0) C dM_twice_184 (by decide) ?_
                  refine x_istore C [(5, .int (nI 0)), (4, .int (nI o)), (0, .ref (mm 0)), (1, .int (nI cs.length)), (2, .int (nI n)), (3, .int (nI m))] dM_twice_185 (by decide) rfl ?_
                  refine x_aload_n C dM_twice_187 rfl 2 rfl ?_
                  refine x_get C fgM_21 0 rfl rfl dM_twice_188 ?_
                  refine x_iload C dM_twice_191 1 rfl ?_
                  refine x_iload C dM_twice_193 0 rfl ?_
                  refine x_if_eq (tgt := 208) C dM_twice_195 (by decide) (fun _ => ?_) (fun h => absurd (by decide) h)
                  refine x_iload_n C dM_twice_208 rfl 5 rfl ?_
                  refine x_ist C 4 3 (tc_wM mm cmm 0 (va_up iug m true) (va_up kig m (ki n)) (vp_updL mug m (mug n)) (va_up (va_up fsg m none) o (some m)) (va_up ssg m none) txh ((us + cs.length) + 1) te my mo mz mi iz ma mf mp odg arg lwg ids.length skg sag slg pp re rd (va_up cog cs.length m) dq bo lc) rfl rfl (xk_oA_up (va_up fsg m none) o (some m)) rfl (by omega) (by decide) dM_twice_209 ?_
                  refine x_aload_n C dM_twice_210 rfl 2 rfl ?_
                  refine x_get C fgM_24 0 rfl rfl dM_twice_211 ?_
                  refine x_iload C dM_twice_214 1 rfl ?_
                  refine x_iload C dM_twice_216 0 rfl ?_
                  refine x_if_eq (tgt := 225) C dM_twice_218 (by decide) (fun _ => ?_) (fun h => absurd (by decide) h)
                  refine x_aload_n C dM_twice_225 rfl 2 rfl ?_
                  refine x_get C fgM_24 0 rfl rfl dM_twice_226 ?_
                  refine x_iload C dM_twice_229 1 rfl ?_
                  refine x_ild C 5 4 rfl rfl (by omega) (by decide) dM_twice_231 ?_
                  show xk_Go K D 6 0 0 (tc_wM mm cmm 0 (va_up iug m true) (va_up kig m (ki n)) (vp_updL mug m (mug n)) (va_up (va_up fsg m none) o (some m)) (va_up ssg m none) txh ((us + cs.length) + 1) te my mo mz mi iz ma mf mp odg arg lwg ids.length skg sag slg pp re rd (va_up cog cs.length m) dq bo lc) [(5, .int (nI 0)), (4, .int (nI o)), (0, .ref (mm 0)), (1, .int (nI cs.length)), (2, .int (nI n)), (3, .int (nI m))] 232 [.int (xk_oI ((va_up ssg m none) o)), .int (nI o), .ref (mm 5)]
                  refine x_ist C 5 4 (tc_wM mm cmm 0 (va_up iug m true) (va_up kig m (ki n)) (vp_updL mug m (mug n)) (va_up (va_up fsg m none) o (some m)) (va_up (va_up ssg m none) o ((va_up ssg m none) o)) txh ((us + cs.length) + 1) te my mo mz mi iz ma mf mp odg arg lwg ids.length skg sag slg pp re rd (va_up cog cs.length m) dq bo lc) rfl rfl (xk_oA_up (va_up ssg m none) o ((va_up ssg m none) o)) rfl (by omega) (by decide) dM_twice_232 ?_
                  refine x_iinc (q := 3) C (nI (cs.length + 1)) [(1, .int (nI (cs.length + 1))), (5, .int (nI 0)), (4, .int (nI o)), (0, .ref (mm 0)), (2, .int (nI n)), (3, .int (nI m))] dM_twice_233 rfl (nI_add cs.length 1) (by decide) rfl ?_
                  refine x_goto C 48 dM_twice_236 (by decide) ?_
                  have hcl : (cs ++ [m]).length = cs.length + 1 := by simp
                  rw [Nat.add_assoc us, ← hcl]
                  exact x_sub [3, 0] rfl (ih48 (cs ++ [m]) (va_up iug m true) (va_up kig m (ki n)) (vp_updL mug m (mug n)) (va_up (va_up fsg m none) o (some m)) (va_up (va_up ssg m none) o ((va_up ssg m none) o)) txh (va_up cog cs.length m) (by omega) (by omega) (by rw [← hkn]; exact tc_TW_first e2 yg ynd hn hnc g1m g2m t1 t2 ho hip (by rw [hf, h177])) (tc_co1 e3))
                ·
                  refine x_iconst (v := nI 1) C dM_twice_180 (by decide) ?_
                  refine x_goto C 185 dM_twice_181 (by decide) ?_
                  refine x_istore C [(5, .int (nI 1)), (4, .int (nI o)), (0, .ref (mm 0)), (1, .int (nI cs.length)), (2, .int (nI n)), (3, .int (nI m))] dM_twice_185 (by decide) rfl ?_
                  refine x_aload_n C dM_twice_187 rfl 2 rfl ?_
                  refine x_get C fgM_21 0 rfl rfl dM_twice_188 ?_
                  refine x_iload C dM_twice_191 1 rfl ?_
                  refine x_iload C dM_twice_193 0 rfl ?_
                  refine x_if_eq (tgt := 208) C dM_twice_195 (by decide) (fun h => absurd h (by decide)) (fun _ => ?_)
                  refine x_aload_n C dM_twice_198 rfl 2 rfl ?_
                  refine x_get C fgM_21 0 rfl rfl dM_twice_199 ?_
                  refine x_iload C dM_twice_202 1 rfl ?_
                  refine x_ild C 4 3 rfl rfl (by omega) (by decide) dM_twice_204 ?_
                  show xk_Go K D 6 0 0 (tc_wM mm cmm 0 (va_up iug m true) (va_up kig m (ki n)) (vp_updL mug m (mug n)) (va_up fsg m none) (va_up ssg m none) txh ((us + cs.length) + 1) te my mo mz mi iz ma mf mp odg arg lwg ids.length skg sag slg pp re rd (va_up cog cs.length m) dq bo lc) [(5, .int (nI 1)), (4, .int (nI o)), (0, .ref (mm 0)), (1, .int (nI cs.length)), (2, .int (nI n)), (3, .int (nI m))] 205 [.int (xk_oI ((va_up fsg m none) o)), .int (nI o), .ref (mm 4)]
                  refine x_goto C 209 dM_twice_205 (by decide) ?_
                  refine x_ist C 4 3 (tc_wM mm cmm 0 (va_up iug m true) (va_up kig m (ki n)) (vp_updL mug m (mug n)) (va_up (va_up fsg m none) o ((va_up fsg m none) o)) (va_up ssg m none) txh ((us + cs.length) + 1) te my mo mz mi iz ma mf mp odg arg lwg ids.length skg sag slg pp re rd (va_up cog cs.length m) dq bo lc) rfl rfl (xk_oA_up (va_up fsg m none) o ((va_up fsg m none) o)) rfl (by omega) (by decide) dM_twice_209 ?_
                  refine x_aload_n C dM_twice_210 rfl 2 rfl ?_
                  refine x_get C fgM_24 0 rfl rfl dM_twice_211 ?_
                  refine x_iload C dM_twice_214 1 rfl ?_
                  refine x_iload C dM_twice_216 0 rfl ?_
                  refine x_if_eq (tgt := 225) C dM_twice_218 (by decide) (fun h => absurd h (by decide)) (fun _ => ?_)
                  refine x_iload_n C dM_twice_221 rfl 5 rfl ?_
                  refine x_goto C 232 dM_twice_222 (by decide) ?_
                  refine x_ist C 5 4 (tc_wM mm cmm 0 (va_up iug m true) (va_up kig m (ki n)) (vp_updL mug m (mug n)) (va_up (va_up fsg m none) o ((va_up fsg m none) o)) (va_up (va_up ssg m none) o (some m)) txh ((us + cs.length) + 1) te my mo mz mi iz ma mf mp odg arg lwg ids.length skg sag slg pp re rd (va_up cog cs.length m) dq bo lc) rfl rfl (xk_oA_up (va_up ssg m none) o (some m)) rfl (by omega) (by decide) dM_twice_232 ?_
                  refine x_iinc (q := 3) C (nI (cs.length + 1)) [(1, .int (nI (cs.length + 1))), (5, .int (nI 1)), (4, .int (nI o)), (0, .ref (mm 0)), (2, .int (nI n)), (3, .int (nI m))] dM_twice_233 rfl (nI_add cs.length 1) (by decide) rfl ?_
                  refine x_goto C 48 dM_twice_236 (by decide) ?_
                  have hcl : (cs ++ [m]).length = cs.length + 1 := by simp
                  rw [Nat.add_assoc us, ← hcl]
                  exact x_sub [3, 0] rfl (ih48 (cs ++ [m]) (va_up iug m true) (va_up kig m (ki n)) (vp_updL mug m (mug n)) (va_up (va_up fsg m none) o ((va_up fsg m none) o)) (va_up (va_up ssg m none) o (some m)) txh (va_up cog cs.length m) (by omega) (by omega) (by rw [← hkn]; exact tc_TW_second e2 yg ynd hn hnc g1m g2m t1 t2 ho hip hkd (fun z => h177 (by rw [hf] at z; simpa using z))) (tc_co1 e3))
            refine x_iconst (v := nI 0) C dM_twice_87 (by decide) ?_
            refine x_istore C [(4, .int (nI 0)), (3, .int (nI m)), (2, .int (nI n)), (0, .ref (mm 0)), (1, .int (nI cs.length))] dM_twice_88 (by decide) rfl ?_
            have lp90 : ∀ (zc : Nat) (j : Nat) (txh : Nat → Nat), (64 - j) < zc → (j ≤ 64) → (∀ q, txh q = if 64 * m ≤ q ∧ q < 64 * m + j then txg (64 * n + (q - 64 * m)) else txg q) → xk_Go K D 6 0 0 (tc_wM mm cmm 0 (va_up iug m true) (va_up kig m (ki n)) (vp_updL mug m (mug n)) (va_up fsg m none) (va_up ssg m none) txh ((us + cs.length) + 1) te my mo mz mi iz ma mf mp odg arg lwg ids.length skg sag slg pp re rd (va_up cog cs.length m) dq bo lc) [(0, .ref (mm 0)), (1, .int (nI cs.length)), (2, .int (nI n)), (3, .int (nI m)), (4, .int (nI j))] 90 [] := by
              intro zc
              induction zc with
              | zero => intro j txh hm; exact absurd hm (Nat.not_lt_zero _)
              | succ zc ih90 =>
                intro j txh hm f1 f2
                refine x_iload C dM_twice_90 4 rfl ?_
                refine x_bipush (v := nI 64) C dM_twice_92 (by decide) ?_
                refine x_icmp_geN (tgt := 138) C (by omega) (by decide) dM_twice_94 (by decide) (fun h94 => ?_) (fun h94 => ?_)
                ·
                  exact x_sub [0, 1, 2, 3] rfl (jn138 txh (tc_cp2 f1 f2) (fun _ => tc_cp3 (by omega) f2))
                ·
                  refine x_aload_n C dM_twice_97 rfl 0 rfl ?_
                  refine x_get C fgM_13 0 rfl rfl dM_twice_98 ?_
                  refine x_iload_n C dM_twice_101 rfl 2 rfl ?_
                  refine x_ild C 2 1 rfl rfl (by omega) (by decide) dM_twice_102 ?_
                  show xk_Go K D 6 0 0 (tc_wM mm cmm 0 (va_up iug m true) (va_up kig m (ki n)) (vp_updL mug m (mug n)) (va_up fsg m none) (va_up ssg m none) txh ((us + cs.length) + 1) te my mo mz mi iz ma mf mp odg arg lwg ids.length skg sag slg pp re rd (va_up cog cs.length m) dq bo lc) [(0, .ref (mm 0)), (1, .int (nI cs.length)), (2, .int (nI n)), (3, .int (nI m)), (4, .int (nI j))] 103 [.int (nI ((va_up kig m (ki n)) n))]
                  rw [va_up_ne _ _ hnm, hkn]
                  refine x_bipush (v := nI 8) C dM_twice_103 (by decide) ?_
                  refine x_icmp_neN (tgt := 138) C (by omega) (by decide) dM_twice_105 (by decide) (fun h105 => ?_) (fun h105 => ?_)
                  ·
                    exact x_sub [0, 1, 2, 3] rfl (jn138 txh (tc_cp2 f1 f2) (fun z => absurd z h105))
                  ·
                    refine x_aload_n C dM_twice_108 rfl 0 rfl ?_
                    refine x_get C fgM_27 0 rfl rfl dM_twice_109 ?_
                    refine x_bipush (v := nI 64) C dM_twice_112 (by decide) ?_
                    refine x_iload_n C dM_twice_114 rfl 3 rfl ?_
                    refine x_imulN C dM_twice_115 ?_
                    refine x_iload C dM_twice_116 4 rfl ?_
                    refine x_iaddN C dM_twice_118 ?_
                    refine x_aload_n C dM_twice_119 rfl 0 rfl ?_
                    refine x_get C fgM_27 0 rfl rfl dM_twice_120 ?_
                    refine x_bipush (v := nI 64) C dM_twice_123 (by decide) ?_
                    refine x_iload_n C dM_twice_125 rfl 2 rfl ?_
                    refine x_imulN C dM_twice_126 ?_
                    refine x_iload C dM_twice_127 4 rfl ?_
                    refine x_iaddN C dM_twice_129 ?_
                    refine x_bld C 6 5 rfl rfl (by omega) (by decide) dM_twice_130 ?_
                    show xk_Go K D 6 0 0 (tc_wM mm cmm 0 (va_up iug m true) (va_up kig m (ki n)) (vp_updL mug m (mug n)) (va_up fsg m none) (va_up ssg m none) txh ((us + cs.length) + 1) te my mo mz mi iz ma mf mp odg arg lwg ids.length skg sag slg pp re rd (va_up cog cs.length m) dq bo lc) [(0, .ref (mm 0)), (1, .int (nI cs.length)), (2, .int (nI n)), (3, .int (nI m)), (4, .int (nI j))] 131 [.int (xk_sb (txh (64 * n + j))), .int (nI (64 * m + j)), .ref (mm 6)]
                    refine x_bst C 6 5 (tc_wM mm cmm 0 (va_up iug m true) (va_up kig m (ki n)) (vp_updL mug m (mug n)) (va_up fsg m none) (va_up ssg m none) (va_up txh (64 * m + j) (txh (64 * n + j))) ((us + cs.length) + 1) te my mo mz mi iz ma mf mp odg arg lwg ids.length skg sag slg pp re rd (va_up cog cs.length m) dq bo lc) rfl rfl ((congrArg _ (xk_sb_nar (txh (64 * n + j)))).trans (xk_bA_up txh (64 * m + j) (txh (64 * n + j)))) rfl (by omega) (by decide) dM_twice_131 ?_
                    refine x_iinc (q := 4) C (nI (j + 1)) [(4, .int (nI (j + 1))), (0, .ref (mm 0)), (1, .int (nI cs.length)), (2, .int (nI n)), (3, .int (nI m))] dM_twice_132 rfl (nI_add j 1) (by decide) rfl ?_
                    refine x_goto C 90 dM_twice_135 (by decide) ?_
                    exact x_sub [1, 2, 3, 4, 0] rfl (ih90 (j + 1) (va_up txh (64 * m + j) (txh (64 * n + j))) (by omega) (by omega) (tc_cp1 hnm (by omega) f2))
            exact x_sub [3, 4, 2, 1, 0] rfl (lp90 _ 0 txg (Nat.lt_succ_self _) (Nat.zero_le _) (fun q => by rw [if_neg (by omega)]))
      exact x_sub [1, 0] rfl (lp48 _ ([]) iu ki mu fs ss tx co (Nat.lt_succ_self _) (Nat.zero_le _) (tc_TW_0 _ _) (fun j c hj => by simp at hj))
    ·
      refine x_iconst (v := nI 0) C dM_twice_44 (by decide) ?_
      exact x_iret C T .boolean rfl rfl dM_twice_45 (Or.inl (⟨_, _, _, _, _, _, _, rfl, rfl, (if_neg (by rw [← yc, List.length_map]; omega))⟩))
  ·
    refine x_iconst (v := nI 0) C dM_twice_12 (by decide) ?_
    exact x_iret C T .boolean rfl rfl dM_twice_13 (Or.inl (⟨_, _, _, _, _, _, _, rfl, rfl, (by rw [tc_RM_nil y1 h9]; rfl)⟩))
