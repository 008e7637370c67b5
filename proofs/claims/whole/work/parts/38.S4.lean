set_option maxHeartbeats 4000000 in
set_option maxRecDepth 100000 in
/-- put -/
theorem c_S_put (D : va_G) (a : Nat → Nat) (ca : Nat → ClassId) (kn : Nat → Nat) (nu : Nat → Int64) (wo : Nat → Int64) (si : Nat → Nat) (de : Nat → Nat) (la : Nat → Nat) (le : Nat → Nat) (ro : Nat → Nat) (tm : Nat) (nd : Nat) (kd : Nat) (x : Int64) (Ts : List (List tc_Nd)) (y1 : tc_RS Ts (kn, nu, wo, si, de, la, le) ro tm nd) (y2 : kd = 0 ∨ kd = 1 ∨ kd = 2 ∨ kd = 3 ∨ kd = 4 ∨ kd = 5 ∨ kd = 6 ∨ kd = 7 ∨ kd = 8 ∨ kd = 9 ∨ kd = 10 ∨ kd = 11) (y3 : tc_fitP kd x) (y4 : kd = 8 → x = 0) : xk_Ct yS_put cS_put 7 (some .boolean) { frames := 3, cells := 0, slots := 0, locals := 123 } D (tc_tS ca) [.ref (a 0), .int (nI kd), .long x] (tc_wS a ca kn nu wo si de la le ro tm nd) (fun rv ru => (rv = some (.int (nI 0)) ∧ ru = tc_wS a ca kn nu wo si de la le ro tm nd ∧ (tc_put (kd, x, []) Ts = none)) ∨ (∃ (kg : Nat → Nat), ∃ (ug : Nat → Int64), ∃ (wg : Nat → Int64), ∃ (sg : Nat → Nat), ∃ (dg : Nat → Nat), ∃ (lg : Nat → Nat), ∃ (eg : Nat → Nat), ∃ (rg : Nat → Nat), ∃ (tg : Nat), ∃ (ng : Nat), ∃ (Tn : List (List tc_Nd)), rv = some (.int (nI 1)) ∧ ru = tc_wS a ca kg ug wg sg dg lg eg rg tg ng ∧ (tc_put (kd, x, []) Ts = some Tn) ∧ (tc_RS Tn (kg, ug, wg, sg, dg, lg, eg) rg tg ng))) := by
  refine xk_enter (by decide) (Nat.le_of_ble_eq_true rfl) (fun K C T hin => ?_)
  have yk : kd ≤ 11 := by omega
  have hx := tc_okn_of yk y3 y4
  obtain ⟨ytm, ytn⟩ := tc_RS_tm y1
  have ynd := y1.2.2.2.1
  show xk_Go K D 7 0 0 (tc_wS a ca kn nu wo si de la le ro tm nd) [(0, .ref (a 0)), (1, .int (nI kd)), (2, .long x)] 0 []
  refine x_iload_n C dS_put_0 rfl 1 rfl ?_
  refine x_callS C (c_F_partsOf D kd (by omega)) kbS_69 kcS_69 [] [0, 1, 2, 3, 4, 5, 6, 7, 8] [] (tc_wS a ca kn nu wo si de la le ro tm nd) rfl rfl (by decide) (by decide) (by decide) rfl ⟨Nat.le_of_ble_eq_true rfl, Nat.le_of_ble_eq_true rfl⟩ ⟨Nat.le_of_ble_eq_true rfl, Nat.le_of_ble_eq_true rfl⟩ [] rfl rfl (Nat.le_of_ble_eq_true rfl) dS_put_1 (fun rv ru hw => ?_)
  obtain ⟨rfl, rfl⟩ := hw
  show xk_Go K D 7 0 0 (tc_wS a ca kn nu wo si de la le ro tm nd) [(0, .ref (a 0)), (1, .int (nI kd)), (2, .long x)] 4 [.int (nI (tc_tk kd))]
  rcases tc_tk3 kd with hk | hk | hk
  ·
    rw [hk]
    refine x_istore C [(4, .int (nI 0)), (0, .ref (a 0)), (1, .int (nI kd)), (2, .long x)] dS_put_4 (by decide) rfl ?_
    refine x_aload_n C dS_put_6 rfl 1 rfl ?_
    refine x_get C fgS_37 0 rfl rfl dS_put_7 ?_
    refine x_iload C dS_put_10 0 rfl ?_
    refine x_icmp_ltN (tgt := 25) C (by omega) (by decide) dS_put_12 (by decide) (fun h12 => ?_) (fun h12 => ?_)
    ·
      refine x_iconst (v := nI 0) C dS_put_25 (by decide) ?_
      exact x_iret C T .boolean rfl rfl dS_put_26 (Or.inl (⟨rfl, rfl, (tc_put_none hk (by first | exact Or.inl (by have := y1.2.1; omega) | exact Or.inr (by have := y1.2.2.1; omega)))⟩))
    ·
      refine x_aload_n C dS_put_15 rfl 1 rfl ?_
      refine x_get C fgS_41 0 rfl rfl dS_put_16 ?_
      refine x_sipush (v := nI 200) C dS_put_19 (by decide) ?_
      refine x_icmp_ltN (tgt := 27) C (by omega) (by decide) dS_put_22 (by decide) (fun h22 => ?_) (fun h22 => ?_)
      ·
        refine x_aload_n C dS_put_27 rfl 1 rfl ?_
        refine x_get C fgS_37 0 rfl rfl dS_put_28 ?_
        refine x_iload C dS_put_31 0 rfl ?_
        refine x_isubN C (by omega) dS_put_33 ?_
        refine x_istore C [(5, .int (nI (tm - 0))), (4, .int (nI 0)), (0, .ref (a 0)), (1, .int (nI kd)), (2, .long x)] dS_put_34 (by decide) rfl ?_
        refine x_iload C dS_put_36 0 rfl ?_
        refine x_aload_n C dS_put_38 rfl 2 rfl ?_
        refine x_get C fgS_37 0 rfl rfl dS_put_39 ?_
        refine x_icmp_geN (tgt := 78) C (by omega) (by omega) dS_put_42 (by decide) (fun h42 => ?_) (fun h42 => ?_)
        ·
          refine x_iload C dS_put_78 1 rfl ?_
          refine x_if_ne (tgt := 90) C dS_put_80 (by decide) (fun h => absurd (by decide) h) (fun _ => ?_)
          refine x_aload_n C dS_put_83 rfl 2 rfl ?_
          refine x_get C fgS_41 0 rfl rfl dS_put_84 ?_
          refine x_goto C 101 dS_put_87 (by decide) ?_
          refine x_istore C [(5, .int (nI nd)), (4, .int (nI 0)), (0, .ref (a 0)), (1, .int (nI kd)), (2, .long x)] dS_put_101 (by decide) rfl ?_
          refine x_aload_n C dS_put_103 rfl 2 rfl ?_
          refine x_iload C dS_put_104 0 rfl ?_
          refine x_iload C dS_put_106 0 rfl ?_
          refine x_iconst (v := nI 1) C dS_put_108 (by decide) ?_
          refine x_iaddN C dS_put_109 ?_
          refine x_aload_n C dS_put_110 rfl 2 rfl ?_
          refine x_get C fgS_41 0 rfl rfl dS_put_111 ?_
          refine x_iload C dS_put_114 0 rfl ?_
          refine x_isubN C (by omega) dS_put_116 ?_
          refine x_callV C (c_S_copyNodes D a ca kn nu wo si de la le ro tm nd nd (nd + 1) (nd - nd) (by omega) (by omega)) kbS_72 kcS_72 [0, 1, 2, 3, 4, 5, 6, 7, 8] [] [0, 1, 2, 3, 4, 5, 6, 7] ([]) rfl rfl (by decide) (by decide) (by decide) rfl 0 rfl rfl ⟨Nat.le_of_ble_eq_true rfl, Nat.le_of_ble_eq_true rfl⟩ ⟨Nat.le_of_ble_eq_true rfl, Nat.le_of_ble_eq_true rfl⟩ [] rfl rfl (Nat.le_of_ble_eq_true rfl) dS_put_117 (fun rv ru hw => ?_)
          obtain ⟨rfl, rfl⟩ := hw
          show xk_Go K D 7 0 0 (tc_wS a ca (va_cpy kn kn nd (nd + 1) (nd - nd)) (va_cpy nu nu nd (nd + 1) (nd - nd)) (va_cpy wo wo (nd * 8) ((nd + 1) * 8) ((nd - nd) * 8)) (va_cpy si si nd (nd + 1) (nd - nd)) (va_cpy de de nd (nd + 1) (nd - nd)) (va_cpy la la nd (nd + 1) (nd - nd)) (va_cpy le le nd (nd + 1) (nd - nd)) ro tm nd) [(5, .int (nI nd)), (4, .int (nI 0)), (0, .ref (a 0)), (1, .int (nI kd)), (2, .long x)] 120 []
          refine x_aload_n C dS_put_120 rfl 2 rfl ?_
          refine x_iload C dS_put_121 0 rfl ?_
          refine x_iload_n C dS_put_123 rfl 3 rfl ?_
          refine x_lload_n C dS_put_124 rfl 4 rfl ?_
          refine x_callV C (c_S_setNode D a ca (va_cpy kn kn nd (nd + 1) (nd - nd)) (va_cpy nu nu nd (nd + 1) (nd - nd)) (va_cpy wo wo (nd * 8) ((nd + 1) * 8) ((nd - nd) * 8)) (va_cpy si si nd (nd + 1) (nd - nd)) (va_cpy de de nd (nd + 1) (nd - nd)) (va_cpy la la nd (nd + 1) (nd - nd)) (va_cpy le le nd (nd + 1) (nd - nd)) ro tm nd nd kd x (by omega)) kbS_76 kcS_76 [0, 1, 2, 3, 4, 5, 6, 7, 8] [] [0, 1, 2, 3, 4, 5, 6, 7] ([]) rfl rfl (by decide) (by decide) (by decide) rfl 0 rfl rfl ⟨Nat.le_of_ble_eq_true rfl, Nat.le_of_ble_eq_true rfl⟩ ⟨Nat.le_of_ble_eq_true rfl, Nat.le_of_ble_eq_true rfl⟩ [] rfl rfl (Nat.le_of_ble_eq_true rfl) dS_put_125 (fun rv ru hw => ?_)
          obtain ⟨rfl, rfl⟩ := hw
          show xk_Go K D 7 0 0 (tc_wS a ca (va_up (va_cpy kn kn nd (nd + 1) (nd - nd)) nd kd) (vp_updL (va_cpy nu nu nd (nd + 1) (nd - nd)) nd x) (va_cpy wo wo (nd * 8) ((nd + 1) * 8) ((nd - nd) * 8)) (va_cpy si si nd (nd + 1) (nd - nd)) (va_cpy de de nd (nd + 1) (nd - nd)) (va_cpy la la nd (nd + 1) (nd - nd)) (va_cpy le le nd (nd + 1) (nd - nd)) ro tm nd) [(5, .int (nI nd)), (4, .int (nI 0)), (0, .ref (a 0)), (1, .int (nI kd)), (2, .long x)] 128 []
          refine x_aload_n C dS_put_128 rfl 2 rfl ?_
          refine x_iload C dS_put_129 0 rfl ?_
          refine x_callV C (c_S_settle D a ca (va_up (va_cpy kn kn nd (nd + 1) (nd - nd)) nd kd) (vp_updL (va_cpy nu nu nd (nd + 1) (nd - nd)) nd x) (va_cpy wo wo (nd * 8) ((nd + 1) * 8) ((nd - nd) * 8)) (va_cpy si si nd (nd + 1) (nd - nd)) (va_cpy de de nd (nd + 1) (nd - nd)) (va_cpy la la nd (nd + 1) (nd - nd)) (va_cpy le le nd (nd + 1) (nd - nd)) ro tm nd nd x.toInt.toNat (by omega) (by simp only [va_up_self]; exact y2) (by simp only [va_up_self, pk_uLs]; exact tc_num_v y3 y4) (by simp only [va_up_self]; exact tc_put_ch (P := ([] : List tc_Nd)) (by simp) (show tc_AR (kn, nu, wo, si, de, la, le) nd [] from trivial) (by rw [hk]; rfl) (fun y hy => absurd hy List.not_mem_nil) (by omega))) kbS_80 kcS_80 [0, 1, 2, 3, 4, 5, 6, 7, 8] [] [0, 1, 2, 3, 4, 5, 6, 7] ([]) rfl rfl (by decide) (by decide) (by decide) rfl 0 rfl rfl ⟨Nat.le_of_ble_eq_true rfl, Nat.le_of_ble_eq_true rfl⟩ ⟨Nat.le_of_ble_eq_true rfl, Nat.le_of_ble_eq_true rfl⟩ [] rfl rfl (Nat.le_of_ble_eq_true rfl) dS_put_131 (fun rv ru hw => ?_)
          obtain ⟨s, dd, l, e, rfl, rfl, g1, g2, g3, g4⟩ := hw
          show xk_Go K D 7 0 0 (tc_wS a ca (va_up (va_cpy kn kn nd (nd + 1) (nd - nd)) nd kd) (vp_updL (va_cpy nu nu nd (nd + 1) (nd - nd)) nd x) (va_cpy wo wo (nd * 8) ((nd + 1) * 8) ((nd - nd) * 8)) (va_up (va_cpy si si nd (nd + 1) (nd - nd)) nd s) (va_up (va_cpy de de nd (nd + 1) (nd - nd)) nd dd) (va_up (va_cpy la la nd (nd + 1) (nd - nd)) nd l) (va_up (va_cpy le le nd (nd + 1) (nd - nd)) nd e) ro tm nd) [(5, .int (nI nd)), (4, .int (nI 0)), (0, .ref (a 0)), (1, .int (nI kd)), (2, .long x)] 134 []
          simp only [va_up_self, pk_uLs] at g1 g2 g3 g4
          refine x_aload_n C dS_put_134 rfl 2 rfl ?_
          refine x_dup C dS_put_135 rfl ?_
          refine x_get C fgS_41 0 rfl rfl dS_put_136 ?_
          refine x_iconst (v := nI 1) C dS_put_139 (by decide) ?_
          refine x_iaddN C dS_put_140 ?_
          refine x_put C fpS_41 0 (tc_wS a ca (va_up (va_cpy kn kn nd (nd + 1) (nd - nd)) nd kd) (vp_updL (va_cpy nu nu nd (nd + 1) (nd - nd)) nd x) (va_cpy wo wo (nd * 8) ((nd + 1) * 8) ((nd - nd) * 8)) (va_up (va_cpy si si nd (nd + 1) (nd - nd)) nd s) (va_up (va_cpy de de nd (nd + 1) (nd - nd)) nd dd) (va_up (va_cpy la la nd (nd + 1) (nd - nd)) nd l) (va_up (va_cpy le le nd (nd + 1) (nd - nd)) nd e) ro tm (nd + 1)) rfl rfl rfl rfl (Nat.le_of_ble_eq_true rfl) dS_put_141 ?_
          refine x_aload_n C dS_put_144 rfl 2 rfl ?_
          refine x_dup C dS_put_145 rfl ?_
          refine x_get C fgS_37 0 rfl rfl dS_put_146 ?_
          refine x_iload C dS_put_149 1 rfl ?_
          refine x_isubN C (by omega) dS_put_151 ?_
          refine x_put C fpS_37 0 (tc_wS a ca (va_up (va_cpy kn kn nd (nd + 1) (nd - nd)) nd kd) (vp_updL (va_cpy nu nu nd (nd + 1) (nd - nd)) nd x) (va_cpy wo wo (nd * 8) ((nd + 1) * 8) ((nd - nd) * 8)) (va_up (va_cpy si si nd (nd + 1) (nd - nd)) nd s) (va_up (va_cpy de de nd (nd + 1) (nd - nd)) nd dd) (va_up (va_cpy la la nd (nd + 1) (nd - nd)) nd l) (va_up (va_cpy le le nd (nd + 1) (nd - nd)) nd e) ro (tm - 0) (nd + 1)) rfl rfl rfl rfl (Nat.le_of_ble_eq_true rfl) dS_put_152 ?_
          refine x_aload_n C dS_put_155 rfl 2 rfl ?_
          refine x_iload C dS_put_156 0 rfl ?_
          refine x_callV C (c_S_pushTerm D a ca (va_up (va_cpy kn kn nd (nd + 1) (nd - nd)) nd kd) (vp_updL (va_cpy nu nu nd (nd + 1) (nd - nd)) nd x) (va_cpy wo wo (nd * 8) ((nd + 1) * 8) ((nd - nd) * 8)) (va_up (va_cpy si si nd (nd + 1) (nd - nd)) nd s) (va_up (va_cpy de de nd (nd + 1) (nd - nd)) nd dd) (va_up (va_cpy la la nd (nd + 1) (nd - nd)) nd l) (va_up (va_cpy le le nd (nd + 1) (nd - nd)) nd e) ro (tm - 0) (nd + 1) nd (by omega)) kbS_84 kcS_84 [0, 1, 2, 3, 4, 5, 6, 7, 8] [] [0, 1, 2, 3, 4, 5, 6, 7] ([]) rfl rfl (by decide) (by decide) (by decide) rfl 0 rfl rfl ⟨Nat.le_of_ble_eq_true rfl, Nat.le_of_ble_eq_true rfl⟩ ⟨Nat.le_of_ble_eq_true rfl, Nat.le_of_ble_eq_true rfl⟩ [] rfl rfl (Nat.le_of_ble_eq_true rfl) dS_put_158 (fun rv ru hw => ?_)
          obtain ⟨rfl, rfl⟩ := hw
          show xk_Go K D 7 0 0 (tc_wS a ca (va_up (va_cpy kn kn nd (nd + 1) (nd - nd)) nd kd) (vp_updL (va_cpy nu nu nd (nd + 1) (nd - nd)) nd x) (va_cpy wo wo (nd * 8) ((nd + 1) * 8) ((nd - nd) * 8)) (va_up (va_cpy si si nd (nd + 1) (nd - nd)) nd s) (va_up (va_cpy de de nd (nd + 1) (nd - nd)) nd dd) (va_up (va_cpy la la nd (nd + 1) (nd - nd)) nd l) (va_up (va_cpy le le nd (nd + 1) (nd - nd)) nd e) (va_up ro (tm - 0) nd) ((tm - 0) + 1) (nd + 1)) [(5, .int (nI nd)), (4, .int (nI 0)), (0, .ref (a 0)), (1, .int (nI kd)), (2, .long x)] 161 []
          refine x_iconst (v := nI 1) C dS_put_161 (by decide) ?_
          have ytl := y1.2.1
          exact x_iret C T .boolean rfl rfl dS_put_162 (Or.inr (⟨_, _, _, _, _, _, _, _, _, _, ([(kd, x, [])] :: Ts), rfl, rfl, (tc_put_0 hk (by have := y1.2.2.1; omega)), (tc_put_RSx y1.2.2.1 (by simp) y1.1 y1.2.2.2.2.1 y1.2.2.2.2.2 (show tc_AR (kn, nu, wo, si, de, la, le) nd [] from trivial) (by rw [hk]; rfl) (fun y hy => absurd hy List.not_mem_nil) hx (by rw [tc_dp0 hk]; decide) (by omega) g1 g2 g3 g4 (by omega) (by omega) (by omega))⟩))
        ·
          exact absurd h42 (by omega)
      ·
        refine x_iconst (v := nI 0) C dS_put_25 (by decide) ?_
        exact x_iret C T .boolean rfl rfl dS_put_26 (Or.inl (⟨rfl, rfl, (tc_put_none hk (by first | exact Or.inl (by have := y1.2.1; omega) | exact Or.inr (by have := y1.2.2.1; omega)))⟩))
  ·
    rw [hk]
    refine x_istore C [(4, .int (nI 1)), (0, .ref (a 0)), (1, .int (nI kd)), (2, .long x)] dS_put_4 (by decide) rfl ?_
    refine x_aload_n C dS_put_6 rfl 1 rfl ?_
    refine x_get C fgS_37 0 rfl rfl dS_put_7 ?_
    refine x_iload C dS_put_10 0 rfl ?_
    refine x_icmp_ltN (tgt := 25) C (by omega) (by decide) dS_put_12 (by decide) (fun h12 => ?_) (fun h12 => ?_)
    ·
      refine x_iconst (v := nI 0) C dS_put_25 (by decide) ?_
      exact x_iret C T .boolean rfl rfl dS_put_26 (Or.inl (⟨rfl, rfl, (tc_put_none hk (by first | exact Or.inl (by have := y1.2.1; omega) | exact Or.inr (by have := y1.2.2.1; omega)))⟩))
    ·
      refine x_aload_n C dS_put_15 rfl 1 rfl ?_
      refine x_get C fgS_41 0 rfl rfl dS_put_16 ?_
      refine x_sipush (v := nI 200) C dS_put_19 (by decide) ?_
      refine x_icmp_ltN (tgt := 27) C (by omega) (by decide) dS_put_22 (by decide) (fun h22 => ?_) (fun h22 => ?_)
      ·
        obtain ⟨t, R, rfl⟩ := tc_RS_cons y1 (by omega)
        obtain ⟨z1, z2, z3, z4, z5, z6, z7, z8, z9, z10, z11, z12⟩ := tc_top y1
        have zt := y1.1 t List.mem_cons_self
        have zt60 := zt.2.1
        have zd : de (ro (tm - 1)) = tc_dp t := by rw [z2]; exact z10
        refine x_aload_n C dS_put_27 rfl 1 rfl ?_
        refine x_get C fgS_37 0 rfl rfl dS_put_28 ?_
        refine x_iload C dS_put_31 0 rfl ?_
        refine x_isubN C (by omega) dS_put_33 ?_
        refine x_istore C [(5, .int (nI (tm - 1))), (4, .int (nI 1)), (0, .ref (a 0)), (1, .int (nI kd)), (2, .long x)] dS_put_34 (by decide) rfl ?_
        refine x_iload C dS_put_36 0 rfl ?_
        refine x_aload_n C dS_put_38 rfl 2 rfl ?_
        refine x_get C fgS_37 0 rfl rfl dS_put_39 ?_
        refine x_icmp_geN (tgt := 78) C (by omega) (by omega) dS_put_42 (by decide) (fun h42 => ?_) (fun h42 => ?_)
        ·
          exact absurd h42 (by omega)
        ·
          refine x_aload_n C dS_put_45 rfl 2 rfl ?_
          refine x_iload C dS_put_46 0 rfl ?_
          refine x_callV C (c_S_rootOf D a ca kn nu wo si de la le ro tm nd (some (tm - 1)) (by omega) (fun q hq => by obtain rfl := Option.some.inj hq; exact ⟨by omega, by omega⟩)) kbS_48 kcS_48 [0, 1, 2, 3, 4, 5, 6, 7, 8] [] [0, 1, 2, 3, 4, 5, 6, 7] ([]) rfl rfl (by decide) (by decide) (by decide) rfl 0 rfl rfl ⟨Nat.le_of_ble_eq_true rfl, Nat.le_of_ble_eq_true rfl⟩ ⟨Nat.le_of_ble_eq_true rfl, Nat.le_of_ble_eq_true rfl⟩ [] rfl rfl (Nat.le_of_ble_eq_true rfl) dS_put_48 (fun rv ru hw => ?_)
          obtain ⟨rfl, rfl⟩ := hw
          show xk_Go K D 7 0 0 (tc_wS a ca kn nu wo si de la le ro tm nd) [(5, .int (nI (tm - 1))), (4, .int (nI 1)), (0, .ref (a 0)), (1, .int (nI kd)), (2, .long x)] 51 [.int (xk_oI ((some (tm - 1)).map ro))]
          show xk_Go K D 7 0 0 (tc_wS a ca kn nu wo si de la le ro tm nd) [(5, .int (nI (tm - 1))), (4, .int (nI 1)), (0, .ref (a 0)), (1, .int (nI kd)), (2, .long x)] 51 [.int (nI (ro (tm - 1)))]
          refine x_istore C [(6, .int (nI (ro (tm - 1)))), (5, .int (nI (tm - 1))), (4, .int (nI 1)), (0, .ref (a 0)), (1, .int (nI kd)), (2, .long x)] dS_put_51 (by decide) rfl ?_
          refine x_iload C dS_put_53 0 rfl ?_
          refine x_if_ltN (tgt := 70) C (by omega) dS_put_55 (by decide) ?_
          refine x_aload_n C dS_put_58 rfl 3 rfl ?_
          refine x_get C fgS_25 0 rfl rfl dS_put_59 ?_
          refine x_iload C dS_put_62 0 rfl ?_
          refine x_ild C 5 4 rfl rfl (by omega) (by decide) dS_put_64 ?_
          show xk_Go K D 7 0 0 (tc_wS a ca kn nu wo si de la le ro tm nd) [(6, .int (nI (ro (tm - 1)))), (5, .int (nI (tm - 1))), (4, .int (nI 1)), (0, .ref (a 0)), (1, .int (nI kd)), (2, .long x)] 65 [.int (nI (de (ro (tm - 1))))]
          refine x_bipush (v := nI 60) C dS_put_65 (by decide) ?_
          refine x_icmp_ltN (tgt := 72) C (by omega) (by decide) dS_put_67 (by decide) (fun h67 => ?_) (fun h67 => ?_)
          ·
            refine x_iinc (q := 1) C (nI (tm - 1 + 1)) [(5, .int (nI (tm - 1 + 1))), (6, .int (nI (ro (tm - 1)))), (4, .int (nI 1)), (0, .ref (a 0)), (1, .int (nI kd)), (2, .long x)] dS_put_72 rfl (nI_add (tm - 1) 1) (by decide) rfl ?_
            refine x_goto C 36 dS_put_75 (by decide) ?_
            refine x_iload C dS_put_36 0 rfl ?_
            refine x_aload_n C dS_put_38 rfl 3 rfl ?_
            refine x_get C fgS_37 0 rfl rfl dS_put_39 ?_
            refine x_icmp_geN (tgt := 78) C (by omega) (by omega) dS_put_42 (by decide) (fun h42 => ?_) (fun h42 => ?_)
            ·
              refine x_iload C dS_put_78 2 rfl ?_
              refine x_if_ne (tgt := 90) C dS_put_80 (by decide) (fun _ => ?_) (fun h => absurd h (by decide))
              refine x_aload_n C dS_put_90 rfl 3 rfl ?_
              refine x_aload_n C dS_put_91 rfl 3 rfl ?_
              refine x_get C fgS_37 0 rfl rfl dS_put_92 ?_
              refine x_iload C dS_put_95 2 rfl ?_
              refine x_isubN C (by omega) dS_put_97 ?_
              refine x_callV C (c_S_rootOf D a ca kn nu wo si de la le ro tm nd (some (tm - 1)) (by omega) (fun q hq => by obtain rfl := Option.some.inj hq; exact ⟨by omega, by omega⟩)) kbS_48 kcS_48 [0, 1, 2, 3, 4, 5, 6, 7, 8] [] [0, 1, 2, 3, 4, 5, 6, 7] ([]) rfl rfl (by decide) (by decide) (by decide) rfl 0 rfl rfl ⟨Nat.le_of_ble_eq_true rfl, Nat.le_of_ble_eq_true rfl⟩ ⟨Nat.le_of_ble_eq_true rfl, Nat.le_of_ble_eq_true rfl⟩ [] rfl rfl (Nat.le_of_ble_eq_true rfl) dS_put_98 (fun rv ru hw => ?_)
              obtain ⟨rfl, rfl⟩ := hw
              show xk_Go K D 7 0 0 (tc_wS a ca kn nu wo si de la le ro tm nd) [(5, .int (nI (tm - 1 + 1))), (6, .int (nI (ro (tm - 1)))), (4, .int (nI 1)), (0, .ref (a 0)), (1, .int (nI kd)), (2, .long x)] 101 [.int (xk_oI ((some (tm - 1)).map ro))]
              show xk_Go K D 7 0 0 (tc_wS a ca kn nu wo si de la le ro tm nd) [(5, .int (nI (tm - 1 + 1))), (6, .int (nI (ro (tm - 1)))), (4, .int (nI 1)), (0, .ref (a 0)), (1, .int (nI kd)), (2, .long x)] 101 [.int (nI (ro (tm - 1)))]
              refine x_istore C [(5, .int (nI (ro (tm - 1)))), (6, .int (nI (ro (tm - 1)))), (4, .int (nI 1)), (0, .ref (a 0)), (1, .int (nI kd)), (2, .long x)] dS_put_101 (by decide) rfl ?_
              refine x_aload_n C dS_put_103 rfl 3 rfl ?_
              refine x_iload C dS_put_104 0 rfl ?_
              refine x_iload C dS_put_106 0 rfl ?_
              refine x_iconst (v := nI 1) C dS_put_108 (by decide) ?_
              refine x_iaddN C dS_put_109 ?_
              refine x_aload_n C dS_put_110 rfl 3 rfl ?_
              refine x_get C fgS_41 0 rfl rfl dS_put_111 ?_
              refine x_iload C dS_put_114 0 rfl ?_
              refine x_isubN C (by omega) dS_put_116 ?_
              refine x_callV C (c_S_copyNodes D a ca kn nu wo si de la le ro tm nd (ro (tm - 1)) (ro (tm - 1) + 1) (nd - (ro (tm - 1))) (by omega) (by omega)) kbS_72 kcS_72 [0, 1, 2, 3, 4, 5, 6, 7, 8] [] [0, 1, 2, 3, 4, 5, 6, 7] ([]) rfl rfl (by decide) (by decide) (by decide) rfl 0 rfl rfl ⟨Nat.le_of_ble_eq_true rfl, Nat.le_of_ble_eq_true rfl⟩ ⟨Nat.le_of_ble_eq_true rfl, Nat.le_of_ble_eq_true rfl⟩ [] rfl rfl (Nat.le_of_ble_eq_true rfl) dS_put_117 (fun rv ru hw => ?_)
              obtain ⟨rfl, rfl⟩ := hw
              show xk_Go K D 7 0 0 (tc_wS a ca (va_cpy kn kn (ro (tm - 1)) (ro (tm - 1) + 1) (nd - (ro (tm - 1)))) (va_cpy nu nu (ro (tm - 1)) (ro (tm - 1) + 1) (nd - (ro (tm - 1)))) (va_cpy wo wo ((ro (tm - 1)) * 8) ((ro (tm - 1) + 1) * 8) ((nd - (ro (tm - 1))) * 8)) (va_cpy si si (ro (tm - 1)) (ro (tm - 1) + 1) (nd - (ro (tm - 1)))) (va_cpy de de (ro (tm - 1)) (ro (tm - 1) + 1) (nd - (ro (tm - 1)))) (va_cpy la la (ro (tm - 1)) (ro (tm - 1) + 1) (nd - (ro (tm - 1)))) (va_cpy le le (ro (tm - 1)) (ro (tm - 1) + 1) (nd - (ro (tm - 1)))) ro tm nd) [(5, .int (nI (ro (tm - 1)))), (6, .int (nI (ro (tm - 1)))), (4, .int (nI 1)), (0, .ref (a 0)), (1, .int (nI kd)), (2, .long x)] 120 []
              refine x_aload_n C dS_put_120 rfl 3 rfl ?_
              refine x_iload C dS_put_121 0 rfl ?_
              refine x_iload_n C dS_put_123 rfl 4 rfl ?_
              refine x_lload_n C dS_put_124 rfl 5 rfl ?_
              refine x_callV C (c_S_setNode D a ca (va_cpy kn kn (ro (tm - 1)) (ro (tm - 1) + 1) (nd - (ro (tm - 1)))) (va_cpy nu nu (ro (tm - 1)) (ro (tm - 1) + 1) (nd - (ro (tm - 1)))) (va_cpy wo wo ((ro (tm - 1)) * 8) ((ro (tm - 1) + 1) * 8) ((nd - (ro (tm - 1))) * 8)) (va_cpy si si (ro (tm - 1)) (ro (tm - 1) + 1) (nd - (ro (tm - 1)))) (va_cpy de de (ro (tm - 1)) (ro (tm - 1) + 1) (nd - (ro (tm - 1)))) (va_cpy la la (ro (tm - 1)) (ro (tm - 1) + 1) (nd - (ro (tm - 1)))) (va_cpy le le (ro (tm - 1)) (ro (tm - 1) + 1) (nd - (ro (tm - 1)))) ro tm nd (ro (tm - 1)) kd x (by omega)) kbS_76 kcS_76 [0, 1, 2, 3, 4, 5, 6, 7, 8] [] [0, 1, 2, 3, 4, 5, 6, 7] ([]) rfl rfl (by decide) (by decide) (by decide) rfl 0 rfl rfl ⟨Nat.le_of_ble_eq_true rfl, Nat.le_of_ble_eq_true rfl⟩ ⟨Nat.le_of_ble_eq_true rfl, Nat.le_of_ble_eq_true rfl⟩ [] rfl rfl (Nat.le_of_ble_eq_true rfl) dS_put_125 (fun rv ru hw => ?_)
              obtain ⟨rfl, rfl⟩ := hw
              show xk_Go K D 7 0 0 (tc_wS a ca (va_up (va_cpy kn kn (ro (tm - 1)) (ro (tm - 1) + 1) (nd - (ro (tm - 1)))) (ro (tm - 1)) kd) (vp_updL (va_cpy nu nu (ro (tm - 1)) (ro (tm - 1) + 1) (nd - (ro (tm - 1)))) (ro (tm - 1)) x) (va_cpy wo wo ((ro (tm - 1)) * 8) ((ro (tm - 1) + 1) * 8) ((nd - (ro (tm - 1))) * 8)) (va_cpy si si (ro (tm - 1)) (ro (tm - 1) + 1) (nd - (ro (tm - 1)))) (va_cpy de de (ro (tm - 1)) (ro (tm - 1) + 1) (nd - (ro (tm - 1)))) (va_cpy la la (ro (tm - 1)) (ro (tm - 1) + 1) (nd - (ro (tm - 1)))) (va_cpy le le (ro (tm - 1)) (ro (tm - 1) + 1) (nd - (ro (tm - 1)))) ro tm nd) [(5, .int (nI (ro (tm - 1)))), (6, .int (nI (ro (tm - 1)))), (4, .int (nI 1)), (0, .ref (a 0)), (1, .int (nI kd)), (2, .long x)] 128 []
              refine x_aload_n C dS_put_128 rfl 3 rfl ?_
              refine x_iload C dS_put_129 0 rfl ?_
              refine x_callV C (c_S_settle D a ca (va_up (va_cpy kn kn (ro (tm - 1)) (ro (tm - 1) + 1) (nd - (ro (tm - 1)))) (ro (tm - 1)) kd) (vp_updL (va_cpy nu nu (ro (tm - 1)) (ro (tm - 1) + 1) (nd - (ro (tm - 1)))) (ro (tm - 1)) x) (va_cpy wo wo ((ro (tm - 1)) * 8) ((ro (tm - 1) + 1) * 8) ((nd - (ro (tm - 1))) * 8)) (va_cpy si si (ro (tm - 1)) (ro (tm - 1) + 1) (nd - (ro (tm - 1)))) (va_cpy de de (ro (tm - 1)) (ro (tm - 1) + 1) (nd - (ro (tm - 1)))) (va_cpy la la (ro (tm - 1)) (ro (tm - 1) + 1) (nd - (ro (tm - 1)))) (va_cpy le le (ro (tm - 1)) (ro (tm - 1) + 1) (nd - (ro (tm - 1)))) ro tm nd (ro (tm - 1)) x.toInt.toNat (by omega) (by simp only [va_up_self]; exact y2) (by simp only [va_up_self, pk_uLs]; exact tc_num_v y3 y4) (by simp only [va_up_self]; exact tc_put_ch (by omega) (by rw [z2]; exact z8) (by rw [hk]; exact zt.1) zt.2.2 (by omega))) kbS_80 kcS_80 [0, 1, 2, 3, 4, 5, 6, 7, 8] [] [0, 1, 2, 3, 4, 5, 6, 7] ([]) rfl rfl (by decide) (by decide) (by decide) rfl 0 rfl rfl ⟨Nat.le_of_ble_eq_true rfl, Nat.le_of_ble_eq_true rfl⟩ ⟨Nat.le_of_ble_eq_true rfl, Nat.le_of_ble_eq_true rfl⟩ [] rfl rfl (Nat.le_of_ble_eq_true rfl) dS_put_131 (fun rv ru hw => ?_)
              obtain ⟨s, dd, l, e, rfl, rfl, g1, g2, g3, g4⟩ := hw
              show xk_Go K D 7 0 0 (tc_wS a ca (va_up (va_cpy kn kn (ro (tm - 1)) (ro (tm - 1) + 1) (nd - (ro (tm - 1)))) (ro (tm - 1)) kd) (vp_updL (va_cpy nu nu (ro (tm - 1)) (ro (tm - 1) + 1) (nd - (ro (tm - 1)))) (ro (tm - 1)) x) (va_cpy wo wo ((ro (tm - 1)) * 8) ((ro (tm - 1) + 1) * 8) ((nd - (ro (tm - 1))) * 8)) (va_up (va_cpy si si (ro (tm - 1)) (ro (tm - 1) + 1) (nd - (ro (tm - 1)))) (ro (tm - 1)) s) (va_up (va_cpy de de (ro (tm - 1)) (ro (tm - 1) + 1) (nd - (ro (tm - 1)))) (ro (tm - 1)) dd) (va_up (va_cpy la la (ro (tm - 1)) (ro (tm - 1) + 1) (nd - (ro (tm - 1)))) (ro (tm - 1)) l) (va_up (va_cpy le le (ro (tm - 1)) (ro (tm - 1) + 1) (nd - (ro (tm - 1)))) (ro (tm - 1)) e) ro tm nd) [(5, .int (nI (ro (tm - 1)))), (6, .int (nI (ro (tm - 1)))), (4, .int (nI 1)), (0, .ref (a 0)), (1, .int (nI kd)), (2, .long x)] 134 []
              simp only [va_up_self, pk_uLs] at g1 g2 g3 g4
              refine x_aload_n C dS_put_134 rfl 3 rfl ?_
              refine x_dup C dS_put_135 rfl ?_
              refine x_get C fgS_41 0 rfl rfl dS_put_136 ?_
              refine x_iconst (v := nI 1) C dS_put_139 (by decide) ?_
              refine x_iaddN C dS_put_140 ?_
              refine x_put C fpS_41 0 (tc_wS a ca (va_up (va_cpy kn kn (ro (tm - 1)) (ro (tm - 1) + 1) (nd - (ro (tm - 1)))) (ro (tm - 1)) kd) (vp_updL (va_cpy nu nu (ro (tm - 1)) (ro (tm - 1) + 1) (nd - (ro (tm - 1)))) (ro (tm - 1)) x) (va_cpy wo wo ((ro (tm - 1)) * 8) ((ro (tm - 1) + 1) * 8) ((nd - (ro (tm - 1))) * 8)) (va_up (va_cpy si si (ro (tm - 1)) (ro (tm - 1) + 1) (nd - (ro (tm - 1)))) (ro (tm - 1)) s) (va_up (va_cpy de de (ro (tm - 1)) (ro (tm - 1) + 1) (nd - (ro (tm - 1)))) (ro (tm - 1)) dd) (va_up (va_cpy la la (ro (tm - 1)) (ro (tm - 1) + 1) (nd - (ro (tm - 1)))) (ro (tm - 1)) l) (va_up (va_cpy le le (ro (tm - 1)) (ro (tm - 1) + 1) (nd - (ro (tm - 1)))) (ro (tm - 1)) e) ro tm (nd + 1)) rfl rfl rfl rfl (Nat.le_of_ble_eq_true rfl) dS_put_141 ?_
              refine x_aload_n C dS_put_144 rfl 3 rfl ?_
              refine x_dup C dS_put_145 rfl ?_
              refine x_get C fgS_37 0 rfl rfl dS_put_146 ?_
              refine x_iload C dS_put_149 2 rfl ?_
              refine x_isubN C (by omega) dS_put_151 ?_
              refine x_put C fpS_37 0 (tc_wS a ca (va_up (va_cpy kn kn (ro (tm - 1)) (ro (tm - 1) + 1) (nd - (ro (tm - 1)))) (ro (tm - 1)) kd) (vp_updL (va_cpy nu nu (ro (tm - 1)) (ro (tm - 1) + 1) (nd - (ro (tm - 1)))) (ro (tm - 1)) x) (va_cpy wo wo ((ro (tm - 1)) * 8) ((ro (tm - 1) + 1) * 8) ((nd - (ro (tm - 1))) * 8)) (va_up (va_cpy si si (ro (tm - 1)) (ro (tm - 1) + 1) (nd - (ro (tm - 1)))) (ro (tm - 1)) s) (va_up (va_cpy de de (ro (tm - 1)) (ro (tm - 1) + 1) (nd - (ro (tm - 1)))) (ro (tm - 1)) dd) (va_up (va_cpy la la (ro (tm - 1)) (ro (tm - 1) + 1) (nd - (ro (tm - 1)))) (ro (tm - 1)) l) (va_up (va_cpy le le (ro (tm - 1)) (ro (tm - 1) + 1) (nd - (ro (tm - 1)))) (ro (tm - 1)) e) ro (tm - 1) (nd + 1)) rfl rfl rfl rfl (Nat.le_of_ble_eq_true rfl) dS_put_152 ?_
              refine x_aload_n C dS_put_155 rfl 3 rfl ?_
              refine x_iload C dS_put_156 0 rfl ?_
              refine x_callV C (c_S_pushTerm D a ca (va_up (va_cpy kn kn (ro (tm - 1)) (ro (tm - 1) + 1) (nd - (ro (tm - 1)))) (ro (tm - 1)) kd) (vp_updL (va_cpy nu nu (ro (tm - 1)) (ro (tm - 1) + 1) (nd - (ro (tm - 1)))) (ro (tm - 1)) x) (va_cpy wo wo ((ro (tm - 1)) * 8) ((ro (tm - 1) + 1) * 8) ((nd - (ro (tm - 1))) * 8)) (va_up (va_cpy si si (ro (tm - 1)) (ro (tm - 1) + 1) (nd - (ro (tm - 1)))) (ro (tm - 1)) s) (va_up (va_cpy de de (ro (tm - 1)) (ro (tm - 1) + 1) (nd - (ro (tm - 1)))) (ro (tm - 1)) dd) (va_up (va_cpy la la (ro (tm - 1)) (ro (tm - 1) + 1) (nd - (ro (tm - 1)))) (ro (tm - 1)) l) (va_up (va_cpy le le (ro (tm - 1)) (ro (tm - 1) + 1) (nd - (ro (tm - 1)))) (ro (tm - 1)) e) ro (tm - 1) (nd + 1) (ro (tm - 1)) (by omega)) kbS_84 kcS_84 [0, 1, 2, 3, 4, 5, 6, 7, 8] [] [0, 1, 2, 3, 4, 5, 6, 7] ([]) rfl rfl (by decide) (by decide) (by decide) rfl 0 rfl rfl ⟨Nat.le_of_ble_eq_true rfl, Nat.le_of_ble_eq_true rfl⟩ ⟨Nat.le_of_ble_eq_true rfl, Nat.le_of_ble_eq_true rfl⟩ [] rfl rfl (Nat.le_of_ble_eq_true rfl) dS_put_158 (fun rv ru hw => ?_)
              obtain ⟨rfl, rfl⟩ := hw
              show xk_Go K D 7 0 0 (tc_wS a ca (va_up (va_cpy kn kn (ro (tm - 1)) (ro (tm - 1) + 1) (nd - (ro (tm - 1)))) (ro (tm - 1)) kd) (vp_updL (va_cpy nu nu (ro (tm - 1)) (ro (tm - 1) + 1) (nd - (ro (tm - 1)))) (ro (tm - 1)) x) (va_cpy wo wo ((ro (tm - 1)) * 8) ((ro (tm - 1) + 1) * 8) ((nd - (ro (tm - 1))) * 8)) (va_up (va_cpy si si (ro (tm - 1)) (ro (tm - 1) + 1) (nd - (ro (tm - 1)))) (ro (tm - 1)) s) (va_up (va_cpy de de (ro (tm - 1)) (ro (tm - 1) + 1) (nd - (ro (tm - 1)))) (ro (tm - 1)) dd) (va_up (va_cpy la la (ro (tm - 1)) (ro (tm - 1) + 1) (nd - (ro (tm - 1)))) (ro (tm - 1)) l) (va_up (va_cpy le le (ro (tm - 1)) (ro (tm - 1) + 1) (nd - (ro (tm - 1)))) (ro (tm - 1)) e) (va_up ro (tm - 1) (ro (tm - 1))) ((tm - 1) + 1) (nd + 1)) [(5, .int (nI (ro (tm - 1)))), (6, .int (nI (ro (tm - 1)))), (4, .int (nI 1)), (0, .ref (a 0)), (1, .int (nI kd)), (2, .long x)] 161 []
              refine x_iconst (v := nI 1) C dS_put_161 (by decide) ?_
              exact x_iret C T .boolean rfl rfl dS_put_162 (Or.inr (⟨_, _, _, _, _, _, _, _, _, _, (((kd, x, []) :: t) :: R), rfl, rfl, (tc_put_1 hk (by have := y1.2.2.1; omega) (by omega)), (tc_put_RSx z2 (by omega) (fun u hu => y1.1 u (List.mem_cons_of_mem _ hu)) y1.2.2.2.2.1.2 z7 (by rw [z2]; exact z8) (by rw [hk]; exact zt.1) zt.2.2 hx (by rw [tc_dp1 hk zt.1]; omega) (by omega) g1 g2 g3 g4 (by omega) (by omega) (by omega))⟩))
            ·
              exact absurd h42 (by omega)
          ·
            refine x_iconst (v := nI 0) C dS_put_70 (by decide) ?_
            exact x_iret C T .boolean rfl rfl dS_put_71 (Or.inl (⟨rfl, rfl, (tc_put_deep1 hk (by omega))⟩))
      ·
        refine x_iconst (v := nI 0) C dS_put_25 (by decide) ?_
        exact x_iret C T .boolean rfl rfl dS_put_26 (Or.inl (⟨rfl, rfl, (tc_put_none hk (by first | exact Or.inl (by have := y1.2.1; omega) | exact Or.inr (by have := y1.2.2.1; omega)))⟩))
  ·
    rw [hk]
    refine x_istore C [(4, .int (nI 2)), (0, .ref (a 0)), (1, .int (nI kd)), (2, .long x)] dS_put_4 (by decide) rfl ?_
    refine x_aload_n C dS_put_6 rfl 1 rfl ?_
    refine x_get C fgS_37 0 rfl rfl dS_put_7 ?_
    refine x_iload C dS_put_10 0 rfl ?_
    refine x_icmp_ltN (tgt := 25) C (by omega) (by decide) dS_put_12 (by decide) (fun h12 => ?_) (fun h12 => ?_)
    ·
      refine x_iconst (v := nI 0) C dS_put_25 (by decide) ?_
      exact x_iret C T .boolean rfl rfl dS_put_26 (Or.inl (⟨rfl, rfl, (tc_put_none hk (by first | exact Or.inl (by have := y1.2.1; omega) | exact Or.inr (by have := y1.2.2.1; omega)))⟩))
    ·
      refine x_aload_n C dS_put_15 rfl 1 rfl ?_
      refine x_get C fgS_41 0 rfl rfl dS_put_16 ?_
      refine x_sipush (v := nI 200) C dS_put_19 (by decide) ?_
      refine x_icmp_ltN (tgt := 27) C (by omega) (by decide) dS_put_22 (by decide) (fun h22 => ?_) (fun h22 => ?_)
      ·
        obtain ⟨t, R, rfl⟩ := tc_RS_cons y1 (by omega)
        obtain ⟨z1, z2, z3, z4, z5, z6, z7, z8, z9, z10, z11, z12⟩ := tc_top y1
        have zt := y1.1 t List.mem_cons_self
        have zt60 := zt.2.1
        have y1b := tc_RS_tail y1
        obtain ⟨t1, R1, rfl⟩ := tc_RS_cons y1b (by omega)
        obtain ⟨w1, w2, w3, w4, w5, w6, w7, w8, w9, w10, w11, w12⟩ := tc_top y1b
        have zt1 := y1.1 t1 (List.mem_cons_of_mem _ List.mem_cons_self)
        have zt160 := zt1.2.1
        have e21 : tm - 1 - 1 = tm - 2 := by omega
        rw [e21] at w2
        have e211 : tm - 2 + 1 = tm - 1 := by omega
        have zd1 : de (ro (tm - 2)) = tc_dp t1 := by rw [w2]; exact w10
        have zd : de (ro (tm - 2 + 1)) = tc_dp t := by rw [e211, z2]; exact z10
        have zr : ro (tm - 2 + 1) < 200 := by rw [e211]; omega
        refine x_aload_n C dS_put_27 rfl 1 rfl ?_
        refine x_get C fgS_37 0 rfl rfl dS_put_28 ?_
        refine x_iload C dS_put_31 0 rfl ?_
        refine x_isubN C (by omega) dS_put_33 ?_
        refine x_istore C [(5, .int (nI (tm - 2))), (4, .int (nI 2)), (0, .ref (a 0)), (1, .int (nI kd)), (2, .long x)] dS_put_34 (by decide) rfl ?_
        refine x_iload C dS_put_36 0 rfl ?_
        refine x_aload_n C dS_put_38 rfl 2 rfl ?_
        refine x_get C fgS_37 0 rfl rfl dS_put_39 ?_
        refine x_icmp_geN (tgt := 78) C (by omega) (by omega) dS_put_42 (by decide) (fun h42 => ?_) (fun h42 => ?_)
        ·
          exact absurd h42 (by omega)
        ·
          refine x_aload_n C dS_put_45 rfl 2 rfl ?_
          refine x_iload C dS_put_46 0 rfl ?_
          refine x_callV C (c_S_rootOf D a ca kn nu wo si de la le ro tm nd (some (tm - 2)) (by omega) (fun q hq => by obtain rfl := Option.some.inj hq; exact ⟨by omega, by omega⟩)) kbS_48 kcS_48 [0, 1, 2, 3, 4, 5, 6, 7, 8] [] [0, 1, 2, 3, 4, 5, 6, 7] ([]) rfl rfl (by decide) (by decide) (by decide) rfl 0 rfl rfl ⟨Nat.le_of_ble_eq_true rfl, Nat.le_of_ble_eq_true rfl⟩ ⟨Nat.le_of_ble_eq_true rfl, Nat.le_of_ble_eq_true rfl⟩ [] rfl rfl (Nat.le_of_ble_eq_true rfl) dS_put_48 (fun rv ru hw => ?_)
          obtain ⟨rfl, rfl⟩ := hw
          show xk_Go K D 7 0 0 (tc_wS a ca kn nu wo si de la le ro tm nd) [(5, .int (nI (tm - 2))), (4, .int (nI 2)), (0, .ref (a 0)), (1, .int (nI kd)), (2, .long x)] 51 [.int (xk_oI ((some (tm - 2)).map ro))]
          show xk_Go K D 7 0 0 (tc_wS a ca kn nu wo si de la le ro tm nd) [(5, .int (nI (tm - 2))), (4, .int (nI 2)), (0, .ref (a 0)), (1, .int (nI kd)), (2, .long x)] 51 [.int (nI (ro (tm - 2)))]
          refine x_istore C [(6, .int (nI (ro (tm - 2)))), (5, .int (nI (tm - 2))), (4, .int (nI 2)), (0, .ref (a 0)), (1, .int (nI kd)), (2, .long x)] dS_put_51 (by decide) rfl ?_
          refine x_iload C dS_put_53 0 rfl ?_
          refine x_if_ltN (tgt := 70) C (by omega) dS_put_55 (by decide) ?_
          refine x_aload_n C dS_put_58 rfl 3 rfl ?_
          refine x_get C fgS_25 0 rfl rfl dS_put_59 ?_
          refine x_iload C dS_put_62 0 rfl ?_
          refine x_ild C 5 4 rfl rfl (by omega) (by decide) dS_put_64 ?_
          show xk_Go K D 7 0 0 (tc_wS a ca kn nu wo si de la le ro tm nd) [(6, .int (nI (ro (tm - 2)))), (5, .int (nI (tm - 2))), (4, .int (nI 2)), (0, .ref (a 0)), (1, .int (nI kd)), (2, .long x)] 65 [.int (nI (de (ro (tm - 2))))]
          refine x_bipush (v := nI 60) C dS_put_65 (by decide) ?_
          refine x_icmp_ltN (tgt := 72) C (by omega) (by decide) dS_put_67 (by decide) (fun h67 => ?_) (fun h67 => ?_)
          ·
            refine x_iinc (q := 1) C (nI (tm - 2 + 1)) [(5, .int (nI (tm - 2 + 1))), (6, .int (nI (ro (tm - 2)))), (4, .int (nI 2)), (0, .ref (a 0)), (1, .int (nI kd)), (2, .long x)] dS_put_72 rfl (nI_add (tm - 2) 1) (by decide) rfl ?_
            refine x_goto C 36 dS_put_75 (by decide) ?_
            refine x_iload C dS_put_36 0 rfl ?_
            refine x_aload_n C dS_put_38 rfl 3 rfl ?_
            refine x_get C fgS_37 0 rfl rfl dS_put_39 ?_
            refine x_icmp_geN (tgt := 78) C (by omega) (by omega) dS_put_42 (by decide) (fun h42 => ?_) (fun h42 => ?_)
            ·
              exact absurd h42 (by omega)
            ·
              refine x_aload_n C dS_put_45 rfl 3 rfl ?_
              refine x_iload C dS_put_46 0 rfl ?_
              refine x_callV C (c_S_rootOf D a ca kn nu wo si de la le ro tm nd (some (tm - 2 + 1)) (by omega) (fun q hq => by obtain rfl := Option.some.inj hq; exact ⟨by omega, by omega⟩)) kbS_48 kcS_48 [0, 1, 2, 3, 4, 5, 6, 7, 8] [] [0, 1, 2, 3, 4, 5, 6, 7] ([]) rfl rfl (by decide) (by decide) (by decide) rfl 0 rfl rfl ⟨Nat.le_of_ble_eq_true rfl, Nat.le_of_ble_eq_true rfl⟩ ⟨Nat.le_of_ble_eq_true rfl, Nat.le_of_ble_eq_true rfl⟩ [] rfl rfl (Nat.le_of_ble_eq_true rfl) dS_put_48 (fun rv ru hw => ?_)
              obtain ⟨rfl, rfl⟩ := hw
              show xk_Go K D 7 0 0 (tc_wS a ca kn nu wo si de la le ro tm nd) [(5, .int (nI (tm - 2 + 1))), (6, .int (nI (ro (tm - 2)))), (4, .int (nI 2)), (0, .ref (a 0)), (1, .int (nI kd)), (2, .long x)] 51 [.int (xk_oI ((some (tm - 2 + 1)).map ro))]
              show xk_Go K D 7 0 0 (tc_wS a ca kn nu wo si de la le ro tm nd) [(5, .int (nI (tm - 2 + 1))), (6, .int (nI (ro (tm - 2)))), (4, .int (nI 2)), (0, .ref (a 0)), (1, .int (nI kd)), (2, .long x)] 51 [.int (nI (ro (tm - 2 + 1)))]
              refine x_istore C [(6, .int (nI (ro (tm - 2 + 1)))), (5, .int (nI (tm - 2 + 1))), (4, .int (nI 2)), (0, .ref (a 0)), (1, .int (nI kd)), (2, .long x)] dS_put_51 (by decide) rfl ?_
              refine x_iload C dS_put_53 0 rfl ?_
              refine x_if_ltN (tgt := 70) C (by omega) dS_put_55 (by decide) ?_
              refine x_aload_n C dS_put_58 rfl 3 rfl ?_
              refine x_get C fgS_25 0 rfl rfl dS_put_59 ?_
              refine x_iload C dS_put_62 0 rfl ?_
              refine x_ild C 5 4 rfl rfl (by omega) (by decide) dS_put_64 ?_
              show xk_Go K D 7 0 0 (tc_wS a ca kn nu wo si de la le ro tm nd) [(6, .int (nI (ro (tm - 2 + 1)))), (5, .int (nI (tm - 2 + 1))), (4, .int (nI 2)), (0, .ref (a 0)), (1, .int (nI kd)), (2, .long x)] 65 [.int (nI (de (ro (tm - 2 + 1))))]
              refine x_bipush (v := nI 60) C dS_put_65 (by decide) ?_
              refine x_icmp_ltN (tgt := 72) C (by omega) (by decide) dS_put_67 (by decide) (fun h67 => ?_) (fun h67 => ?_)
              ·
                refine x_iinc (q := 1) C (nI (tm - 2 + 1 + 1)) [(5, .int (nI (tm - 2 + 1 + 1))), (6, .int (nI (ro (tm - 2 + 1)))), (4, .int (nI 2)), (0, .ref (a 0)), (1, .int (nI kd)), (2, .long x)] dS_put_72 rfl (nI_add (tm - 2 + 1) 1) (by decide) rfl ?_
                refine x_goto C 36 dS_put_75 (by decide) ?_
                refine x_iload C dS_put_36 0 rfl ?_
                refine x_aload_n C dS_put_38 rfl 3 rfl ?_
                refine x_get C fgS_37 0 rfl rfl dS_put_39 ?_
                refine x_icmp_geN (tgt := 78) C (by omega) (by omega) dS_put_42 (by decide) (fun h42 => ?_) (fun h42 => ?_)
                ·
                  refine x_iload C dS_put_78 2 rfl ?_
                  refine x_if_ne (tgt := 90) C dS_put_80 (by decide) (fun _ => ?_) (fun h => absurd h (by decide))
                  refine x_aload_n C dS_put_90 rfl 3 rfl ?_
                  refine x_aload_n C dS_put_91 rfl 3 rfl ?_
                  refine x_get C fgS_37 0 rfl rfl dS_put_92 ?_
                  refine x_iload C dS_put_95 2 rfl ?_
                  refine x_isubN C (by omega) dS_put_97 ?_
                  refine x_callV C (c_S_rootOf D a ca kn nu wo si de la le ro tm nd (some (tm - 2)) (by omega) (fun q hq => by obtain rfl := Option.some.inj hq; exact ⟨by omega, by omega⟩)) kbS_48 kcS_48 [0, 1, 2, 3, 4, 5, 6, 7, 8] [] [0, 1, 2, 3, 4, 5, 6, 7] ([]) rfl rfl (by decide) (by decide) (by decide) rfl 0 rfl rfl ⟨Nat.le_of_ble_eq_true rfl, Nat.le_of_ble_eq_true rfl⟩ ⟨Nat.le_of_ble_eq_true rfl, Nat.le_of_ble_eq_true rfl⟩ [] rfl rfl (Nat.le_of_ble_eq_true rfl) dS_put_98 (fun rv ru hw => ?_)
                  obtain ⟨rfl, rfl⟩ := hw
                  show xk_Go K D 7 0 0 (tc_wS a ca kn nu wo si de la le ro tm nd) [(5, .int (nI (tm - 2 + 1 + 1))), (6, .int (nI (ro (tm - 2 + 1)))), (4, .int (nI 2)), (0, .ref (a 0)), (1, .int (nI kd)), (2, .long x)] 101 [.int (xk_oI ((some (tm - 2)).map ro))]
                  show xk_Go K D 7 0 0 (tc_wS a ca kn nu wo si de la le ro tm nd) [(5, .int (nI (tm - 2 + 1 + 1))), (6, .int (nI (ro (tm - 2 + 1)))), (4, .int (nI 2)), (0, .ref (a 0)), (1, .int (nI kd)), (2, .long x)] 101 [.int (nI (ro (tm - 2)))]
                  refine x_istore C [(5, .int (nI (ro (tm - 2)))), (6, .int (nI (ro (tm - 2 + 1)))), (4, .int (nI 2)), (0, .ref (a 0)), (1, .int (nI kd)), (2, .long x)] dS_put_101 (by decide) rfl ?_
                  have zlen : (tc_cat (t1 :: R1)).length = (tc_cat R1).length + t1.length := List.length_append
                  have zAR : tc_AR (kn, nu, wo, si, de, la, le) (ro (tm - 2)) (t1 ++ t) := (tc_AR_app _ t zt1.1).mpr ⟨by rw [w2]; exact w8, by rw [w2, ← zlen]; exact z8⟩
                  have zok : ∀ y ∈ t1 ++ t, tc_okn y := fun y hy => (List.mem_append.mp hy).elim (zt1.2.2 y) (zt.2.2 y)
                  refine x_aload_n C dS_put_103 rfl 3 rfl ?_
                  refine x_iload C dS_put_104 0 rfl ?_
                  refine x_iload C dS_put_106 0 rfl ?_
                  refine x_iconst (v := nI 1) C dS_put_108 (by decide) ?_
                  refine x_iaddN C dS_put_109 ?_
                  refine x_aload_n C dS_put_110 rfl 3 rfl ?_
                  refine x_get C fgS_41 0 rfl rfl dS_put_111 ?_
                  refine x_iload C dS_put_114 0 rfl ?_
                  refine x_isubN C (by omega) dS_put_116 ?_
                  refine x_callV C (c_S_copyNodes D a ca kn nu wo si de la le ro tm nd (ro (tm - 2)) (ro (tm - 2) + 1) (nd - (ro (tm - 2))) (by omega) (by omega)) kbS_72 kcS_72 [0, 1, 2, 3, 4, 5, 6, 7, 8] [] [0, 1, 2, 3, 4, 5, 6, 7] ([]) rfl rfl (by decide) (by decide) (by decide) rfl 0 rfl rfl ⟨Nat.le_of_ble_eq_true rfl, Nat.le_of_ble_eq_true rfl⟩ ⟨Nat.le_of_ble_eq_true rfl, Nat.le_of_ble_eq_true rfl⟩ [] rfl rfl (Nat.le_of_ble_eq_true rfl) dS_put_117 (fun rv ru hw => ?_)
                  obtain ⟨rfl, rfl⟩ := hw
                  show xk_Go K D 7 0 0 (tc_wS a ca (va_cpy kn kn (ro (tm - 2)) (ro (tm - 2) + 1) (nd - (ro (tm - 2)))) (va_cpy nu nu (ro (tm - 2)) (ro (tm - 2) + 1) (nd - (ro (tm - 2)))) (va_cpy wo wo ((ro (tm - 2)) * 8) ((ro (tm - 2) + 1) * 8) ((nd - (ro (tm - 2))) * 8)) (va_cpy si si (ro (tm - 2)) (ro (tm - 2) + 1) (nd - (ro (tm - 2)))) (va_cpy de de (ro (tm - 2)) (ro (tm - 2) + 1) (nd - (ro (tm - 2)))) (va_cpy la la (ro (tm - 2)) (ro (tm - 2) + 1) (nd - (ro (tm - 2)))) (va_cpy le le (ro (tm - 2)) (ro (tm - 2) + 1) (nd - (ro (tm - 2)))) ro tm nd) [(5, .int (nI (ro (tm - 2)))), (6, .int (nI (ro (tm - 2 + 1)))), (4, .int (nI 2)), (0, .ref (a 0)), (1, .int (nI kd)), (2, .long x)] 120 []
                  refine x_aload_n C dS_put_120 rfl 3 rfl ?_
                  refine x_iload C dS_put_121 0 rfl ?_
                  refine x_iload_n C dS_put_123 rfl 4 rfl ?_
                  refine x_lload_n C dS_put_124 rfl 5 rfl ?_
                  refine x_callV C (c_S_setNode D a ca (va_cpy kn kn (ro (tm - 2)) (ro (tm - 2) + 1) (nd - (ro (tm - 2)))) (va_cpy nu nu (ro (tm - 2)) (ro (tm - 2) + 1) (nd - (ro (tm - 2)))) (va_cpy wo wo ((ro (tm - 2)) * 8) ((ro (tm - 2) + 1) * 8) ((nd - (ro (tm - 2))) * 8)) (va_cpy si si (ro (tm - 2)) (ro (tm - 2) + 1) (nd - (ro (tm - 2)))) (va_cpy de de (ro (tm - 2)) (ro (tm - 2) + 1) (nd - (ro (tm - 2)))) (va_cpy la la (ro (tm - 2)) (ro (tm - 2) + 1) (nd - (ro (tm - 2)))) (va_cpy le le (ro (tm - 2)) (ro (tm - 2) + 1) (nd - (ro (tm - 2)))) ro tm nd (ro (tm - 2)) kd x (by omega)) kbS_76 kcS_76 [0, 1, 2, 3, 4, 5, 6, 7, 8] [] [0, 1, 2, 3, 4, 5, 6, 7] ([]) rfl rfl (by decide) (by decide) (by decide) rfl 0 rfl rfl ⟨Nat.le_of_ble_eq_true rfl, Nat.le_of_ble_eq_true rfl⟩ ⟨Nat.le_of_ble_eq_true rfl, Nat.le_of_ble_eq_true rfl⟩ [] rfl rfl (Nat.le_of_ble_eq_true rfl) dS_put_125 (fun rv ru hw => ?_)
                  obtain ⟨rfl, rfl⟩ := hw
                  show xk_Go K D 7 0 0 (tc_wS a ca (va_up (va_cpy kn kn (ro (tm - 2)) (ro (tm - 2) + 1) (nd - (ro (tm - 2)))) (ro (tm - 2)) kd) (vp_updL (va_cpy nu nu (ro (tm - 2)) (ro (tm - 2) + 1) (nd - (ro (tm - 2)))) (ro (tm - 2)) x) (va_cpy wo wo ((ro (tm - 2)) * 8) ((ro (tm - 2) + 1) * 8) ((nd - (ro (tm - 2))) * 8)) (va_cpy si si (ro (tm - 2)) (ro (tm - 2) + 1) (nd - (ro (tm - 2)))) (va_cpy de de (ro (tm - 2)) (ro (tm - 2) + 1) (nd - (ro (tm - 2)))) (va_cpy la la (ro (tm - 2)) (ro (tm - 2) + 1) (nd - (ro (tm - 2)))) (va_cpy le le (ro (tm - 2)) (ro (tm - 2) + 1) (nd - (ro (tm - 2)))) ro tm nd) [(5, .int (nI (ro (tm - 2)))), (6, .int (nI (ro (tm - 2 + 1)))), (4, .int (nI 2)), (0, .ref (a 0)), (1, .int (nI kd)), (2, .long x)] 128 []
                  refine x_aload_n C dS_put_128 rfl 3 rfl ?_
                  refine x_iload C dS_put_129 0 rfl ?_
                  refine x_callV C (c_S_settle D a ca (va_up (va_cpy kn kn (ro (tm - 2)) (ro (tm - 2) + 1) (nd - (ro (tm - 2)))) (ro (tm - 2)) kd) (vp_updL (va_cpy nu nu (ro (tm - 2)) (ro (tm - 2) + 1) (nd - (ro (tm - 2)))) (ro (tm - 2)) x) (va_cpy wo wo ((ro (tm - 2)) * 8) ((ro (tm - 2) + 1) * 8) ((nd - (ro (tm - 2))) * 8)) (va_cpy si si (ro (tm - 2)) (ro (tm - 2) + 1) (nd - (ro (tm - 2)))) (va_cpy de de (ro (tm - 2)) (ro (tm - 2) + 1) (nd - (ro (tm - 2)))) (va_cpy la la (ro (tm - 2)) (ro (tm - 2) + 1) (nd - (ro (tm - 2)))) (va_cpy le le (ro (tm - 2)) (ro (tm - 2) + 1) (nd - (ro (tm - 2)))) ro tm nd (ro (tm - 2)) x.toInt.toNat (by omega) (by simp only [va_up_self]; exact y2) (by simp only [va_up_self, pk_uLs]; exact tc_num_v y3 y4) (by simp only [va_up_self]; exact tc_put_ch (by rw [List.length_append]; omega) zAR (by rw [hk]; exact tc_wf_app (a := 1) (b := 1) zt1.1 zt.1) zok (by omega))) kbS_80 kcS_80 [0, 1, 2, 3, 4, 5, 6, 7, 8] [] [0, 1, 2, 3, 4, 5, 6, 7] ([]) rfl rfl (by decide) (by decide) (by decide) rfl 0 rfl rfl ⟨Nat.le_of_ble_eq_true rfl, Nat.le_of_ble_eq_true rfl⟩ ⟨Nat.le_of_ble_eq_true rfl, Nat.le_of_ble_eq_true rfl⟩ [] rfl rfl (Nat.le_of_ble_eq_true rfl) dS_put_131 (fun rv ru hw => ?_)
                  obtain ⟨s, dd, l, e, rfl, rfl, g1, g2, g3, g4⟩ := hw
                  show xk_Go K D 7 0 0 (tc_wS a ca (va_up (va_cpy kn kn (ro (tm - 2)) (ro (tm - 2) + 1) (nd - (ro (tm - 2)))) (ro (tm - 2)) kd) (vp_updL (va_cpy nu nu (ro (tm - 2)) (ro (tm - 2) + 1) (nd - (ro (tm - 2)))) (ro (tm - 2)) x) (va_cpy wo wo ((ro (tm - 2)) * 8) ((ro (tm - 2) + 1) * 8) ((nd - (ro (tm - 2))) * 8)) (va_up (va_cpy si si (ro (tm - 2)) (ro (tm - 2) + 1) (nd - (ro (tm - 2)))) (ro (tm - 2)) s) (va_up (va_cpy de de (ro (tm - 2)) (ro (tm - 2) + 1) (nd - (ro (tm - 2)))) (ro (tm - 2)) dd) (va_up (va_cpy la la (ro (tm - 2)) (ro (tm - 2) + 1) (nd - (ro (tm - 2)))) (ro (tm - 2)) l) (va_up (va_cpy le le (ro (tm - 2)) (ro (tm - 2) + 1) (nd - (ro (tm - 2)))) (ro (tm - 2)) e) ro tm nd) [(5, .int (nI (ro (tm - 2)))), (6, .int (nI (ro (tm - 2 + 1)))), (4, .int (nI 2)), (0, .ref (a 0)), (1, .int (nI kd)), (2, .long x)] 134 []
                  simp only [va_up_self, pk_uLs] at g1 g2 g3 g4
                  refine x_aload_n C dS_put_134 rfl 3 rfl ?_
                  refine x_dup C dS_put_135 rfl ?_
                  refine x_get C fgS_41 0 rfl rfl dS_put_136 ?_
                  refine x_iconst (v := nI 1) C dS_put_139 (by decide) ?_
                  refine x_iaddN C dS_put_140 ?_
                  refine x_put C fpS_41 0 (tc_wS a ca (va_up (va_cpy kn kn (ro (tm - 2)) (ro (tm - 2) + 1) (nd - (ro (tm - 2)))) (ro (tm - 2)) kd) (vp_updL (va_cpy nu nu (ro (tm - 2)) (ro (tm - 2) + 1) (nd - (ro (tm - 2)))) (ro (tm - 2)) x) (va_cpy wo wo ((ro (tm - 2)) * 8) ((ro (tm - 2) + 1) * 8) ((nd - (ro (tm - 2))) * 8)) (va_up (va_cpy si si (ro (tm - 2)) (ro (tm - 2) + 1) (nd - (ro (tm - 2)))) (ro (tm - 2)) s) (va_up (va_cpy de de (ro (tm - 2)) (ro (tm - 2) + 1) (nd - (ro (tm - 2)))) (ro (tm - 2)) dd) (va_up (va_cpy la la (ro (tm - 2)) (ro (tm - 2) + 1) (nd - (ro (tm - 2)))) (ro (tm - 2)) l) (va_up (va_cpy le le (ro (tm - 2)) (ro (tm - 2) + 1) (nd - (ro (tm - 2)))) (ro (tm - 2)) e) ro tm (nd + 1)) rfl rfl rfl rfl (Nat.le_of_ble_eq_true rfl) dS_put_141 ?_
                  refine x_aload_n C dS_put_144 rfl 3 rfl ?_
                  refine x_dup C dS_put_145 rfl ?_
                  refine x_get C fgS_37 0 rfl rfl dS_put_146 ?_
                  refine x_iload C dS_put_149 2 rfl ?_
                  refine x_isubN C (by omega) dS_put_151 ?_
                  refine x_put C fpS_37 0 (tc_wS a ca (va_up (va_cpy kn kn (ro (tm - 2)) (ro (tm - 2) + 1) (nd - (ro (tm - 2)))) (ro (tm - 2)) kd) (vp_updL (va_cpy nu nu (ro (tm - 2)) (ro (tm - 2) + 1) (nd - (ro (tm - 2)))) (ro (tm - 2)) x) (va_cpy wo wo ((ro (tm - 2)) * 8) ((ro (tm - 2) + 1) * 8) ((nd - (ro (tm - 2))) * 8)) (va_up (va_cpy si si (ro (tm - 2)) (ro (tm - 2) + 1) (nd - (ro (tm - 2)))) (ro (tm - 2)) s) (va_up (va_cpy de de (ro (tm - 2)) (ro (tm - 2) + 1) (nd - (ro (tm - 2)))) (ro (tm - 2)) dd) (va_up (va_cpy la la (ro (tm - 2)) (ro (tm - 2) + 1) (nd - (ro (tm - 2)))) (ro (tm - 2)) l) (va_up (va_cpy le le (ro (tm - 2)) (ro (tm - 2) + 1) (nd - (ro (tm - 2)))) (ro (tm - 2)) e) ro (tm - 2) (nd + 1)) rfl rfl rfl rfl (Nat.le_of_ble_eq_true rfl) dS_put_152 ?_
                  refine x_aload_n C dS_put_155 rfl 3 rfl ?_
                  refine x_iload C dS_put_156 0 rfl ?_
                  refine x_callV C (c_S_pushTerm D a ca (va_up (va_cpy kn kn (ro (tm - 2)) (ro (tm - 2) + 1) (nd - (ro (tm - 2)))) (ro (tm - 2)) kd) (vp_updL (va_cpy nu nu (ro (tm - 2)) (ro (tm - 2) + 1) (nd - (ro (tm - 2)))) (ro (tm - 2)) x) (va_cpy wo wo ((ro (tm - 2)) * 8) ((ro (tm - 2) + 1) * 8) ((nd - (ro (tm - 2))) * 8)) (va_up (va_cpy si si (ro (tm - 2)) (ro (tm - 2) + 1) (nd - (ro (tm - 2)))) (ro (tm - 2)) s) (va_up (va_cpy de de (ro (tm - 2)) (ro (tm - 2) + 1) (nd - (ro (tm - 2)))) (ro (tm - 2)) dd) (va_up (va_cpy la la (ro (tm - 2)) (ro (tm - 2) + 1) (nd - (ro (tm - 2)))) (ro (tm - 2)) l) (va_up (va_cpy le le (ro (tm - 2)) (ro (tm - 2) + 1) (nd - (ro (tm - 2)))) (ro (tm - 2)) e) ro (tm - 2) (nd + 1) (ro (tm - 2)) (by omega)) kbS_84 kcS_84 [0, 1, 2, 3, 4, 5, 6, 7, 8] [] [0, 1, 2, 3, 4, 5, 6, 7] ([]) rfl rfl (by decide) (by decide) (by decide) rfl 0 rfl rfl ⟨Nat.le_of_ble_eq_true rfl, Nat.le_of_ble_eq_true rfl⟩ ⟨Nat.le_of_ble_eq_true rfl, Nat.le_of_ble_eq_true rfl⟩ [] rfl rfl (Nat.le_of_ble_eq_true rfl) dS_put_158 (fun rv ru hw => ?_)
                  obtain ⟨rfl, rfl⟩ := hw
                  show xk_Go K D 7 0 0 (tc_wS a ca (va_up (va_cpy kn kn (ro (tm - 2)) (ro (tm - 2) + 1) (nd - (ro (tm - 2)))) (ro (tm - 2)) kd) (vp_updL (va_cpy nu nu (ro (tm - 2)) (ro (tm - 2) + 1) (nd - (ro (tm - 2)))) (ro (tm - 2)) x) (va_cpy wo wo ((ro (tm - 2)) * 8) ((ro (tm - 2) + 1) * 8) ((nd - (ro (tm - 2))) * 8)) (va_up (va_cpy si si (ro (tm - 2)) (ro (tm - 2) + 1) (nd - (ro (tm - 2)))) (ro (tm - 2)) s) (va_up (va_cpy de de (ro (tm - 2)) (ro (tm - 2) + 1) (nd - (ro (tm - 2)))) (ro (tm - 2)) dd) (va_up (va_cpy la la (ro (tm - 2)) (ro (tm - 2) + 1) (nd - (ro (tm - 2)))) (ro (tm - 2)) l) (va_up (va_cpy le le (ro (tm - 2)) (ro (tm - 2) + 1) (nd - (ro (tm - 2)))) (ro (tm - 2)) e) (va_up ro (tm - 2) (ro (tm - 2))) ((tm - 2) + 1) (nd + 1)) [(5, .int (nI (ro (tm - 2)))), (6, .int (nI (ro (tm - 2 + 1)))), (4, .int (nI 2)), (0, .ref (a 0)), (1, .int (nI kd)), (2, .long x)] 161 []
                  refine x_iconst (v := nI 1) C dS_put_161 (by decide) ?_
                  exact x_iret C T .boolean rfl rfl dS_put_162 (Or.inr (⟨_, _, _, _, _, _, _, _, _, _, (((kd, x, []) :: (t1 ++ t)) :: R1), rfl, rfl, (tc_put_2 hk (by have := y1.2.2.1; omega) (by omega) (by omega)), (tc_put_RSx w2 (by rw [List.length_append]; omega) (fun u hu => y1.1 u (List.mem_cons_of_mem _ (List.mem_cons_of_mem _ hu))) y1.2.2.2.2.1.2.2 w7 zAR (by rw [hk]; exact tc_wf_app (a := 1) (b := 1) zt1.1 zt.1) zok hx (by rw [tc_dp2 hk zt1.1 zt.1]; omega) (by omega) g1 g2 g3 g4 (by omega) (by omega) (by omega))⟩))
                ·
                  exact absurd h42 (by omega)
              ·
                refine x_iconst (v := nI 0) C dS_put_70 (by decide) ?_
                exact x_iret C T .boolean rfl rfl dS_put_71 (Or.inl (⟨rfl, rfl, (tc_put_deep2 hk (by first | exact Or.inl (by omega) | exact Or.inr (by omega)))⟩))
          ·
            refine x_iconst (v := nI 0) C dS_put_70 (by decide) ?_
            exact x_iret C T .boolean rfl rfl dS_put_71 (Or.inl (⟨rfl, rfl, (tc_put_deep2 hk (by first | exact Or.inl (by omega) | exact Or.inr (by omega)))⟩))
      ·
        refine x_iconst (v := nI 0) C dS_put_25 (by decide) ?_
        exact x_iret C T .boolean rfl rfl dS_put_26 (Or.inl (⟨rfl, rfl, (tc_put_none hk (by first | exact Or.inl (by have := y1.2.1; omega) | exact Or.inr (by have := y1.2.2.1; omega)))⟩))
