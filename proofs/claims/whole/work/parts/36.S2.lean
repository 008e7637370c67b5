set_option maxHeartbeats 4000000 in
set_option maxRecDepth 100000 in
/-- settle -/
theorem c_S_settle (D : va_G) (a : Nat → Nat) (ca : Nat → ClassId) (kn : Nat → Nat) (nu : Nat → Int64) (wo : Nat → Int64) (si : Nat → Nat) (de : Nat → Nat) (la : Nat → Nat) (le : Nat → Nat) (ro : Nat → Nat) (tm : Nat) (nd : Nat) (i : Nat) (v : Nat) (y1 : i < 200) (y2 : kn i = 0 ∨ kn i = 1 ∨ kn i = 2 ∨ kn i = 3 ∨ kn i = 4 ∨ kn i = 5 ∨ kn i = 6 ∨ kn i = 7 ∨ kn i = 8 ∨ kn i = 9 ∨ kn i = 10 ∨ kn i = 11) (y3 : kn i = 0 ∨ kn i = 8 → nu i = lN v ∧ v < 2 ^ 30) (y4 : ∀ j, j ∈ tc_chs (kn i) i si → j < 200 ∧ si j < 1048576 ∧ de j < 1048576 ∧ la j < 1048576 ∧ le j < 1048576) : xk_Ct yS_settle cS_settle 10 none { frames := 2, cells := 0, slots := 0, locals := 46 } D (tc_tS ca) [.ref (a 0), .int (nI i)] (tc_wS a ca kn nu wo si de la le ro tm nd) (fun rv ru => (∃ (s : Nat), ∃ (dd : Nat), ∃ (l : Nat), ∃ (e : Nat), rv = none ∧ ru = tc_wS a ca kn nu wo (va_up si i s) (va_up de i dd) (va_up la i l) (va_up le i e) ro tm nd ∧ (s = tc_fs (kn i, nu i, []) ((tc_chs (kn i) i si).map si)) ∧ (dd = tc_fd (kn i, nu i, []) ((tc_chs (kn i) i si).map de)) ∧ (l = tc_fl (kn i, nu i, []) ((tc_chs (kn i) i si).map la)) ∧ (e = tc_ol (kn i) (nu i) + ((tc_chs (kn i) i si).map le).sum))) := by
  refine xk_enter (by decide) (Nat.le_of_ble_eq_true rfl) (fun K C T hin => ?_)
  have yk : kn i ≤ 11 := by omega
  have yo := tc_ol_lt (kn i) (nu i) v y3
  show xk_Go K D 10 0 0 (tc_wS a ca kn nu wo si de la le ro tm nd) [(0, .ref (a 0)), (1, .int (nI i))] 0 []
  refine x_aload_n C dS_settle_0 rfl 0 rfl ?_
  refine x_get C fgS_9 0 rfl rfl dS_settle_1 ?_
  refine x_iload_n C dS_settle_4 rfl 1 rfl ?_
  refine x_ild C 1 0 rfl rfl (by omega) (by decide) dS_settle_5 ?_
  show xk_Go K D 10 0 0 (tc_wS a ca kn nu wo si de la le ro tm nd) [(0, .ref (a 0)), (1, .int (nI i))] 6 [.int (nI (kn i))]
  refine x_istore_n C [(2, .int (nI (kn i))), (0, .ref (a 0)), (1, .int (nI i))] dS_settle_6 rfl (by decide) rfl ?_
  refine x_iconst (v := nI 1) C dS_settle_7 (by decide) ?_
  refine x_istore_n C [(3, .int (nI 1)), (2, .int (nI (kn i))), (0, .ref (a 0)), (1, .int (nI i))] dS_settle_8 rfl (by decide) rfl ?_
  refine x_iconst (v := nI 0) C dS_settle_9 (by decide) ?_
  refine x_istore C [(4, .int (nI 0)), (3, .int (nI 1)), (2, .int (nI (kn i))), (0, .ref (a 0)), (1, .int (nI i))] dS_settle_10 (by decide) rfl ?_
  have jn29 : ∀ (l0 : Nat), ((l0 = if kn i = 0 then (nu i).toInt.toNat else 0)) → (l0 < 2 ^ 30) → xk_Go K D 10 0 0 (tc_wS a ca kn nu wo si de la le ro tm nd) [(0, .ref (a 0)), (1, .int (nI i)), (2, .int (nI (kn i))), (3, .int (nI 1)), (4, .int (nI 0)), (5, .int (nI l0))] 29 [] := by
    intro l0 e0 e00
    refine x_iload_n C dS_settle_29 rfl 2 rfl ?_
    refine x_aload_n C dS_settle_30 rfl 0 rfl ?_
    refine x_get C fgS_15 0 rfl rfl dS_settle_31 ?_
    refine x_iload_n C dS_settle_34 rfl 1 rfl ?_
    refine x_lld C 2 1 rfl rfl (by omega) (by decide) dS_settle_35 ?_
    refine x_callS C (c_F_ownLength D (kn i) (nu i) v y2 y3) kbS_122 kcS_122 [] [0, 1, 2, 3, 4, 5, 6, 7, 8] [] (tc_wS a ca kn nu wo si de la le ro tm nd) rfl rfl (by decide) (by decide) (by decide) rfl ⟨Nat.le_of_ble_eq_true rfl, Nat.le_of_ble_eq_true rfl⟩ ⟨Nat.le_of_ble_eq_true rfl, Nat.le_of_ble_eq_true rfl⟩ [] rfl rfl (Nat.le_of_ble_eq_true rfl) dS_settle_36 (fun rv ru hw => ?_)
    obtain ⟨rfl, rfl⟩ := hw
    show xk_Go K D 10 0 0 (tc_wS a ca kn nu wo si de la le ro tm nd) [(0, .ref (a 0)), (1, .int (nI i)), (2, .int (nI (kn i))), (3, .int (nI 1)), (4, .int (nI 0)), (5, .int (nI l0))] 39 [.int (nI (tc_ol (kn i) (nu i)))]
    refine x_istore C [(6, .int (nI (tc_ol (kn i) (nu i)))), (0, .ref (a 0)), (1, .int (nI i)), (2, .int (nI (kn i))), (3, .int (nI 1)), (4, .int (nI 0)), (5, .int (nI l0))] dS_settle_39 (by decide) rfl ?_
    refine x_iload_n C dS_settle_41 rfl 3 rfl ?_
    refine x_callS C (c_F_partsOf D (kn i) (by omega)) kbS_69 kcS_69 [] [0, 1, 2, 3, 4, 5, 6, 7, 8] [] (tc_wS a ca kn nu wo si de la le ro tm nd) rfl rfl (by decide) (by decide) (by decide) rfl ⟨Nat.le_of_ble_eq_true rfl, Nat.le_of_ble_eq_true rfl⟩ ⟨Nat.le_of_ble_eq_true rfl, Nat.le_of_ble_eq_true rfl⟩ [] rfl rfl (Nat.le_of_ble_eq_true rfl) dS_settle_42 (fun rv ru hw => ?_)
    obtain ⟨rfl, rfl⟩ := hw
    show xk_Go K D 10 0 0 (tc_wS a ca kn nu wo si de la le ro tm nd) [(6, .int (nI (tc_ol (kn i) (nu i)))), (0, .ref (a 0)), (1, .int (nI i)), (2, .int (nI (kn i))), (3, .int (nI 1)), (4, .int (nI 0)), (5, .int (nI l0))] 45 [.int (nI (tc_tk (kn i)))]
    have jn127 : ∀ (s0 : Nat) (d0 : Nat) (l1 : Nat) (e1 : Nat), (s0 = tc_fs (kn i, nu i, []) ((tc_chs (kn i) i si).map si)) → (d0 + 1 = tc_fd (kn i, nu i, []) ((tc_chs (kn i) i si).map de)) → (l1 = max l0 (((tc_chs (kn i) i si).map la).foldr max 0)) → (e1 = tc_ol (kn i) (nu i) + ((tc_chs (kn i) i si).map le).sum) → (l1 < 2 ^ 31) → xk_Go K D 10 0 0 (tc_wS a ca kn nu wo si de la le ro tm nd) [(0, .ref (a 0)), (1, .int (nI i)), (2, .int (nI (kn i))), (3, .int (nI s0)), (4, .int (nI d0)), (5, .int (nI l1)), (6, .int (nI e1))] 127 [] := by
      intro s0 d0 l1 e1 f1 f2 f3 f4 f5
      refine x_aload_n C dS_settle_127 rfl 0 rfl ?_
      refine x_get C fgS_22 0 rfl rfl dS_settle_128 ?_
      refine x_iload_n C dS_settle_131 rfl 1 rfl ?_
      refine x_iload_n C dS_settle_132 rfl 3 rfl ?_
      refine x_ist C 4 3 (tc_wS a ca kn nu wo (va_up si i s0) de la le ro tm nd) rfl rfl (xk_nA_up si i s0) rfl (by omega) (by decide) dS_settle_133 ?_
      refine x_aload_n C dS_settle_134 rfl 0 rfl ?_
      refine x_get C fgS_25 0 rfl rfl dS_settle_135 ?_
      refine x_iload_n C dS_settle_138 rfl 1 rfl ?_
      refine x_iload C dS_settle_139 4 rfl ?_
      refine x_iconst (v := nI 1) C dS_settle_141 (by decide) ?_
      refine x_iaddN C dS_settle_142 ?_
      refine x_ist C 5 4 (tc_wS a ca kn nu wo (va_up si i s0) (va_up de i (d0 + 1)) la le ro tm nd) rfl rfl (xk_nA_up de i (d0 + 1)) rfl (by omega) (by decide) dS_settle_143 ?_
      refine x_aload_n C dS_settle_144 rfl 0 rfl ?_
      refine x_get C fgS_28 0 rfl rfl dS_settle_145 ?_
      refine x_iload_n C dS_settle_148 rfl 1 rfl ?_
      refine x_iload_n C dS_settle_149 rfl 2 rfl ?_
      refine x_iconst (v := nI 1) C dS_settle_150 (by decide) ?_
      refine x_icmp_neN (tgt := 166) C (by omega) (by decide) dS_settle_151 (by decide) (fun h151 => ?_) (fun h151 => ?_)
      ·
        refine x_iload C dS_settle_166 5 rfl ?_
        refine x_ist C 6 5 (tc_wS a ca kn nu wo (va_up si i s0) (va_up de i (d0 + 1)) (va_up la i l1) le ro tm nd) rfl rfl (xk_nA_up la i l1) rfl (by omega) (by decide) dS_settle_168 ?_
        refine x_aload_n C dS_settle_169 rfl 0 rfl ?_
        refine x_get C fgS_31 0 rfl rfl dS_settle_170 ?_
        refine x_iload_n C dS_settle_173 rfl 1 rfl ?_
        refine x_iload C dS_settle_174 6 rfl ?_
        refine x_ist C 7 6 (tc_wS a ca kn nu wo (va_up si i s0) (va_up de i (d0 + 1)) (va_up la i l1) (va_up le i e1) ro tm nd) rfl rfl (xk_nA_up le i e1) rfl (by omega) (by decide) dS_settle_176 ?_
        exact x_vret C T rfl dS_settle_177 (⟨_, _, _, _, rfl, rfl, f1, (by omega), (tc_se_n e0 f3 h151 (fun q => by rw [tc_chs_0 (by rw [q]; rfl)]; rfl)), f4⟩)
      ·
        refine x_iload C dS_settle_154 5 rfl ?_
        refine x_if_leN (tgt := 166) C (by omega) dS_settle_156 (by decide) (fun h156 => ?_) (fun h156 => ?_)
        ·
          refine x_iload C dS_settle_166 5 rfl ?_
          refine x_ist C 6 5 (tc_wS a ca kn nu wo (va_up si i s0) (va_up de i (d0 + 1)) (va_up la i l1) le ro tm nd) rfl rfl (xk_nA_up la i l1) rfl (by omega) (by decide) dS_settle_168 ?_
          refine x_aload_n C dS_settle_169 rfl 0 rfl ?_
          refine x_get C fgS_31 0 rfl rfl dS_settle_170 ?_
          refine x_iload_n C dS_settle_173 rfl 1 rfl ?_
          refine x_iload C dS_settle_174 6 rfl ?_
          refine x_ist C 7 6 (tc_wS a ca kn nu wo (va_up si i s0) (va_up de i (d0 + 1)) (va_up la i l1) (va_up le i e1) ro tm nd) rfl rfl (xk_nA_up le i e1) rfl (by omega) (by decide) dS_settle_176 ?_
          exact x_vret C T rfl dS_settle_177 (⟨_, _, _, _, rfl, rfl, f1, (by omega), (tc_se_0 e0 f3 h151 h156), f4⟩)
        ·
          refine x_iload C dS_settle_159 5 rfl ?_
          refine x_iconst (v := nI 1) C dS_settle_161 (by decide) ?_
          refine x_isubN C (by omega) dS_settle_162 ?_
          refine x_goto C 168 dS_settle_163 (by decide) ?_
          refine x_ist C 6 5 (tc_wS a ca kn nu wo (va_up si i s0) (va_up de i (d0 + 1)) (va_up la i (l1 - 1)) le ro tm nd) rfl rfl (xk_nA_up la i (l1 - 1)) rfl (by omega) (by decide) dS_settle_168 ?_
          refine x_aload_n C dS_settle_169 rfl 0 rfl ?_
          refine x_get C fgS_31 0 rfl rfl dS_settle_170 ?_
          refine x_iload_n C dS_settle_173 rfl 1 rfl ?_
          refine x_iload C dS_settle_174 6 rfl ?_
          refine x_ist C 7 6 (tc_wS a ca kn nu wo (va_up si i s0) (va_up de i (d0 + 1)) (va_up la i (l1 - 1)) (va_up le i e1) ro tm nd) rfl rfl (xk_nA_up le i e1) rfl (by omega) (by decide) dS_settle_176 ?_
          exact x_vret C T rfl dS_settle_177 (⟨_, _, _, _, rfl, rfl, f1, (by omega), (tc_se_1 e0 f3 h151), f4⟩)
    rcases tc_tk3 (kn i) with hk | hk | hk
    ·
      rw [hk]
      refine x_istore C [(7, .int (nI 0)), (6, .int (nI (tc_ol (kn i) (nu i)))), (0, .ref (a 0)), (1, .int (nI i)), (2, .int (nI (kn i))), (3, .int (nI 1)), (4, .int (nI 0)), (5, .int (nI l0))] dS_settle_45 (by decide) rfl ?_
      refine x_iconst (v := nI 0) C dS_settle_47 (by decide) ?_
      refine x_istore C [(8, .int (nI 0)), (7, .int (nI 0)), (6, .int (nI (tc_ol (kn i) (nu i)))), (0, .ref (a 0)), (1, .int (nI i)), (2, .int (nI (kn i))), (3, .int (nI 1)), (4, .int (nI 0)), (5, .int (nI l0))] dS_settle_48 (by decide) rfl ?_
      refine x_iload C dS_settle_50 0 rfl ?_
      refine x_iload C dS_settle_52 1 rfl ?_
      refine x_icmp_ge (tgt := 127) C dS_settle_54 (by decide) (fun _ => ?_) (fun h => absurd (by decide) h)
      exact x_sub [3, 4, 5, 6, 7, 8, 2] rfl (jn127 1 0 l0 (tc_ol (kn i) (nu i)) (by rw [tc_chs_0 hk]; rfl) (by rw [tc_chs_0 hk]; rfl) (by rw [tc_chs_0 hk]; show _ = max l0 0; omega) (by rw [tc_chs_0 hk]; rfl) (by omega))
    ·
      rw [hk]
      obtain ⟨z1, z2, z3, z4, z5⟩ := y4 (i + 1) (by rw [tc_chs_1 hk]; simp)
      refine x_istore C [(7, .int (nI 1)), (6, .int (nI (tc_ol (kn i) (nu i)))), (0, .ref (a 0)), (1, .int (nI i)), (2, .int (nI (kn i))), (3, .int (nI 1)), (4, .int (nI 0)), (5, .int (nI l0))] dS_settle_45 (by decide) rfl ?_
      refine x_iconst (v := nI 0) C dS_settle_47 (by decide) ?_
      refine x_istore C [(8, .int (nI 0)), (7, .int (nI 1)), (6, .int (nI (tc_ol (kn i) (nu i)))), (0, .ref (a 0)), (1, .int (nI i)), (2, .int (nI (kn i))), (3, .int (nI 1)), (4, .int (nI 0)), (5, .int (nI l0))] dS_settle_48 (by decide) rfl ?_
      refine x_iload C dS_settle_50 0 rfl ?_
      refine x_iload C dS_settle_52 1 rfl ?_
      refine x_icmp_ge (tgt := 127) C dS_settle_54 (by decide) (fun h => absurd h (by decide)) (fun _ => ?_)
      refine x_iload_n C dS_settle_57 rfl 4 rfl ?_
      refine x_iload_n C dS_settle_58 rfl 6 rfl ?_
      refine x_iaddN C dS_settle_59 ?_
      refine x_sipush (v := nI 200) C dS_settle_60 (by decide) ?_
      refine x_icmp_geN (tgt := 127) C (by omega) (by decide) dS_settle_63 (by decide) (fun h63 => ?_) (fun h63 => ?_)
      ·
        exact absurd h63 (by omega)
      ·
        refine x_iload_n C dS_settle_66 rfl 4 rfl ?_
        refine x_iload_n C dS_settle_67 rfl 6 rfl ?_
        refine x_iaddN C dS_settle_68 ?_
        refine x_istore C [(9, .int (nI (i + 1))), (8, .int (nI 0)), (7, .int (nI 1)), (6, .int (nI (tc_ol (kn i) (nu i)))), (0, .ref (a 0)), (1, .int (nI i)), (2, .int (nI (kn i))), (3, .int (nI 1)), (4, .int (nI 0)), (5, .int (nI l0))] dS_settle_69 (by decide) rfl ?_
        refine x_iload C dS_settle_71 8 rfl ?_
        refine x_aload_n C dS_settle_73 rfl 4 rfl ?_
        refine x_get C fgS_25 0 rfl rfl dS_settle_74 ?_
        refine x_iload C dS_settle_77 0 rfl ?_
        refine x_ild C 5 4 rfl rfl (by omega) (by decide) dS_settle_79 ?_
        show xk_Go K D 10 0 0 (tc_wS a ca kn nu wo si de la le ro tm nd) [(9, .int (nI (i + 1))), (8, .int (nI 0)), (7, .int (nI 1)), (6, .int (nI (tc_ol (kn i) (nu i)))), (0, .ref (a 0)), (1, .int (nI i)), (2, .int (nI (kn i))), (3, .int (nI 1)), (4, .int (nI 0)), (5, .int (nI l0))] 80 [.int (nI (de (i + 1))), .int (nI 0)]
        refine x_max C kmS_126 (by omega) (by omega) (by decide) (Nat.le_of_ble_eq_true rfl) (Nat.le_of_ble_eq_true rfl) (Nat.le_of_ble_eq_true rfl) dS_settle_80 ?_
        refine x_istore C [(4, .int (nI (max 0 (de (i + 1))))), (9, .int (nI (i + 1))), (8, .int (nI 0)), (7, .int (nI 1)), (6, .int (nI (tc_ol (kn i) (nu i)))), (0, .ref (a 0)), (1, .int (nI i)), (2, .int (nI (kn i))), (3, .int (nI 1)), (5, .int (nI l0))] dS_settle_83 (by decide) rfl ?_
        refine x_iload C dS_settle_85 9 rfl ?_
        refine x_aload_n C dS_settle_87 rfl 5 rfl ?_
        refine x_get C fgS_28 0 rfl rfl dS_settle_88 ?_
        refine x_iload C dS_settle_91 1 rfl ?_
        refine x_ild C 6 5 rfl rfl (by omega) (by decide) dS_settle_93 ?_
        show xk_Go K D 10 0 0 (tc_wS a ca kn nu wo si de la le ro tm nd) [(4, .int (nI (max 0 (de (i + 1))))), (9, .int (nI (i + 1))), (8, .int (nI 0)), (7, .int (nI 1)), (6, .int (nI (tc_ol (kn i) (nu i)))), (0, .ref (a 0)), (1, .int (nI i)), (2, .int (nI (kn i))), (3, .int (nI 1)), (5, .int (nI l0))] 94 [.int (nI (la (i + 1))), .int (nI l0)]
        refine x_max C kmS_126 (by omega) (by omega) (by decide) (Nat.le_of_ble_eq_true rfl) (Nat.le_of_ble_eq_true rfl) (Nat.le_of_ble_eq_true rfl) dS_settle_94 ?_
        refine x_istore C [(5, .int (nI (max l0 (la (i + 1))))), (4, .int (nI (max 0 (de (i + 1))))), (9, .int (nI (i + 1))), (8, .int (nI 0)), (7, .int (nI 1)), (6, .int (nI (tc_ol (kn i) (nu i)))), (0, .ref (a 0)), (1, .int (nI i)), (2, .int (nI (kn i))), (3, .int (nI 1))] dS_settle_97 (by decide) rfl ?_
        refine x_iload C dS_settle_99 5 rfl ?_
        refine x_aload_n C dS_settle_101 rfl 6 rfl ?_
        refine x_get C fgS_31 0 rfl rfl dS_settle_102 ?_
        refine x_iload C dS_settle_105 2 rfl ?_
        refine x_ild C 7 6 rfl rfl (by omega) (by decide) dS_settle_107 ?_
        show xk_Go K D 10 0 0 (tc_wS a ca kn nu wo si de la le ro tm nd) [(5, .int (nI (max l0 (la (i + 1))))), (4, .int (nI (max 0 (de (i + 1))))), (9, .int (nI (i + 1))), (8, .int (nI 0)), (7, .int (nI 1)), (6, .int (nI (tc_ol (kn i) (nu i)))), (0, .ref (a 0)), (1, .int (nI i)), (2, .int (nI (kn i))), (3, .int (nI 1))] 108 [.int (nI (le (i + 1))), .int (nI (tc_ol (kn i) (nu i)))]
        refine x_iaddN C dS_settle_108 ?_
        refine x_istore C [(6, .int (nI (tc_ol (kn i) (nu i) + (le (i + 1))))), (5, .int (nI (max l0 (la (i + 1))))), (4, .int (nI (max 0 (de (i + 1))))), (9, .int (nI (i + 1))), (8, .int (nI 0)), (7, .int (nI 1)), (0, .ref (a 0)), (1, .int (nI i)), (2, .int (nI (kn i))), (3, .int (nI 1))] dS_settle_109 (by decide) rfl ?_
        refine x_iload_n C dS_settle_111 rfl 9 rfl ?_
        refine x_aload_n C dS_settle_112 rfl 6 rfl ?_
        refine x_get C fgS_22 0 rfl rfl dS_settle_113 ?_
        refine x_iload C dS_settle_116 3 rfl ?_
        refine x_ild C 4 3 rfl rfl (by omega) (by decide) dS_settle_118 ?_
        show xk_Go K D 10 0 0 (tc_wS a ca kn nu wo si de la le ro tm nd) [(6, .int (nI (tc_ol (kn i) (nu i) + (le (i + 1))))), (5, .int (nI (max l0 (la (i + 1))))), (4, .int (nI (max 0 (de (i + 1))))), (9, .int (nI (i + 1))), (8, .int (nI 0)), (7, .int (nI 1)), (0, .ref (a 0)), (1, .int (nI i)), (2, .int (nI (kn i))), (3, .int (nI 1))] 119 [.int (nI (si (i + 1))), .int (nI 1)]
        refine x_iaddN C dS_settle_119 ?_
        refine x_istore_n C [(3, .int (nI (1 + (si (i + 1))))), (6, .int (nI (tc_ol (kn i) (nu i) + (le (i + 1))))), (5, .int (nI (max l0 (la (i + 1))))), (4, .int (nI (max 0 (de (i + 1))))), (9, .int (nI (i + 1))), (8, .int (nI 0)), (7, .int (nI 1)), (0, .ref (a 0)), (1, .int (nI i)), (2, .int (nI (kn i)))] dS_settle_120 rfl (by decide) rfl ?_
        refine x_iinc (q := 5) C (nI 1) [(8, .int (nI 1)), (3, .int (nI (1 + (si (i + 1))))), (6, .int (nI (tc_ol (kn i) (nu i) + (le (i + 1))))), (5, .int (nI (max l0 (la (i + 1))))), (4, .int (nI (max 0 (de (i + 1))))), (9, .int (nI (i + 1))), (7, .int (nI 1)), (0, .ref (a 0)), (1, .int (nI i)), (2, .int (nI (kn i)))] dS_settle_121 rfl (by decide) (by decide) rfl ?_
        refine x_goto C 50 dS_settle_124 (by decide) ?_
        refine x_iload C dS_settle_50 0 rfl ?_
        refine x_iload C dS_settle_52 6 rfl ?_
        refine x_icmp_ge (tgt := 127) C dS_settle_54 (by decide) (fun _ => ?_) (fun h => absurd (by decide) h)
        exact x_sub [7, 8, 9, 1, 4, 3, 2] rfl (jn127 (1 + (si (i + 1))) (max 0 (de (i + 1))) (max l0 (la (i + 1))) (tc_ol (kn i) (nu i) + (le (i + 1))) (by rw [tc_chs_1 hk]; rfl) (by rw [tc_chs_1 hk]; show _ = 1 + max (de (i + 1)) 0; omega) (by rw [tc_chs_1 hk]; show _ = max l0 (max (la (i + 1)) 0); omega) (by rw [tc_chs_1 hk]; rfl) (by omega))
    ·
      rw [hk]
      obtain ⟨z1, z2, z3, z4, z5⟩ := y4 (i + 1) (by rw [tc_chs_2 hk]; simp)
      obtain ⟨w1, w2, w3, w4, w5⟩ := y4 (i + (1 + si (i + 1))) (by rw [tc_chs_2 hk]; simp)
      refine x_istore C [(7, .int (nI 2)), (6, .int (nI (tc_ol (kn i) (nu i)))), (0, .ref (a 0)), (1, .int (nI i)), (2, .int (nI (kn i))), (3, .int (nI 1)), (4, .int (nI 0)), (5, .int (nI l0))] dS_settle_45 (by decide) rfl ?_
      refine x_iconst (v := nI 0) C dS_settle_47 (by decide) ?_
      refine x_istore C [(8, .int (nI 0)), (7, .int (nI 2)), (6, .int (nI (tc_ol (kn i) (nu i)))), (0, .ref (a 0)), (1, .int (nI i)), (2, .int (nI (kn i))), (3, .int (nI 1)), (4, .int (nI 0)), (5, .int (nI l0))] dS_settle_48 (by decide) rfl ?_
      refine x_iload C dS_settle_50 0 rfl ?_
      refine x_iload C dS_settle_52 1 rfl ?_
      refine x_icmp_ge (tgt := 127) C dS_settle_54 (by decide) (fun h => absurd h (by decide)) (fun _ => ?_)
      refine x_iload_n C dS_settle_57 rfl 4 rfl ?_
      refine x_iload_n C dS_settle_58 rfl 6 rfl ?_
      refine x_iaddN C dS_settle_59 ?_
      refine x_sipush (v := nI 200) C dS_settle_60 (by decide) ?_
      refine x_icmp_geN (tgt := 127) C (by omega) (by decide) dS_settle_63 (by decide) (fun h63 => ?_) (fun h63 => ?_)
      ·
        exact absurd h63 (by omega)
      ·
        refine x_iload_n C dS_settle_66 rfl 4 rfl ?_
        refine x_iload_n C dS_settle_67 rfl 6 rfl ?_
        refine x_iaddN C dS_settle_68 ?_
        refine x_istore C [(9, .int (nI (i + 1))), (8, .int (nI 0)), (7, .int (nI 2)), (6, .int (nI (tc_ol (kn i) (nu i)))), (0, .ref (a 0)), (1, .int (nI i)), (2, .int (nI (kn i))), (3, .int (nI 1)), (4, .int (nI 0)), (5, .int (nI l0))] dS_settle_69 (by decide) rfl ?_
        refine x_iload C dS_settle_71 8 rfl ?_
        refine x_aload_n C dS_settle_73 rfl 4 rfl ?_
        refine x_get C fgS_25 0 rfl rfl dS_settle_74 ?_
        refine x_iload C dS_settle_77 0 rfl ?_
        refine x_ild C 5 4 rfl rfl (by omega) (by decide) dS_settle_79 ?_
        show xk_Go K D 10 0 0 (tc_wS a ca kn nu wo si de la le ro tm nd) [(9, .int (nI (i + 1))), (8, .int (nI 0)), (7, .int (nI 2)), (6, .int (nI (tc_ol (kn i) (nu i)))), (0, .ref (a 0)), (1, .int (nI i)), (2, .int (nI (kn i))), (3, .int (nI 1)), (4, .int (nI 0)), (5, .int (nI l0))] 80 [.int (nI (de (i + 1))), .int (nI 0)]
        refine x_max C kmS_126 (by omega) (by omega) (by decide) (Nat.le_of_ble_eq_true rfl) (Nat.le_of_ble_eq_true rfl) (Nat.le_of_ble_eq_true rfl) dS_settle_80 ?_
        refine x_istore C [(4, .int (nI (max 0 (de (i + 1))))), (9, .int (nI (i + 1))), (8, .int (nI 0)), (7, .int (nI 2)), (6, .int (nI (tc_ol (kn i) (nu i)))), (0, .ref (a 0)), (1, .int (nI i)), (2, .int (nI (kn i))), (3, .int (nI 1)), (5, .int (nI l0))] dS_settle_83 (by decide) rfl ?_
        refine x_iload C dS_settle_85 9 rfl ?_
        refine x_aload_n C dS_settle_87 rfl 5 rfl ?_
        refine x_get C fgS_28 0 rfl rfl dS_settle_88 ?_
        refine x_iload C dS_settle_91 1 rfl ?_
        refine x_ild C 6 5 rfl rfl (by omega) (by decide) dS_settle_93 ?_
        show xk_Go K D 10 0 0 (tc_wS a ca kn nu wo si de la le ro tm nd) [(4, .int (nI (max 0 (de (i + 1))))), (9, .int (nI (i + 1))), (8, .int (nI 0)), (7, .int (nI 2)), (6, .int (nI (tc_ol (kn i) (nu i)))), (0, .ref (a 0)), (1, .int (nI i)), (2, .int (nI (kn i))), (3, .int (nI 1)), (5, .int (nI l0))] 94 [.int (nI (la (i + 1))), .int (nI l0)]
        refine x_max C kmS_126 (by omega) (by omega) (by decide) (Nat.le_of_ble_eq_true rfl) (Nat.le_of_ble_eq_true rfl) (Nat.le_of_ble_eq_true rfl) dS_settle_94 ?_
        refine x_istore C [(5, .int (nI (max l0 (la (i + 1))))), (4, .int (nI (max 0 (de (i + 1))))), (9, .int (nI (i + 1))), (8, .int (nI 0)), (7, .int (nI 2)), (6, .int (nI (tc_ol (kn i) (nu i)))), (0, .ref (a 0)), (1, .int (nI i)), (2, .int (nI (kn i))), (3, .int (nI 1))] dS_settle_97 (by decide) rfl ?_
        refine x_iload C dS_settle_99 5 rfl ?_
        refine x_aload_n C dS_settle_101 rfl 6 rfl ?_
        refine x_get C fgS_31 0 rfl rfl dS_settle_102 ?_
        refine x_iload C dS_settle_105 2 rfl ?_
        refine x_ild C 7 6 rfl rfl (by omega) (by decide) dS_settle_107 ?_
        show xk_Go K D 10 0 0 (tc_wS a ca kn nu wo si de la le ro tm nd) [(5, .int (nI (max l0 (la (i + 1))))), (4, .int (nI (max 0 (de (i + 1))))), (9, .int (nI (i + 1))), (8, .int (nI 0)), (7, .int (nI 2)), (6, .int (nI (tc_ol (kn i) (nu i)))), (0, .ref (a 0)), (1, .int (nI i)), (2, .int (nI (kn i))), (3, .int (nI 1))] 108 [.int (nI (le (i + 1))), .int (nI (tc_ol (kn i) (nu i)))]
        refine x_iaddN C dS_settle_108 ?_
        refine x_istore C [(6, .int (nI (tc_ol (kn i) (nu i) + (le (i + 1))))), (5, .int (nI (max l0 (la (i + 1))))), (4, .int (nI (max 0 (de (i + 1))))), (9, .int (nI (i + 1))), (8, .int (nI 0)), (7, .int (nI 2)), (0, .ref (a 0)), (1, .int (nI i)), (2, .int (nI (kn i))), (3, .int (nI 1))] dS_settle_109 (by decide) rfl ?_
        refine x_iload_n C dS_settle_111 rfl 9 rfl ?_
        refine x_aload_n C dS_settle_112 rfl 6 rfl ?_
        refine x_get C fgS_22 0 rfl rfl dS_settle_113 ?_
        refine x_iload C dS_settle_116 3 rfl ?_
        refine x_ild C 4 3 rfl rfl (by omega) (by decide) dS_settle_118 ?_
        show xk_Go K D 10 0 0 (tc_wS a ca kn nu wo si de la le ro tm nd) [(6, .int (nI (tc_ol (kn i) (nu i) + (le (i + 1))))), (5, .int (nI (max l0 (la (i + 1))))), (4, .int (nI (max 0 (de (i + 1))))), (9, .int (nI (i + 1))), (8, .int (nI 0)), (7, .int (nI 2)), (0, .ref (a 0)), (1, .int (nI i)), (2, .int (nI (kn i))), (3, .int (nI 1))] 119 [.int (nI (si (i + 1))), .int (nI 1)]
        refine x_iaddN C dS_settle_119 ?_
        refine x_istore_n C [(3, .int (nI (1 + (si (i + 1))))), (6, .int (nI (tc_ol (kn i) (nu i) + (le (i + 1))))), (5, .int (nI (max l0 (la (i + 1))))), (4, .int (nI (max 0 (de (i + 1))))), (9, .int (nI (i + 1))), (8, .int (nI 0)), (7, .int (nI 2)), (0, .ref (a 0)), (1, .int (nI i)), (2, .int (nI (kn i)))] dS_settle_120 rfl (by decide) rfl ?_
        refine x_iinc (q := 5) C (nI 1) [(8, .int (nI 1)), (3, .int (nI (1 + (si (i + 1))))), (6, .int (nI (tc_ol (kn i) (nu i) + (le (i + 1))))), (5, .int (nI (max l0 (la (i + 1))))), (4, .int (nI (max 0 (de (i + 1))))), (9, .int (nI (i + 1))), (7, .int (nI 2)), (0, .ref (a 0)), (1, .int (nI i)), (2, .int (nI (kn i)))] dS_settle_121 rfl (by decide) (by decide) rfl ?_
        refine x_goto C 50 dS_settle_124 (by decide) ?_
        refine x_iload C dS_settle_50 0 rfl ?_
        refine x_iload C dS_settle_52 6 rfl ?_
        refine x_icmp_ge (tgt := 127) C dS_settle_54 (by decide) (fun h => absurd h (by decide)) (fun _ => ?_)
        refine x_iload_n C dS_settle_57 rfl 8 rfl ?_
        refine x_iload_n C dS_settle_58 rfl 1 rfl ?_
        refine x_iaddN C dS_settle_59 ?_
        refine x_sipush (v := nI 200) C dS_settle_60 (by decide) ?_
        refine x_icmp_geN (tgt := 127) C (by omega) (by decide) dS_settle_63 (by decide) (fun h63 => ?_) (fun h63 => ?_)
        ·
          exact absurd h63 (by omega)
        ·
          refine x_iload_n C dS_settle_66 rfl 8 rfl ?_
          refine x_iload_n C dS_settle_67 rfl 1 rfl ?_
          refine x_iaddN C dS_settle_68 ?_
          refine x_istore C [(9, .int (nI (i + (1 + (si (i + 1)))))), (8, .int (nI 1)), (3, .int (nI (1 + (si (i + 1))))), (6, .int (nI (tc_ol (kn i) (nu i) + (le (i + 1))))), (5, .int (nI (max l0 (la (i + 1))))), (4, .int (nI (max 0 (de (i + 1))))), (7, .int (nI 2)), (0, .ref (a 0)), (1, .int (nI i)), (2, .int (nI (kn i)))] dS_settle_69 (by decide) rfl ?_
          refine x_iload C dS_settle_71 5 rfl ?_
          refine x_aload_n C dS_settle_73 rfl 7 rfl ?_
          refine x_get C fgS_25 0 rfl rfl dS_settle_74 ?_
          refine x_iload C dS_settle_77 0 rfl ?_
          refine x_ild C 5 4 rfl rfl (by omega) (by decide) dS_settle_79 ?_
          show xk_Go K D 10 0 0 (tc_wS a ca kn nu wo si de la le ro tm nd) [(9, .int (nI (i + (1 + (si (i + 1)))))), (8, .int (nI 1)), (3, .int (nI (1 + (si (i + 1))))), (6, .int (nI (tc_ol (kn i) (nu i) + (le (i + 1))))), (5, .int (nI (max l0 (la (i + 1))))), (4, .int (nI (max 0 (de (i + 1))))), (7, .int (nI 2)), (0, .ref (a 0)), (1, .int (nI i)), (2, .int (nI (kn i)))] 80 [.int (nI (de (i + (1 + (si (i + 1)))))), .int (nI (max 0 (de (i + 1))))]
          refine x_max C kmS_126 (by omega) (by omega) (by decide) (Nat.le_of_ble_eq_true rfl) (Nat.le_of_ble_eq_true rfl) (Nat.le_of_ble_eq_true rfl) dS_settle_80 ?_
          refine x_istore C [(4, .int (nI (max (max 0 (de (i + 1))) (de (i + (1 + (si (i + 1)))))))), (9, .int (nI (i + (1 + (si (i + 1)))))), (8, .int (nI 1)), (3, .int (nI (1 + (si (i + 1))))), (6, .int (nI (tc_ol (kn i) (nu i) + (le (i + 1))))), (5, .int (nI (max l0 (la (i + 1))))), (7, .int (nI 2)), (0, .ref (a 0)), (1, .int (nI i)), (2, .int (nI (kn i)))] dS_settle_83 (by decide) rfl ?_
          refine x_iload C dS_settle_85 5 rfl ?_
          refine x_aload_n C dS_settle_87 rfl 7 rfl ?_
          refine x_get C fgS_28 0 rfl rfl dS_settle_88 ?_
          refine x_iload C dS_settle_91 1 rfl ?_
          refine x_ild C 6 5 rfl rfl (by omega) (by decide) dS_settle_93 ?_
          show xk_Go K D 10 0 0 (tc_wS a ca kn nu wo si de la le ro tm nd) [(4, .int (nI (max (max 0 (de (i + 1))) (de (i + (1 + (si (i + 1)))))))), (9, .int (nI (i + (1 + (si (i + 1)))))), (8, .int (nI 1)), (3, .int (nI (1 + (si (i + 1))))), (6, .int (nI (tc_ol (kn i) (nu i) + (le (i + 1))))), (5, .int (nI (max l0 (la (i + 1))))), (7, .int (nI 2)), (0, .ref (a 0)), (1, .int (nI i)), (2, .int (nI (kn i)))] 94 [.int (nI (la (i + (1 + (si (i + 1)))))), .int (nI (max l0 (la (i + 1))))]
          refine x_max C kmS_126 (by omega) (by omega) (by decide) (Nat.le_of_ble_eq_true rfl) (Nat.le_of_ble_eq_true rfl) (Nat.le_of_ble_eq_true rfl) dS_settle_94 ?_
          refine x_istore C [(5, .int (nI (max (max l0 (la (i + 1))) (la (i + (1 + (si (i + 1)))))))), (4, .int (nI (max (max 0 (de (i + 1))) (de (i + (1 + (si (i + 1)))))))), (9, .int (nI (i + (1 + (si (i + 1)))))), (8, .int (nI 1)), (3, .int (nI (1 + (si (i + 1))))), (6, .int (nI (tc_ol (kn i) (nu i) + (le (i + 1))))), (7, .int (nI 2)), (0, .ref (a 0)), (1, .int (nI i)), (2, .int (nI (kn i)))] dS_settle_97 (by decide) rfl ?_
          refine x_iload C dS_settle_99 5 rfl ?_
          refine x_aload_n C dS_settle_101 rfl 7 rfl ?_
          refine x_get C fgS_31 0 rfl rfl dS_settle_102 ?_
          refine x_iload C dS_settle_105 2 rfl ?_
          refine x_ild C 7 6 rfl rfl (by omega) (by decide) dS_settle_107 ?_
          show xk_Go K D 10 0 0 (tc_wS a ca kn nu wo si de la le ro tm nd) [(5, .int (nI (max (max l0 (la (i + 1))) (la (i + (1 + (si (i + 1)))))))), (4, .int (nI (max (max 0 (de (i + 1))) (de (i + (1 + (si (i + 1)))))))), (9, .int (nI (i + (1 + (si (i + 1)))))), (8, .int (nI 1)), (3, .int (nI (1 + (si (i + 1))))), (6, .int (nI (tc_ol (kn i) (nu i) + (le (i + 1))))), (7, .int (nI 2)), (0, .ref (a 0)), (1, .int (nI i)), (2, .int (nI (kn i)))] 108 [.int (nI (le (i + (1 + (si (i + 1)))))), .int (nI (tc_ol (kn i) (nu i) + (le (i + 1))))]
          refine x_iaddN C dS_settle_108 ?_
          refine x_istore C [(6, .int (nI (tc_ol (kn i) (nu i) + (le (i + 1)) + (le (i + (1 + (si (i + 1)))))))), (5, .int (nI (max (max l0 (la (i + 1))) (la (i + (1 + (si (i + 1)))))))), (4, .int (nI (max (max 0 (de (i + 1))) (de (i + (1 + (si (i + 1)))))))), (9, .int (nI (i + (1 + (si (i + 1)))))), (8, .int (nI 1)), (3, .int (nI (1 + (si (i + 1))))), (7, .int (nI 2)), (0, .ref (a 0)), (1, .int (nI i)), (2, .int (nI (kn i)))] dS_settle_109 (by decide) rfl ?_
          refine x_iload_n C dS_settle_111 rfl 5 rfl ?_
          refine x_aload_n C dS_settle_112 rfl 7 rfl ?_
          refine x_get C fgS_22 0 rfl rfl dS_settle_113 ?_
          refine x_iload C dS_settle_116 3 rfl ?_
          refine x_ild C 4 3 rfl rfl (by omega) (by decide) dS_settle_118 ?_
          show xk_Go K D 10 0 0 (tc_wS a ca kn nu wo si de la le ro tm nd) [(6, .int (nI (tc_ol (kn i) (nu i) + (le (i + 1)) + (le (i + (1 + (si (i + 1)))))))), (5, .int (nI (max (max l0 (la (i + 1))) (la (i + (1 + (si (i + 1)))))))), (4, .int (nI (max (max 0 (de (i + 1))) (de (i + (1 + (si (i + 1)))))))), (9, .int (nI (i + (1 + (si (i + 1)))))), (8, .int (nI 1)), (3, .int (nI (1 + (si (i + 1))))), (7, .int (nI 2)), (0, .ref (a 0)), (1, .int (nI i)), (2, .int (nI (kn i)))] 119 [.int (nI (si (i + (1 + (si (i + 1)))))), .int (nI (1 + (si (i + 1))))]
          refine x_iaddN C dS_settle_119 ?_
          refine x_istore_n C [(3, .int (nI (1 + (si (i + 1)) + (si (i + (1 + (si (i + 1)))))))), (6, .int (nI (tc_ol (kn i) (nu i) + (le (i + 1)) + (le (i + (1 + (si (i + 1)))))))), (5, .int (nI (max (max l0 (la (i + 1))) (la (i + (1 + (si (i + 1)))))))), (4, .int (nI (max (max 0 (de (i + 1))) (de (i + (1 + (si (i + 1)))))))), (9, .int (nI (i + (1 + (si (i + 1)))))), (8, .int (nI 1)), (7, .int (nI 2)), (0, .ref (a 0)), (1, .int (nI i)), (2, .int (nI (kn i)))] dS_settle_120 rfl (by decide) rfl ?_
          refine x_iinc (q := 5) C (nI 2) [(8, .int (nI 2)), (3, .int (nI (1 + (si (i + 1)) + (si (i + (1 + (si (i + 1)))))))), (6, .int (nI (tc_ol (kn i) (nu i) + (le (i + 1)) + (le (i + (1 + (si (i + 1)))))))), (5, .int (nI (max (max l0 (la (i + 1))) (la (i + (1 + (si (i + 1)))))))), (4, .int (nI (max (max 0 (de (i + 1))) (de (i + (1 + (si (i + 1)))))))), (9, .int (nI (i + (1 + (si (i + 1)))))), (7, .int (nI 2)), (0, .ref (a 0)), (1, .int (nI i)), (2, .int (nI (kn i)))] dS_settle_121 rfl (by decide) (by decide) rfl ?_
          refine x_goto C 50 dS_settle_124 (by decide) ?_
          refine x_iload C dS_settle_50 0 rfl ?_
          refine x_iload C dS_settle_52 6 rfl ?_
          refine x_icmp_ge (tgt := 127) C dS_settle_54 (by decide) (fun _ => ?_) (fun h => absurd (by decide) h)
          exact x_sub [7, 8, 9, 1, 4, 3, 2] rfl (jn127 (1 + (si (i + 1)) + (si (i + (1 + (si (i + 1)))))) (max (max 0 (de (i + 1))) (de (i + (1 + (si (i + 1)))))) (max (max l0 (la (i + 1))) (la (i + (1 + (si (i + 1)))))) (tc_ol (kn i) (nu i) + (le (i + 1)) + (le (i + (1 + (si (i + 1)))))) (by rw [tc_chs_2 hk]; show _ = 1 + (si (i + 1) + (si (i + (1 + si (i + 1))) + 0)); omega) (by rw [tc_chs_2 hk]; show _ = 1 + max (de (i + 1)) (max (de (i + (1 + si (i + 1)))) 0); omega) (by rw [tc_chs_2 hk]; show _ = max l0 (max (la (i + 1)) (max (la (i + (1 + si (i + 1)))) 0)); omega) (by rw [tc_chs_2 hk]; show _ = tc_ol _ _ + (le (i + 1) + (le (i + (1 + si (i + 1))) + 0)); omega) (by omega))
  refine x_iload_n C dS_settle_12 rfl 2 rfl ?_
  refine x_if_neN (tgt := 26) C (by omega) dS_settle_13 (by decide) (fun h13 => ?_) (fun h13 => ?_)
  ·
    refine x_iconst (v := nI 0) C dS_settle_26 (by decide) ?_
    refine x_istore C [(5, .int (nI 0)), (4, .int (nI 0)), (3, .int (nI 1)), (2, .int (nI (kn i))), (0, .ref (a 0)), (1, .int (nI i))] dS_settle_27 (by decide) rfl ?_
    exact x_sub [4, 5, 3, 2, 1, 0] rfl (jn29 0 (by rw [if_neg h13]) (by omega))
  ·
    refine x_aload_n C dS_settle_16 rfl 3 rfl ?_
    refine x_get C fgS_15 0 rfl rfl dS_settle_17 ?_
    refine x_iload_n C dS_settle_20 rfl 4 rfl ?_
    refine x_lld C 2 1 rfl rfl (by omega) (by decide) dS_settle_21 ?_
    refine x_l2i (v := nI v) C dS_settle_22 (by rw [(y3 (Or.inl h13)).1]; exact lN_i v) ?_
    refine x_goto C 27 dS_settle_23 (by decide) ?_
    refine x_istore C [(5, .int (nI v)), (4, .int (nI 0)), (3, .int (nI 1)), (2, .int (nI (kn i))), (0, .ref (a 0)), (1, .int (nI i))] dS_settle_27 (by decide) rfl ?_
    exact x_sub [4, 5, 3, 2, 1, 0] rfl (jn29 v (by rw [if_pos h13, (y3 (Or.inl h13)).1, pk_lT (by have := (y3 (Or.inl h13)).2; omega), Int.toNat_natCast]) ((y3 (Or.inl h13)).2))
