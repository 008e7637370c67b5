set_option maxHeartbeats 4000000 in
set_option maxRecDepth 100000 in
/-- layNode -/
theorem c_M_layNode (D : va_G) (mm : Nat → Nat) (cmm : Nat → ClassId) (th : Nat) (iu : Nat → Bool) (ki : Nat → Nat) (mu : Nat → Int64) (fs : Nat → Option Nat) (ss : Nat → Option Nat) (tx : Nat → Nat) (us : Nat) (te : Nat → Nat) (my : Nat) (mo : Nat → Nat) (mz : Nat) (mi : Nat → Nat) (iz : Nat) (ma : Nat) (mf : Nat) (mp : Option Nat) (od : Nat → Nat) (ar : Nat → Option Nat) (lw : Nat → Nat) (oc : Nat) (sk : Nat → Nat) (sa : Nat → Option Nat) (sl : Nat → Nat) (pp : Nat) (re : Nat → Nat) (rd : Nat) (co : Nat → Nat) (dq : Nat → Nat) (bo : Nat → Nat) (lc : Nat → Nat) (i : Nat) (y1 : i < 200) (y2 : tc_okn (tc_mn ki mu tx i)) (y3 : mz + (tc_nb (tc_mn ki mu tx i)).length ≤ 4096) : xk_Ct yM_layNode cM_layNode 6 none { frames := 1, cells := 0, slots := 0, locals := 22 } D (tc_tM cmm) [.ref (mm 0), .int (nI i)] (tc_wM mm cmm th iu ki mu fs ss tx us te my mo mz mi iz ma mf mp od ar lw oc sk sa sl pp re rd co dq bo lc) (fun rv ru => (∃ (mog : Nat → Nat), rv = none ∧ ru = tc_wM mm cmm th iu ki mu fs ss tx us te my mog (mz + (tc_nb (tc_mn ki mu tx i)).length) mi iz ma mf mp od ar lw oc sk sa sl pp re rd co dq bo lc ∧ (tc_apd mo mz mog (tc_nb (tc_mn ki mu tx i))))) := by
  refine xk_enter (by decide) (Nat.le_of_ble_eq_true rfl) (fun K C T hin => ?_)
  have y11 : ki i ≤ 11 := y2.1
  have ynb : tc_nb (tc_mn ki mu tx i) = (ki i :: tc_mid (tc_mn ki mu tx i)) ++ (tc_mn ki mu tx i).2.2 := rfl
  have ynl : (tc_nb (tc_mn ki mu tx i)).length = 1 + (tc_mid (tc_mn ki mu tx i)).length + (tc_mn ki mu tx i).2.2.length := by rw [ynb, List.length_append, List.length_cons]; omega
  show xk_Go K D 6 0 0 (tc_wM mm cmm th iu ki mu fs ss tx us te my mo mz mi iz ma mf mp od ar lw oc sk sa sl pp re rd co dq bo lc) [(0, .ref (mm 0)), (1, .int (nI i))] 0 []
  refine x_aload_n C dM_layNode_0 rfl 0 rfl ?_
  refine x_get C fgM_13 0 rfl rfl dM_layNode_1 ?_
  refine x_iload_n C dM_layNode_4 rfl 1 rfl ?_
  refine x_ild C 2 1 rfl rfl (by omega) (by decide) dM_layNode_5 ?_
  show xk_Go K D 6 0 0 (tc_wM mm cmm th iu ki mu fs ss tx us te my mo mz mi iz ma mf mp od ar lw oc sk sa sl pp re rd co dq bo lc) [(0, .ref (mm 0)), (1, .int (nI i))] 6 [.int (nI (ki i))]
  refine x_istore_n C [(2, .int (nI (ki i))), (0, .ref (mm 0)), (1, .int (nI i))] dM_layNode_6 rfl (by decide) rfl ?_
  refine x_aload_n C dM_layNode_7 rfl 1 rfl ?_
  refine x_get C fgM_17 0 rfl rfl dM_layNode_8 ?_
  refine x_iload_n C dM_layNode_11 rfl 2 rfl ?_
  refine x_lld C 3 2 rfl rfl (by omega) (by decide) dM_layNode_12 ?_
  refine x_lstore_n C [(3, .long (mu i)), (2, .int (nI (ki i))), (0, .ref (mm 0)), (1, .int (nI i))] dM_layNode_13 rfl (by decide) rfl ?_
  refine x_aload_n C dM_layNode_14 rfl 2 rfl ?_
  refine x_iload_n C dM_layNode_15 rfl 1 rfl ?_
  refine x_i2l (v := lN (ki i)) C dM_layNode_16 (nI_l (by omega)) ?_
  refine x_callV C (c_M_lay D mm cmm th iu ki mu fs ss tx us te my mo mz mi iz ma mf mp od ar lw oc sk sa sl pp re rd co dq bo lc (lN (ki i)) (by omega)) kbM_149 kcM_149 [0, 1, 2, 3, 4, 5, 6, 7, 8, 9, 10, 11, 12, 13, 14, 15, 16, 17, 18, 19, 20] [] [0, 1, 2, 3, 4, 5, 6, 7, 8, 9, 10, 11, 12, 13, 14, 15, 16, 17, 18, 19] ([]) rfl rfl (by decide) (by decide) (by decide) rfl 0 rfl rfl ⟨Nat.le_of_ble_eq_true rfl, Nat.le_of_ble_eq_true rfl⟩ ⟨Nat.le_of_ble_eq_true rfl, Nat.le_of_ble_eq_true rfl⟩ [] rfl rfl (Nat.le_of_ble_eq_true rfl) dM_layNode_17 (fun rv ru hw => ?_)
  obtain ⟨rfl, rfl⟩ := hw
  show xk_Go K D 6 0 0 (tc_wM mm cmm th iu ki mu fs ss tx us te my (va_up mo mz (uN (lN (ki i)) % 256)) (mz + 1) mi iz ma mf mp od ar lw oc sk sa sl pp re rd co dq bo lc) [(3, .long (mu i)), (2, .int (nI (ki i))), (0, .ref (mm 0)), (1, .int (nI i))] 20 []
  have jn140 : ∀ (mog : Nat → Nat) (mzg : Nat) (vv : Int64), (tc_apd mo mz mog (ki i :: tc_mid (tc_mn ki mu tx i))) → (mzg = mz + 1 + (tc_mid (tc_mn ki mu tx i)).length) → (ki i = 8 → vv = mu i) → xk_Go K D 6 0 0 (tc_wM mm cmm th iu ki mu fs ss tx us te my mog mzg mi iz ma mf mp od ar lw oc sk sa sl pp re rd co dq bo lc) [(0, .ref (mm 0)), (1, .int (nI i)), (2, .int (nI (ki i))), (3, .long vv)] 140 [] := by
    intro mog mzg vv j1 j2 j3
    refine x_iconst (v := nI 0) C dM_layNode_140 (by decide) ?_
    by_cases h8 : ki i = 8
    ·
      obtain ⟨c, hc1, hc2, hc3, hc4⟩ := tc_mn_cnt y2 h8
      rw [j3 h8, hc1]
      show xk_Go K D 6 0 0 (tc_wM mm cmm th iu ki mu fs ss tx us te my mog mzg mi iz ma mf mp od ar lw oc sk sa sl pp re rd co dq bo lc) [(0, .ref (mm 0)), (1, .int (nI i)), (2, .int (nI (ki i))), (3, .long (lN c))] 141 [.int (nI 0)]
      refine x_istore C [(5, .int (nI 0)), (0, .ref (mm 0)), (1, .int (nI i)), (2, .int (nI (ki i))), (3, .long (lN c))] dM_layNode_141 (by decide) rfl ?_
      have lp143 : ∀ (zc : Nat) (j : Nat) (moh : Nat → Nat), (c - j) < zc → (j ≤ c) → (tc_apd mo mz moh ((ki i :: tc_mid (tc_mn ki mu tx i)) ++ (tc_mn ki mu tx i).2.2.take j)) → xk_Go K D 6 0 0 (tc_wM mm cmm th iu ki mu fs ss tx us te my moh (mzg + j) mi iz ma mf mp od ar lw oc sk sa sl pp re rd co dq bo lc) [(0, .ref (mm 0)), (1, .int (nI i)), (2, .int (nI (ki i))), (3, .long (lN c)), (5, .int (nI j))] 143 [] := by
        intro zc
        induction zc with
        | zero => intro j moh hm; exact absurd hm (Nat.not_lt_zero _)
        | succ zc ih143 =>
          intro j moh hm e1 e2
          refine x_iload C dM_layNode_143 4 rfl ?_
          refine x_i2l (v := lN j) C dM_layNode_145 (nI_l (by omega)) ?_
          refine x_lload_n C dM_layNode_146 rfl 3 rfl ?_
          refine x_lcmp C dM_layNode_147 ?_
          refine x_if_geC (tgt := 180) C dM_layNode_148 (by decide) (fun h148 => ?_) (fun h148 => ?_)
          ·
            have hjc : j = c := Nat.le_antisymm e1 ((pk_lLE (a := c) (b := j) (by omega) (by omega)).mp h148)
            exact x_vret C T rfl dM_layNode_180 (⟨moh, rfl, by rw [show mz + (tc_nb (tc_mn ki mu tx i)).length = mzg + j by omega], (by rw [ynb, ← List.take_of_length_le (l := (tc_mn ki mu tx i).2.2) (i := j) (by omega)]; exact e2)⟩)
          ·
            have hjc : j < c := Nat.not_le.mp (fun q => h148 ((pk_lLE (by omega) (by omega)).mpr q))
            refine x_iload_n C dM_layNode_151 rfl 2 rfl ?_
            refine x_bipush (v := nI 8) C dM_layNode_152 (by decide) ?_
            refine x_icmp_neN (tgt := 180) C (by omega) (by decide) dM_layNode_154 (by decide) (fun h154 => ?_) (fun h154 => ?_)
            ·
              exact absurd h8 h154
            ·
              refine x_aload_n C dM_layNode_157 rfl 0 rfl ?_
              refine x_aload_n C dM_layNode_158 rfl 0 rfl ?_
              refine x_get C fgM_27 0 rfl rfl dM_layNode_159 ?_
              refine x_bipush (v := nI 64) C dM_layNode_162 (by decide) ?_
              refine x_iload_n C dM_layNode_164 rfl 1 rfl ?_
              refine x_imulN C dM_layNode_165 ?_
              refine x_iload C dM_layNode_166 4 rfl ?_
              refine x_iaddN C dM_layNode_168 ?_
              refine x_bld C 6 5 rfl rfl (by omega) (by decide) dM_layNode_169 ?_
              show xk_Go K D 6 0 0 (tc_wM mm cmm th iu ki mu fs ss tx us te my moh (mzg + j) mi iz ma mf mp od ar lw oc sk sa sl pp re rd co dq bo lc) [(0, .ref (mm 0)), (1, .int (nI i)), (2, .int (nI (ki i))), (3, .long (lN c)), (5, .int (nI j))] 170 [.int (xk_sb (tx (64 * i + j))), .ref (mm 0)]
              refine x_i2l (v := Int32.toInt64 (xk_sb (tx (64 * i + j)))) C dM_layNode_170 rfl ?_
              refine x_callV C (c_M_lay D mm cmm th iu ki mu fs ss tx us te my moh (mzg + j) mi iz ma mf mp od ar lw oc sk sa sl pp re rd co dq bo lc (Int32.toInt64 (xk_sb (tx (64 * i + j)))) (by omega)) kbM_149 kcM_149 [0, 1, 2, 3, 4, 5, 6, 7, 8, 9, 10, 11, 12, 13, 14, 15, 16, 17, 18, 19, 20] [] [0, 1, 2, 3, 4, 5, 6, 7, 8, 9, 10, 11, 12, 13, 14, 15, 16, 17, 18, 19] ([]) rfl rfl (by decide) (by decide) (by decide) rfl 0 rfl rfl ⟨Nat.le_of_ble_eq_true rfl, Nat.le_of_ble_eq_true rfl⟩ ⟨Nat.le_of_ble_eq_true rfl, Nat.le_of_ble_eq_true rfl⟩ [] rfl rfl (Nat.le_of_ble_eq_true rfl) dM_layNode_171 (fun rv ru hw => ?_)
              obtain ⟨rfl, rfl⟩ := hw
              show xk_Go K D 6 0 0 (tc_wM mm cmm th iu ki mu fs ss tx us te my (va_up moh (mzg + j) (uN (Int32.toInt64 (xk_sb (tx (64 * i + j)))) % 256)) ((mzg + j) + 1) mi iz ma mf mp od ar lw oc sk sa sl pp re rd co dq bo lc) [(0, .ref (mm 0)), (1, .int (nI i)), (2, .int (nI (ki i))), (3, .long (lN c)), (5, .int (nI j))] 174 []
              refine x_iinc (q := 4) C (nI (j + 1)) [(5, .int (nI (j + 1))), (0, .ref (mm 0)), (1, .int (nI i)), (2, .int (nI (ki i))), (3, .long (lN c))] dM_layNode_174 rfl (nI_add j 1) (by decide) rfl ?_
              refine x_goto C 143 dM_layNode_177 (by decide) ?_
              exact x_sub [1, 2, 3, 4, 0] rfl (ih143 (j + 1) (va_up moh (mzg + j) (uN (Int32.toInt64 (xk_sb (tx (64 * i + j)))) % 256)) (by omega) (by omega) (by rw [tc_take1 (tc_mn_byte (ki := ki) (mu := mu) (tx := tx) h8 hc3 hjc), ← List.append_assoc]; exact tc_apd_1 e2 (by rw [List.length_append, List.length_cons, List.length_take]; omega) (tc_sb_u _)))
      exact x_sub [1, 2, 3, 4, 0] rfl (lp143 _ 0 mog (Nat.lt_succ_self _) (Nat.zero_le _) (by rw [List.take_zero, List.append_nil]; exact j1))
    ·
      have hb0 : (tc_mn ki mu tx i).2.2 = [] := y2.2.2.2.1 h8
      refine x_istore C [(5, .int (nI 0)), (0, .ref (mm 0)), (1, .int (nI i)), (2, .int (nI (ki i))), (3, .long vv)] dM_layNode_141 (by decide) rfl ?_
      refine x_iload C dM_layNode_143 0 rfl ?_
      refine x_i2l (v := 0) C dM_layNode_145 (by decide) ?_
      refine x_lload_n C dM_layNode_146 rfl 4 rfl ?_
      refine x_lcmp C dM_layNode_147 ?_
      refine x_if_geC (tgt := 180) C dM_layNode_148 (by decide) (fun h148 => ?_) (fun h148 => ?_)
      ·
        exact x_vret C T rfl dM_layNode_180 (⟨mog, rfl, by rw [show mz + (tc_nb (tc_mn ki mu tx i)).length = mzg by rw [ynl, hb0, j2]; show mz + (1 + _ + 0) = _; omega], (by rw [ynb, hb0, List.append_nil]; exact j1)⟩)
      ·
        refine x_iload_n C dM_layNode_151 rfl 3 rfl ?_
        refine x_bipush (v := nI 8) C dM_layNode_152 (by decide) ?_
        refine x_icmp_neN (tgt := 180) C (by omega) (by decide) dM_layNode_154 (by decide) (fun h154 => ?_) (fun h154 => ?_)
        ·
          exact x_vret C T rfl dM_layNode_180 (⟨mog, rfl, by rw [show mz + (tc_nb (tc_mn ki mu tx i)).length = mzg by rw [ynl, hb0, j2]; show mz + (1 + _ + 0) = _; omega], (by rw [ynb, hb0, List.append_nil]; exact j1)⟩)
        ·
          exact absurd h154 h8
  refine x_iload_n C dM_layNode_20 rfl 1 rfl ?_
  refine x_if_neN (tgt := 62) C (by omega) dM_layNode_21 (by decide) (fun h21 => ?_) (fun h21 => ?_)
  ·
    refine x_iload_n C dM_layNode_62 rfl 1 rfl ?_
    refine x_bipush (v := nI 7) C dM_layNode_63 (by decide) ?_
    refine x_icmp_neN (tgt := 117) C (by omega) (by decide) dM_layNode_65 (by decide) (fun h65 => ?_) (fun h65 => ?_)
    ·
      refine x_iload_n C dM_layNode_117 rfl 1 rfl ?_
      refine x_bipush (v := nI 6) C dM_layNode_118 (by decide) ?_
      refine x_icmp_eqN (tgt := 135) C (by omega) (by decide) dM_layNode_120 (by decide) (fun h120 => ?_) (fun h120 => ?_)
      ·
        refine x_aload_n C dM_layNode_135 rfl 2 rfl ?_
        refine x_lload_n C dM_layNode_136 rfl 0 rfl ?_
        have h689 : ki i = 6 ∨ ki i = 9 ∨ ki i = 8 := by omega
        obtain ⟨v, hv, hv2⟩ := tc_okn_lN y2 (Or.inr h689)
        have hmid := tc_mid_6 (x := tc_mn ki mu tx i) h689 hv hv2
        refine x_callV C (c_M_lay D mm cmm th iu ki mu fs ss tx us te my (va_up mo mz (uN (lN (ki i)) % 256)) (mz + 1) mi iz ma mf mp od ar lw oc sk sa sl pp re rd co dq bo lc (mu i) (by rw [hmid] at ynl; simp only [List.length_cons, List.length_nil] at ynl; omega)) kbM_149 kcM_149 [0, 1, 2, 3, 4, 5, 6, 7, 8, 9, 10, 11, 12, 13, 14, 15, 16, 17, 18, 19, 20] [] [0, 1, 2, 3, 4, 5, 6, 7, 8, 9, 10, 11, 12, 13, 14, 15, 16, 17, 18, 19] ([]) rfl rfl (by decide) (by decide) (by decide) rfl 0 rfl rfl ⟨Nat.le_of_ble_eq_true rfl, Nat.le_of_ble_eq_true rfl⟩ ⟨Nat.le_of_ble_eq_true rfl, Nat.le_of_ble_eq_true rfl⟩ [] rfl rfl (Nat.le_of_ble_eq_true rfl) dM_layNode_137 (fun rv ru hw => ?_)
        obtain ⟨rfl, rfl⟩ := hw
        show xk_Go K D 6 0 0 (tc_wM mm cmm th iu ki mu fs ss tx us te my (va_up (va_up mo mz (uN (lN (ki i)) % 256)) (mz + 1) (uN (mu i) % 256)) ((mz + 1) + 1) mi iz ma mf mp od ar lw oc sk sa sl pp re rd co dq bo lc) [(3, .long (mu i)), (2, .int (nI (ki i))), (0, .ref (mm 0)), (1, .int (nI i))] 140 []
        exact x_sub [2, 3, 1, 0] rfl (jn140 (va_up (va_up mo mz (uN (lN (ki i)) % 256)) (mz + 1) (uN (mu i) % 256)) ((mz + 1) + 1) (mu i) (by rw [hmid]; exact tc_apd_c (tc_apd_c (tc_apd_0 mo mz) rfl rfl (show ki i < 256 by omega)) rfl hv (by omega)) (by rw [hmid]; rfl) (fun _ => rfl))
      ·
        refine x_iload_n C dM_layNode_123 rfl 1 rfl ?_
        refine x_bipush (v := nI 9) C dM_layNode_124 (by decide) ?_
        refine x_icmp_eqN (tgt := 135) C (by omega) (by decide) dM_layNode_126 (by decide) (fun h126 => ?_) (fun h126 => ?_)
        ·
          refine x_aload_n C dM_layNode_135 rfl 2 rfl ?_
          refine x_lload_n C dM_layNode_136 rfl 0 rfl ?_
          have h689 : ki i = 6 ∨ ki i = 9 ∨ ki i = 8 := by omega
          obtain ⟨v, hv, hv2⟩ := tc_okn_lN y2 (Or.inr h689)
          have hmid := tc_mid_6 (x := tc_mn ki mu tx i) h689 hv hv2
          refine x_callV C (c_M_lay D mm cmm th iu ki mu fs ss tx us te my (va_up mo mz (uN (lN (ki i)) % 256)) (mz + 1) mi iz ma mf mp od ar lw oc sk sa sl pp re rd co dq bo lc (mu i) (by rw [hmid] at ynl; simp only [List.length_cons, List.length_nil] at ynl; omega)) kbM_149 kcM_149 [0, 1, 2, 3, 4, 5, 6, 7, 8, 9, 10, 11, 12, 13, 14, 15, 16, 17, 18, 19, 20] [] [0, 1, 2, 3, 4, 5, 6, 7, 8, 9, 10, 11, 12, 13, 14, 15, 16, 17, 18, 19] ([]) rfl rfl (by decide) (by decide) (by decide) rfl 0 rfl rfl ⟨Nat.le_of_ble_eq_true rfl, Nat.le_of_ble_eq_true rfl⟩ ⟨Nat.le_of_ble_eq_true rfl, Nat.le_of_ble_eq_true rfl⟩ [] rfl rfl (Nat.le_of_ble_eq_true rfl) dM_layNode_137 (fun rv ru hw => ?_)
          obtain ⟨rfl, rfl⟩ := hw
          show xk_Go K D 6 0 0 (tc_wM mm cmm th iu ki mu fs ss tx us te my (va_up (va_up mo mz (uN (lN (ki i)) % 256)) (mz + 1) (uN (mu i) % 256)) ((mz + 1) + 1) mi iz ma mf mp od ar lw oc sk sa sl pp re rd co dq bo lc) [(3, .long (mu i)), (2, .int (nI (ki i))), (0, .ref (mm 0)), (1, .int (nI i))] 140 []
          exact x_sub [2, 3, 1, 0] rfl (jn140 (va_up (va_up mo mz (uN (lN (ki i)) % 256)) (mz + 1) (uN (mu i) % 256)) ((mz + 1) + 1) (mu i) (by rw [hmid]; exact tc_apd_c (tc_apd_c (tc_apd_0 mo mz) rfl rfl (show ki i < 256 by omega)) rfl hv (by omega)) (by rw [hmid]; rfl) (fun _ => rfl))
        ·
          refine x_iload_n C dM_layNode_129 rfl 1 rfl ?_
          refine x_bipush (v := nI 8) C dM_layNode_130 (by decide) ?_
          refine x_icmp_neN (tgt := 140) C (by omega) (by decide) dM_layNode_132 (by decide) (fun h132 => ?_) (fun h132 => ?_)
          ·
            exact x_sub [2, 3, 1, 0] rfl (jn140 (va_up mo mz (uN (lN (ki i)) % 256)) (mz + 1) (mu i) (by rw [tc_mid_none (x := (tc_mn ki mu tx i)) h21 h65 h120 h126 h132]; exact (tc_apd_c (tc_apd_0 mo mz) rfl rfl (show ki i < 256 by omega))) (by rw [tc_mid_none (x := (tc_mn ki mu tx i)) h21 h65 h120 h126 h132]; rfl) (fun z => absurd z h132))
          ·
            refine x_aload_n C dM_layNode_135 rfl 2 rfl ?_
            refine x_lload_n C dM_layNode_136 rfl 0 rfl ?_
            have h689 : ki i = 6 ∨ ki i = 9 ∨ ki i = 8 := by omega
            obtain ⟨v, hv, hv2⟩ := tc_okn_lN y2 (Or.inr h689)
            have hmid := tc_mid_6 (x := tc_mn ki mu tx i) h689 hv hv2
            refine x_callV C (c_M_lay D mm cmm th iu ki mu fs ss tx us te my (va_up mo mz (uN (lN (ki i)) % 256)) (mz + 1) mi iz ma mf mp od ar lw oc sk sa sl pp re rd co dq bo lc (mu i) (by rw [hmid] at ynl; simp only [List.length_cons, List.length_nil] at ynl; omega)) kbM_149 kcM_149 [0, 1, 2, 3, 4, 5, 6, 7, 8, 9, 10, 11, 12, 13, 14, 15, 16, 17, 18, 19, 20] [] [0, 1, 2, 3, 4, 5, 6, 7, 8, 9, 10, 11, 12, 13, 14, 15, 16, 17, 18, 19] ([]) rfl rfl (by decide) (by decide) (by decide) rfl 0 rfl rfl ⟨Nat.le_of_ble_eq_true rfl, Nat.le_of_ble_eq_true rfl⟩ ⟨Nat.le_of_ble_eq_true rfl, Nat.le_of_ble_eq_true rfl⟩ [] rfl rfl (Nat.le_of_ble_eq_true rfl) dM_layNode_137 (fun rv ru hw => ?_)
            obtain ⟨rfl, rfl⟩ := hw
            show xk_Go K D 6 0 0 (tc_wM mm cmm th iu ki mu fs ss tx us te my (va_up (va_up mo mz (uN (lN (ki i)) % 256)) (mz + 1) (uN (mu i) % 256)) ((mz + 1) + 1) mi iz ma mf mp od ar lw oc sk sa sl pp re rd co dq bo lc) [(3, .long (mu i)), (2, .int (nI (ki i))), (0, .ref (mm 0)), (1, .int (nI i))] 140 []
            exact x_sub [2, 3, 1, 0] rfl (jn140 (va_up (va_up mo mz (uN (lN (ki i)) % 256)) (mz + 1) (uN (mu i) % 256)) ((mz + 1) + 1) (mu i) (by rw [hmid]; exact tc_apd_c (tc_apd_c (tc_apd_0 mo mz) rfl rfl (show ki i < 256 by omega)) rfl hv (by omega)) (by rw [hmid]; rfl) (fun _ => rfl))
    ·
      have lp68 : ∀ (zc : Nat) (q : Nat) (y : Int64) (mog : Nat → Nat), (10 - q) < zc → (q ≤ 9) → (y.toInt = (mu i).toInt / ((2 ^ (7 * q) : Nat) : Int)) → (q < tc_gS (mu i).toInt) → (tc_apd mo mz mog ([ki i] ++ (tc_grs (mu i) (tc_gS (mu i).toInt)).take q)) → xk_Go K D 6 0 0 (tc_wM mm cmm th iu ki mu fs ss tx us te my mog (mz + 1 + q) mi iz ma mf mp od ar lw oc sk sa sl pp re rd co dq bo lc) [(0, .ref (mm 0)), (1, .int (nI i)), (2, .int (nI (ki i))), (3, .long y)] 68 [] := by
        intro zc
        induction zc with
        | zero => intro q y mog hm; exact absurd hm (Nat.not_lt_zero _)
        | succ zc ih68 =>
          intro q y mog hm e1 e2 e3 e4
          have etl : ((tc_grs (mu i) (tc_gS (mu i).toInt)).take q).length = q := by rw [List.length_take, tc_grs_len]; omega
          refine x_lload_n C dM_layNode_68 rfl 3 rfl ?_
          refine x_ldc2 (v := (-64)) C dM_layNode_69 klM_132 ?_
          refine x_lcmp C dM_layNode_72 ?_
          refine x_if_ltC (tgt := 84) C dM_layNode_73 (by decide) (fun h73 => ?_) (fun h73 => ?_)
          ·
            refine x_aload_n C dM_layNode_84 rfl 0 rfl ?_
            refine x_lload_n C dM_layNode_85 rfl 3 rfl ?_
            refine x_ldc2 (v := 127) C dM_layNode_86 klM_128 ?_
            refine x_land C dM_layNode_89 ?_
            refine x_ldc2 (v := 128) C dM_layNode_90 klM_130 ?_
            refine x_lor C dM_layNode_93 ?_
            refine x_callV C (c_M_lay D mm cmm th iu ki mu fs ss tx us te my mog (mz + 1 + q) mi iz ma mf mp od ar lw oc sk sa sl pp re rd co dq bo lc ((y &&& 127) ||| 128) (by rw [tc_mid_7 (x := tc_mn ki mu tx i) h65, tc_grs_len] at ynl; have e3 : q < tc_gS (tc_mn ki mu tx i).2.1.toInt := e3; omega)) kbM_149 kcM_149 [0, 1, 2, 3, 4, 5, 6, 7, 8, 9, 10, 11, 12, 13, 14, 15, 16, 17, 18, 19, 20] [] [0, 1, 2, 3, 4, 5, 6, 7, 8, 9, 10, 11, 12, 13, 14, 15, 16, 17, 18, 19] ([]) rfl rfl (by decide) (by decide) (by decide) rfl 0 rfl rfl ⟨Nat.le_of_ble_eq_true rfl, Nat.le_of_ble_eq_true rfl⟩ ⟨Nat.le_of_ble_eq_true rfl, Nat.le_of_ble_eq_true rfl⟩ [] rfl rfl (Nat.le_of_ble_eq_true rfl) dM_layNode_94 (fun rv ru hw => ?_)
            obtain ⟨rfl, rfl⟩ := hw
            show xk_Go K D 6 0 0 (tc_wM mm cmm th iu ki mu fs ss tx us te my (va_up mog (mz + 1 + q) (uN ((y &&& 127) ||| 128) % 256)) ((mz + 1 + q) + 1) mi iz ma mf mp od ar lw oc sk sa sl pp re rd co dq bo lc) [(0, .ref (mm 0)), (1, .int (nI i)), (2, .int (nI (ki i))), (3, .long y)] 97 []
            refine x_lload_n C dM_layNode_97 rfl 3 rfl ?_
            refine x_bipush (v := nI 7) C dM_layNode_98 (by decide) ?_
            refine x_lshr (v := y >>> ((nI 7).toInt64 &&& 63)) C dM_layNode_100 rfl ?_
            refine x_lstore_n C [(3, .long (y >>> ((nI 7).toInt64 &&& 63))), (0, .ref (mm 0)), (1, .int (nI i)), (2, .int (nI (ki i)))] dM_layNode_101 rfl (by decide) rfl ?_
            refine x_goto C 68 dM_layNode_102 (by decide) ?_
            have hin := tc_gS_in e1 e2 e3 (Or.inl h73)
            exact x_sub [1, 2, 3, 0] rfl (ih68 (q + 1) (y >>> ((nI 7).toInt64 &&& 63)) (va_up mog (mz + 1 + q) (uN ((y &&& 127) ||| 128) % 256)) (by omega) hin.2 (tc_sar7 e2) hin.1 (by rw [tc_grs_take hin.1, ← List.append_assoc]; exact tc_apd_1 e4 (by rw [List.length_append, etl, List.length_singleton]; omega) (tc_lay7m e2)))
          ·
            refine x_lload_n C dM_layNode_76 rfl 3 rfl ?_
            refine x_ldc2 (v := 63) C dM_layNode_77 klM_134 ?_
            refine x_lcmp C dM_layNode_80 ?_
            refine x_if_leC (tgt := 105) C dM_layNode_81 (by decide) (fun h81 => ?_) (fun h81 => ?_)
            ·
              refine x_aload_n C dM_layNode_105 rfl 0 rfl ?_
              refine x_lload_n C dM_layNode_106 rfl 3 rfl ?_
              refine x_ldc2 (v := 127) C dM_layNode_107 klM_128 ?_
              refine x_land C dM_layNode_110 ?_
              refine x_callV C (c_M_lay D mm cmm th iu ki mu fs ss tx us te my mog (mz + 1 + q) mi iz ma mf mp od ar lw oc sk sa sl pp re rd co dq bo lc (y &&& 127) (by rw [tc_mid_7 (x := tc_mn ki mu tx i) h65, tc_grs_len] at ynl; have e3 : q < tc_gS (tc_mn ki mu tx i).2.1.toInt := e3; omega)) kbM_149 kcM_149 [0, 1, 2, 3, 4, 5, 6, 7, 8, 9, 10, 11, 12, 13, 14, 15, 16, 17, 18, 19, 20] [] [0, 1, 2, 3, 4, 5, 6, 7, 8, 9, 10, 11, 12, 13, 14, 15, 16, 17, 18, 19] ([]) rfl rfl (by decide) (by decide) (by decide) rfl 0 rfl rfl ⟨Nat.le_of_ble_eq_true rfl, Nat.le_of_ble_eq_true rfl⟩ ⟨Nat.le_of_ble_eq_true rfl, Nat.le_of_ble_eq_true rfl⟩ [] rfl rfl (Nat.le_of_ble_eq_true rfl) dM_layNode_111 (fun rv ru hw => ?_)
              obtain ⟨rfl, rfl⟩ := hw
              show xk_Go K D 6 0 0 (tc_wM mm cmm th iu ki mu fs ss tx us te my (va_up mog (mz + 1 + q) (uN (y &&& 127) % 256)) ((mz + 1 + q) + 1) mi iz ma mf mp od ar lw oc sk sa sl pp re rd co dq bo lc) [(0, .ref (mm 0)), (1, .int (nI i)), (2, .int (nI (ki i))), (3, .long y)] 114 []
              refine x_goto C 140 dM_layNode_114 (by decide) ?_
              have hgs := tc_gS_out e1 e2 e3 h73 h81
              have hm7 : tc_mid (tc_mn ki mu tx i) = tc_grs (mu i) (q + 1) := (tc_mid_7 (x := (tc_mn ki mu tx i)) h65).trans (by show tc_grs (mu i) (tc_gS (mu i).toInt) = _; rw [hgs])
              rw [hgs] at e4 etl
              exact x_sub [0, 1, 2, 3] rfl (jn140 (va_up mog (mz + 1 + q) (uN (y &&& 127) % 256)) ((mz + 1 + q) + 1) y (by rw [hm7, tc_grs_last]; exact tc_apd_1 e4 (by rw [List.length_append, etl, List.length_singleton]; omega) (tc_lay7 e2)) (by rw [hm7, tc_grs_len]; omega) (fun z => absurd z (by omega)))
            ·
              refine x_aload_n C dM_layNode_84 rfl 0 rfl ?_
              refine x_lload_n C dM_layNode_85 rfl 3 rfl ?_
              refine x_ldc2 (v := 127) C dM_layNode_86 klM_128 ?_
              refine x_land C dM_layNode_89 ?_
              refine x_ldc2 (v := 128) C dM_layNode_90 klM_130 ?_
              refine x_lor C dM_layNode_93 ?_
              refine x_callV C (c_M_lay D mm cmm th iu ki mu fs ss tx us te my mog (mz + 1 + q) mi iz ma mf mp od ar lw oc sk sa sl pp re rd co dq bo lc ((y &&& 127) ||| 128) (by rw [tc_mid_7 (x := tc_mn ki mu tx i) h65, tc_grs_len] at ynl; have e3 : q < tc_gS (tc_mn ki mu tx i).2.1.toInt := e3; omega)) kbM_149 kcM_149 [0, 1, 2, 3, 4, 5, 6, 7, 8, 9, 10, 11, 12, 13, 14, 15, 16, 17, 18, 19, 20] [] [0, 1, 2, 3, 4, 5, 6, 7, 8, 9, 10, 11, 12, 13, 14, 15, 16, 17, 18, 19] ([]) rfl rfl (by decide) (by decide) (by decide) rfl 0 rfl rfl ⟨Nat.le_of_ble_eq_true rfl, Nat.le_of_ble_eq_true rfl⟩ ⟨Nat.le_of_ble_eq_true rfl, Nat.le_of_ble_eq_true rfl⟩ [] rfl rfl (Nat.le_of_ble_eq_true rfl) dM_layNode_94 (fun rv ru hw => ?_)
              obtain ⟨rfl, rfl⟩ := hw
              show xk_Go K D 6 0 0 (tc_wM mm cmm th iu ki mu fs ss tx us te my (va_up mog (mz + 1 + q) (uN ((y &&& 127) ||| 128) % 256)) ((mz + 1 + q) + 1) mi iz ma mf mp od ar lw oc sk sa sl pp re rd co dq bo lc) [(0, .ref (mm 0)), (1, .int (nI i)), (2, .int (nI (ki i))), (3, .long y)] 97 []
              refine x_lload_n C dM_layNode_97 rfl 3 rfl ?_
              refine x_bipush (v := nI 7) C dM_layNode_98 (by decide) ?_
              refine x_lshr (v := y >>> ((nI 7).toInt64 &&& 63)) C dM_layNode_100 rfl ?_
              refine x_lstore_n C [(3, .long (y >>> ((nI 7).toInt64 &&& 63))), (0, .ref (mm 0)), (1, .int (nI i)), (2, .int (nI (ki i)))] dM_layNode_101 rfl (by decide) rfl ?_
              refine x_goto C 68 dM_layNode_102 (by decide) ?_
              have hin := tc_gS_in e1 e2 e3 (Or.inr h81)
              exact x_sub [1, 2, 3, 0] rfl (ih68 (q + 1) (y >>> ((nI 7).toInt64 &&& 63)) (va_up mog (mz + 1 + q) (uN ((y &&& 127) ||| 128) % 256)) (by omega) hin.2 (tc_sar7 e2) hin.1 (by rw [tc_grs_take hin.1, ← List.append_assoc]; exact tc_apd_1 e4 (by rw [List.length_append, etl, List.length_singleton]; omega) (tc_lay7m e2)))
      exact x_sub [2, 3, 1, 0] rfl (lp68 _ 0 (mu i) (va_up mo mz (uN (lN (ki i)) % 256)) (Nat.lt_succ_self _) (by decide) (by simp) (tc_gS_pos _) (tc_apd_c (tc_apd_0 mo mz) rfl rfl (show ki i < 256 by omega)))
  ·
    obtain ⟨v, hv, hv2⟩ := tc_okn_lN y2 (Or.inl h21)
    have hv : mu i = lN v := hv
    rw [hv]
    show xk_Go K D 6 0 0 (tc_wM mm cmm th iu ki mu fs ss tx us te my (va_up mo mz (uN (lN (ki i)) % 256)) (mz + 1) mi iz ma mf mp od ar lw oc sk sa sl pp re rd co dq bo lc) [(3, .long (lN v)), (2, .int (nI (ki i))), (0, .ref (mm 0)), (1, .int (nI i))] 24 []
    refine x_lload_n C dM_layNode_24 rfl 0 rfl ?_
    refine x_ldc2 (v := 127) C dM_layNode_25 klM_128 ?_
    refine x_lcmp C dM_layNode_28 ?_
    refine x_if_leC (tgt := 54) C dM_layNode_29 (by decide) (fun h29 => ?_) (fun h29 => ?_)
    ·
      refine x_aload_n C dM_layNode_54 rfl 2 rfl ?_
      refine x_lload_n C dM_layNode_55 rfl 0 rfl ?_
      refine x_callV C (c_M_lay D mm cmm th iu ki mu fs ss tx us te my (va_up mo mz (uN (lN (ki i)) % 256)) (mz + 1) mi iz ma mf mp od ar lw oc sk sa sl pp re rd co dq bo lc (lN v) (by have hv0 := (pk_lLE (a := v) (b := 127) (by omega) (by decide)).mp h29; rw [tc_mid_0 (x := tc_mn ki mu tx i) h21 hv hv0] at ynl; simp only [List.length_cons, List.length_nil] at ynl; omega)) kbM_149 kcM_149 [0, 1, 2, 3, 4, 5, 6, 7, 8, 9, 10, 11, 12, 13, 14, 15, 16, 17, 18, 19, 20] [] [0, 1, 2, 3, 4, 5, 6, 7, 8, 9, 10, 11, 12, 13, 14, 15, 16, 17, 18, 19] ([]) rfl rfl (by decide) (by decide) (by decide) rfl 0 rfl rfl ⟨Nat.le_of_ble_eq_true rfl, Nat.le_of_ble_eq_true rfl⟩ ⟨Nat.le_of_ble_eq_true rfl, Nat.le_of_ble_eq_true rfl⟩ [] rfl rfl (Nat.le_of_ble_eq_true rfl) dM_layNode_56 (fun rv ru hw => ?_)
      obtain ⟨rfl, rfl⟩ := hw
      show xk_Go K D 6 0 0 (tc_wM mm cmm th iu ki mu fs ss tx us te my (va_up (va_up mo mz (uN (lN (ki i)) % 256)) (mz + 1) (uN (lN v) % 256)) ((mz + 1) + 1) mi iz ma mf mp od ar lw oc sk sa sl pp re rd co dq bo lc) [(3, .long (lN v)), (2, .int (nI (ki i))), (0, .ref (mm 0)), (1, .int (nI i))] 59 []
      refine x_goto C 140 dM_layNode_59 (by decide) ?_
      have hv0 := (pk_lLE (a := v) (b := 127) (by omega) (by decide)).mp h29
      have hmid := tc_mid_0 (x := (tc_mn ki mu tx i)) h21 hv hv0
      exact x_sub [2, 3, 1, 0] rfl (jn140 (va_up (va_up mo mz (uN (lN (ki i)) % 256)) (mz + 1) (uN (lN v) % 256)) ((mz + 1) + 1) (lN v) (by rw [hmid]; exact tc_apd_c (tc_apd_c (tc_apd_0 mo mz) rfl rfl (show ki i < 256 by omega)) rfl rfl (by omega)) (by rw [hmid]; rfl) (fun z => absurd z (by omega)))
    ·
      have hv1 : ¬ v ≤ 127 := fun q => h29 ((pk_lLE (a := v) (b := 127) (by omega) (by decide)).mpr q)
      refine x_aload_n C dM_layNode_32 rfl 2 rfl ?_
      refine x_lload_n C dM_layNode_33 rfl 0 rfl ?_
      refine x_ldc2 (v := 128) C dM_layNode_34 klM_130 ?_
      refine x_lrem C dM_layNode_37 (by decide) ?_
      refine x_topl (show lN v - lN v / 128 * 128 = lN (v % 128) from pk_lRem (by omega) (by decide) (by decide)) ?_
      refine x_ldc2 (v := 128) C dM_layNode_38 klM_130 ?_
      refine x_ladd C dM_layNode_41 ?_
      refine x_topl (show lN (v % 128) + 128 = lN (v % 128 + 128) from lN_add _ _) ?_
      refine x_callV C (c_M_lay D mm cmm th iu ki mu fs ss tx us te my (va_up mo mz (uN (lN (ki i)) % 256)) (mz + 1) mi iz ma mf mp od ar lw oc sk sa sl pp re rd co dq bo lc (lN (v % 128 + 128)) (by rw [tc_mid_00 (x := tc_mn ki mu tx i) h21 hv hv1 hv2] at ynl; simp only [List.length_append, List.length_cons, List.length_nil] at ynl; omega)) kbM_149 kcM_149 [0, 1, 2, 3, 4, 5, 6, 7, 8, 9, 10, 11, 12, 13, 14, 15, 16, 17, 18, 19, 20] [] [0, 1, 2, 3, 4, 5, 6, 7, 8, 9, 10, 11, 12, 13, 14, 15, 16, 17, 18, 19] ([]) rfl rfl (by decide) (by decide) (by decide) rfl 0 rfl rfl ⟨Nat.le_of_ble_eq_true rfl, Nat.le_of_ble_eq_true rfl⟩ ⟨Nat.le_of_ble_eq_true rfl, Nat.le_of_ble_eq_true rfl⟩ [] rfl rfl (Nat.le_of_ble_eq_true rfl) dM_layNode_42 (fun rv ru hw => ?_)
      obtain ⟨rfl, rfl⟩ := hw
      show xk_Go K D 6 0 0 (tc_wM mm cmm th iu ki mu fs ss tx us te my (va_up (va_up mo mz (uN (lN (ki i)) % 256)) (mz + 1) (uN (lN (v % 128 + 128)) % 256)) ((mz + 1) + 1) mi iz ma mf mp od ar lw oc sk sa sl pp re rd co dq bo lc) [(3, .long (lN v)), (2, .int (nI (ki i))), (0, .ref (mm 0)), (1, .int (nI i))] 45 []
      refine x_lload_n C dM_layNode_45 rfl 0 rfl ?_
      refine x_ldc2 (v := 128) C dM_layNode_46 klM_130 ?_
      refine x_ldiv C dM_layNode_49 (by decide) ?_
      refine x_topl (show lN v / 128 = lN (v / 128) from pk_lDiv (by omega) (by decide) (by decide)) ?_
      refine x_lstore_n C [(3, .long (lN (v / 128))), (2, .int (nI (ki i))), (0, .ref (mm 0)), (1, .int (nI i))] dM_layNode_50 rfl (by decide) rfl ?_
      refine x_goto C 24 dM_layNode_51 (by decide) ?_
      refine x_lload_n C dM_layNode_24 rfl 0 rfl ?_
      refine x_ldc2 (v := 127) C dM_layNode_25 klM_128 ?_
      refine x_lcmp C dM_layNode_28 ?_
      refine x_if_leC (tgt := 54) C dM_layNode_29 (by decide) (fun h29 => ?_) (fun h29 => ?_)
      ·
        refine x_aload_n C dM_layNode_54 rfl 2 rfl ?_
        refine x_lload_n C dM_layNode_55 rfl 0 rfl ?_
        refine x_callV C (c_M_lay D mm cmm th iu ki mu fs ss tx us te my (va_up (va_up mo mz (uN (lN (ki i)) % 256)) (mz + 1) (uN (lN (v % 128 + 128)) % 256)) ((mz + 1) + 1) mi iz ma mf mp od ar lw oc sk sa sl pp re rd co dq bo lc (lN (v / 128)) (by rw [tc_mid_00 (x := tc_mn ki mu tx i) h21 hv hv1 hv2] at ynl; simp only [List.length_append, List.length_cons, List.length_nil] at ynl; omega)) kbM_149 kcM_149 [0, 1, 2, 3, 4, 5, 6, 7, 8, 9, 10, 11, 12, 13, 14, 15, 16, 17, 18, 19, 20] [] [0, 1, 2, 3, 4, 5, 6, 7, 8, 9, 10, 11, 12, 13, 14, 15, 16, 17, 18, 19] ([]) rfl rfl (by decide) (by decide) (by decide) rfl 0 rfl rfl ⟨Nat.le_of_ble_eq_true rfl, Nat.le_of_ble_eq_true rfl⟩ ⟨Nat.le_of_ble_eq_true rfl, Nat.le_of_ble_eq_true rfl⟩ [] rfl rfl (Nat.le_of_ble_eq_true rfl) dM_layNode_56 (fun rv ru hw => ?_)
        obtain ⟨rfl, rfl⟩ := hw
        show xk_Go K D 6 0 0 (tc_wM mm cmm th iu ki mu fs ss tx us te my (va_up (va_up (va_up mo mz (uN (lN (ki i)) % 256)) (mz + 1) (uN (lN (v % 128 + 128)) % 256)) ((mz + 1) + 1) (uN (lN (v / 128)) % 256)) (((mz + 1) + 1) + 1) mi iz ma mf mp od ar lw oc sk sa sl pp re rd co dq bo lc) [(3, .long (lN (v / 128))), (2, .int (nI (ki i))), (0, .ref (mm 0)), (1, .int (nI i))] 59 []
        refine x_goto C 140 dM_layNode_59 (by decide) ?_
        have hmid := tc_mid_00 (x := (tc_mn ki mu tx i)) h21 hv hv1 hv2
        exact x_sub [2, 3, 1, 0] rfl (jn140 (va_up (va_up (va_up mo mz (uN (lN (ki i)) % 256)) (mz + 1) (uN (lN (v % 128 + 128)) % 256)) ((mz + 1) + 1) (uN (lN (v / 128)) % 256)) (((mz + 1) + 1) + 1) (lN (v / 128)) (by rw [hmid]; exact tc_apd_c (tc_apd_c (tc_apd_c (tc_apd_0 mo mz) rfl rfl (show ki i < 256 by omega)) rfl rfl (show v % 128 + 128 < 256 by omega)) rfl rfl (show v / 128 < 256 by omega)) (by rw [hmid]; rfl) (fun z => absurd z (by omega)))
      ·
        exact absurd ((pk_lLE (a := v / 128) (b := 127) (by omega) (by decide)).mpr (by omega)) h29
set_option maxHeartbeats 4000000 in
set_option maxRecDepth 100000 in
/-- write -/
theorem c_M_write (D : va_G) (mm : Nat → Nat) (cmm : Nat → ClassId) (th : Nat) (iu : Nat → Bool) (ki : Nat → Nat) (mu : Nat → Int64) (fs : Nat → Option Nat) (ss : Nat → Option Nat) (tx : Nat → Nat) (us : Nat) (te : Nat → Nat) (my : Nat) (mo : Nat → Nat) (mz : Nat) (mi : Nat → Nat) (iz : Nat) (ma : Nat) (mf : Nat) (mp : Option Nat) (od : Nat → Nat) (ar : Nat → Option Nat) (lw : Nat → Nat) (oc : Nat) (sk : Nat → Nat) (sa : Nat → Option Nat) (sl : Nat → Nat) (pp : Nat) (re : Nat → Nat) (rd : Nat) (co : Nat → Nat) (dq : Nat → Nat) (bo : Nat → Nat) (lc : Nat → Nat) (Ts : List (List tc_Nd)) (y1 : tc_RM Ts (iu, ki, mu, fs, ss, tx) us te my) (y2 : mz ≤ 4096) : xk_Ct yM_write cM_write 2 (some .int) { frames := 3, cells := 0, slots := 0, locals := 70 } D (tc_tM cmm) [.ref (mm 0)] (tc_wM mm cmm th iu ki mu fs ss tx us te my mo mz mi iz ma mf mp od ar lw oc sk sa sl pp re rd co dq bo lc) (fun rv ru => (∃ (odg : Nat → Nat), ∃ (arg : Nat → Option Nat), ∃ (lwg : Nat → Nat), ∃ (skg : Nat → Nat), ∃ (sag : Nat → Option Nat), ∃ (slg : Nat → Nat), ∃ (ocg : Nat), rv = some (.int (xk_oI none)) ∧ ru = tc_wM mm cmm 0 iu ki mu fs ss tx us te my mo mz mi iz ma mf mp odg arg lwg ocg skg sag slg pp re rd co dq bo lc ∧ (tc_wr Ts mz = none)) ∨ (∃ (odg : Nat → Nat), ∃ (arg : Nat → Option Nat), ∃ (lwg : Nat → Nat), ∃ (skg : Nat → Nat), ∃ (sag : Nat → Option Nat), ∃ (slg : Nat → Nat), ∃ (ocg : Nat), ∃ (mog : Nat → Nat), ∃ (L : List Nat), rv = some (.int (nI (mz + L.length))) ∧ ru = tc_wM mm cmm 0 iu ki mu fs ss tx us te my mog (mz + L.length) mi iz ma mf mp odg arg lwg ocg skg sag slg pp re rd co dq bo lc ∧ (tc_wr Ts mz = some L) ∧ (tc_apd mo mz mog L))) := by
  refine xk_enter (by decide) (Nat.le_of_ble_eq_true rfl) (fun K C T hin => ?_)
  obtain ⟨yu, yv, yn, yc⟩ := tc_RM_us y1
  show xk_Go K D 2 0 0 (tc_wM mm cmm th iu ki mu fs ss tx us te my mo mz mi iz ma mf mp od ar lw oc sk sa sl pp re rd co dq bo lc) [(0, .ref (mm 0))] 0 []
  refine x_aload_n C dM_write_0 rfl 0 rfl ?_
  refine x_iconst (v := nI 0) C dM_write_1 (by decide) ?_
  refine x_put C fpM_77 0 (tc_wM mm cmm 0 iu ki mu fs ss tx us te my mo mz mi iz ma mf mp od ar lw oc sk sa sl pp re rd co dq bo lc) rfl rfl rfl rfl (Nat.le_of_ble_eq_true rfl) dM_write_2 ?_
  refine x_aload_n C dM_write_5 rfl 0 rfl ?_
  refine x_get C fgM_94 0 rfl rfl dM_write_6 ?_
  refine x_if_eqN (tgt := 49) C (by omega) dM_write_9 (by decide) (fun h9 => ?_) (fun h9 => ?_)
  ·
    refine x_iconst (v := xk_oI none) C dM_write_49 (by decide) ?_
    exact x_iret C T .int rfl rfl dM_write_50 (Or.inl (⟨_, _, _, _, _, _, _, rfl, rfl, (by first | (rw [tc_RM_nil y1 (by omega)]; rfl) | exact if_neg (by rw [yln]; omega))⟩))
  ·
    obtain ⟨ids, I, R, rfl, yI, yg, ym⟩ := tc_RM_top y1 (by omega)
    have yl : (ids.map (tc_mn ki mu tx)).length = ids.length := List.length_map _
    have yokt := tc_RM_okt y1 _ List.mem_cons_self
    have y200 := yg.2.1
    have yln := tc_ln_tb yokt
    have ysm := tc_ev_sum_n (ids.map (tc_mn ki mu tx)) yokt.2.2
    rw [tc_tb_sum _ yokt.2.2, yl] at ysm
    refine x_aload_n C dM_write_12 rfl 0 rfl ?_
    refine x_get C fgM_146 0 rfl rfl dM_write_13 ?_
    refine x_aload_n C dM_write_16 rfl 0 rfl ?_
    refine x_aload_n C dM_write_17 rfl 0 rfl ?_
    refine x_get C fgM_31 0 rfl rfl dM_write_18 ?_
    refine x_aload_n C dM_write_21 rfl 0 rfl ?_
    refine x_get C fgM_94 0 rfl rfl dM_write_22 ?_
    refine x_if_neN (tgt := 32) C (by omega) dM_write_25 (by decide) (fun h25 => ?_) (fun h25 => ?_)
    ·
      refine x_aload_n C dM_write_32 rfl 0 rfl ?_
      refine x_get C fgM_94 0 rfl rfl dM_write_33 ?_
      refine x_iconst (v := nI 1) C dM_write_36 (by decide) ?_
      refine x_isubN C (by omega) dM_write_37 ?_
      refine x_ild C 7 6 rfl rfl (by omega) (by decide) dM_write_38 ?_
      show xk_Go K D 2 0 0 (tc_wM mm cmm 0 iu ki mu fs ss tx us te my mo mz mi iz ma mf mp od ar lw oc sk sa sl pp re rd co dq bo lc) [(0, .ref (mm 0))] 39 [.int (nI (te (my - 1))), .ref (mm 0), .int (nI mz)]
      refine x_callV C (c_M_lengthOfTerm D mm cmm 0 iu ki mu fs ss tx us te my mo mz mi iz ma mf mp od ar lw oc sk sa sl pp re rd co dq bo lc (te (my - 1)) ids yg (fun i hi => yokt.2.2 _ (List.mem_map_of_mem hi))) kbM_153 kcM_153 [0, 1, 2, 3, 4, 5, 6, 7, 8, 9, 10, 11, 12, 13, 14, 15, 16, 17, 18, 19, 20] [] [0, 1, 2, 3, 4, 5, 6, 7, 8, 9, 10, 11, 12, 13, 14, 15, 16, 17, 18, 19] ([]) rfl rfl (by decide) (by decide) (by decide) rfl 0 rfl rfl ⟨Nat.le_of_ble_eq_true rfl, Nat.le_of_ble_eq_true rfl⟩ ⟨Nat.le_of_ble_eq_true rfl, Nat.le_of_ble_eq_true rfl⟩ [.int (nI mz)] rfl rfl (Nat.le_of_ble_eq_true rfl) dM_write_39 (fun rv ru hw => ?_)
      obtain ⟨odg, arg, lwg, skg, sag, slg, rfl, rfl, g1⟩ := hw
      show xk_Go K D 2 0 0 (tc_wM mm cmm 0 iu ki mu fs ss tx us te my mo mz mi iz ma mf mp odg arg lwg ids.length skg sag slg pp re rd co dq bo lc) [(0, .ref (mm 0))] 42 [.int (nI ((tc_tb (ids.map (tc_mn ki mu tx))).length)), .int (nI mz)]
      refine x_iaddN C dM_write_42 ?_
      refine x_sipush (v := nI 4096) C dM_write_43 (by decide) ?_
      refine x_icmp_leN (tgt := 51) C (by omega) (by decide) dM_write_46 (by decide) (fun h46 => ?_) (fun h46 => ?_)
      ·
        refine x_iconst (v := nI 0) C dM_write_51 (by decide) ?_
        refine x_istore_n C [(1, .int (nI 0)), (0, .ref (mm 0))] dM_write_52 rfl (by decide) rfl ?_
        have lp53 : ∀ (zc : Nat) (k : Nat) (mog : Nat → Nat) (s1 : Nat), (ids.length - k) < zc → (k ≤ ids.length) → (tc_apd mo mz mog (tc_tb ((ids.map (tc_mn ki mu tx)).take k))) → (s1 = mz + (tc_tb ((ids.map (tc_mn ki mu tx)).take k)).length) → xk_Go K D 2 0 0 (tc_wM mm cmm 0 iu ki mu fs ss tx us te my mog s1 mi iz ma mf mp odg arg lwg ids.length skg sag slg pp re rd co dq bo lc) [(0, .ref (mm 0)), (1, .int (nI k))] 53 [] := by
          intro zc
          induction zc with
          | zero => intro k mog s1 hm; exact absurd hm (Nat.not_lt_zero _)
          | succ zc ih53 =>
            intro k mog s1 hm e1 e2 e3
            refine x_iload_n C dM_write_53 rfl 1 rfl ?_
            refine x_aload_n C dM_write_54 rfl 0 rfl ?_
            refine x_get C fgM_87 0 rfl rfl dM_write_55 ?_
            refine x_icmp_geN (tgt := 77) C (by omega) (by omega) dM_write_58 (by decide) (fun h58 => ?_) (fun h58 => ?_)
            ·
              refine x_aload_n C dM_write_77 rfl 0 rfl ?_
              refine x_get C fgM_146 0 rfl rfl dM_write_78 ?_
              obtain rfl : k = ids.length := by omega
              rw [List.take_of_length_le (by omega)] at e2 e3
              subst e3
              exact x_iret C T .int rfl rfl dM_write_81 (Or.inr (⟨_, _, _, _, _, _, _, _, (tc_tb (ids.map (tc_mn ki mu tx))), rfl, rfl, (if_pos (by rw [yln]; omega)), e2⟩))
            ·
              obtain ⟨i, hi⟩ : ∃ i, ids[k]? = some i := ⟨_, List.getElem?_eq_getElem (by omega)⟩
              have hod := g1.1 k i hi
              have him := List.mem_of_getElem? hi
              have hi2 := yg.2.2.1 i him
              have hxi : (ids.map (tc_mn ki mu tx))[k]? = some (tc_mn ki mu tx i) := by rw [List.getElem?_map, hi]; rfl
              have hnb := tc_tb_le (t := ids.map (tc_mn ki mu tx)) (k + 1)
              rw [tc_tb_take hxi, List.length_append] at hnb
              refine x_aload_n C dM_write_61 rfl 0 rfl ?_
              refine x_aload_n C dM_write_62 rfl 0 rfl ?_
              refine x_get C fgM_44 0 rfl rfl dM_write_63 ?_
              refine x_iload_n C dM_write_66 rfl 1 rfl ?_
              refine x_ild C 10 9 rfl rfl (by omega) (by decide) dM_write_67 ?_
              show xk_Go K D 2 0 0 (tc_wM mm cmm 0 iu ki mu fs ss tx us te my mog s1 mi iz ma mf mp odg arg lwg ids.length skg sag slg pp re rd co dq bo lc) [(0, .ref (mm 0)), (1, .int (nI k))] 68 [.int (nI (odg k)), .ref (mm 0)]
              rw [hod]
              refine x_callV C (c_M_layNode D mm cmm 0 iu ki mu fs ss tx us te my mog s1 mi iz ma mf mp odg arg lwg ids.length skg sag slg pp re rd co dq bo lc i hi2 (yokt.2.2 _ (List.mem_of_getElem? hxi)) (by omega)) kbM_156 kcM_156 [0, 1, 2, 3, 4, 5, 6, 7, 8, 9, 10, 11, 12, 13, 14, 15, 16, 17, 18, 19, 20] [] [0, 1, 2, 3, 4, 5, 6, 7, 8, 9, 10, 11, 12, 13, 14, 15, 16, 17, 18, 19] ([]) rfl rfl (by decide) (by decide) (by decide) rfl 0 rfl rfl ⟨Nat.le_of_ble_eq_true rfl, Nat.le_of_ble_eq_true rfl⟩ ⟨Nat.le_of_ble_eq_true rfl, Nat.le_of_ble_eq_true rfl⟩ [] rfl rfl (Nat.le_of_ble_eq_true rfl) dM_write_68 (fun rv ru hw => ?_)
              obtain ⟨moh, rfl, rfl, g1n⟩ := hw
              show xk_Go K D 2 0 0 (tc_wM mm cmm 0 iu ki mu fs ss tx us te my moh (s1 + (tc_nb (tc_mn ki mu tx i)).length) mi iz ma mf mp odg arg lwg ids.length skg sag slg pp re rd co dq bo lc) [(0, .ref (mm 0)), (1, .int (nI k))] 71 []
              refine x_iinc (q := 1) C (nI (k + 1)) [(1, .int (nI (k + 1))), (0, .ref (mm 0))] dM_write_71 rfl (nI_add k 1) (by decide) rfl ?_
              refine x_goto C 53 dM_write_74 (by decide) ?_
              exact x_sub [1, 0] rfl (ih53 (k + 1) moh (s1 + (tc_nb (tc_mn ki mu tx i)).length) (by omega) (by omega) (by rw [tc_tb_take hxi]; exact tc_apd_app e2 e3 g1n) (by rw [tc_tb_take hxi, List.length_append]; omega))
        exact x_sub [1, 0] rfl (lp53 _ 0 mo mz (Nat.lt_succ_self _) (Nat.zero_le _) (tc_apd_0 mo mz) rfl)
      ·
        refine x_iconst (v := xk_oI none) C dM_write_49 (by decide) ?_
        exact x_iret C T .int rfl rfl dM_write_50 (Or.inl (⟨_, _, _, _, _, _, _, rfl, rfl, (by first | (rw [tc_RM_nil y1 (by omega)]; rfl) | exact if_neg (by rw [yln]; omega))⟩))
    ·
      exact absurd h25 (by omega)
set_option maxHeartbeats 4000000 in
set_option maxRecDepth 100000 in
/-- wipe -/
theorem c_M_wipe (D : va_G) (mm : Nat → Nat) (cmm : Nat → ClassId) (th : Nat) (iu : Nat → Bool) (ki : Nat → Nat) (mu : Nat → Int64) (fs : Nat → Option Nat) (ss : Nat → Option Nat) (tx : Nat → Nat) (us : Nat) (te : Nat → Nat) (my : Nat) (mo : Nat → Nat) (mz : Nat) (mi : Nat → Nat) (iz : Nat) (ma : Nat) (mf : Nat) (mp : Option Nat) (od : Nat → Nat) (ar : Nat → Option Nat) (lw : Nat → Nat) (oc : Nat) (sk : Nat → Nat) (sa : Nat → Option Nat) (sl : Nat → Nat) (pp : Nat) (re : Nat → Nat) (rd : Nat) (co : Nat → Nat) (dq : Nat → Nat) (bo : Nat → Nat) (lc : Nat → Nat) : xk_Ct yM_wipe cM_wipe 1 none { frames := 0, cells := 0, slots := 0, locals := 0 } D (tc_tM cmm) [.ref (mm 0)] (tc_wM mm cmm th iu ki mu fs ss tx us te my mo mz mi iz ma mf mp od ar lw oc sk sa sl pp re rd co dq bo lc) (fun rv ru => (rv = none ∧ ru = tc_wM mm cmm 0 iu ki mu fs ss tx us te my mo 0 mi iz ma mf mp od ar lw oc sk sa sl pp re rd co dq bo lc)) := by
  refine xk_enter (by decide) (Nat.le_of_ble_eq_true rfl) (fun K C T hin => ?_)
  show xk_Go K D 1 0 0 (tc_wM mm cmm th iu ki mu fs ss tx us te my mo mz mi iz ma mf mp od ar lw oc sk sa sl pp re rd co dq bo lc) [(0, .ref (mm 0))] 0 []
  refine x_aload_n C dM_wipe_0 rfl 0 rfl ?_
  refine x_iconst (v := nI 0) C dM_wipe_1 (by decide) ?_
  refine x_put C fpM_77 0 (tc_wM mm cmm 0 iu ki mu fs ss tx us te my mo mz mi iz ma mf mp od ar lw oc sk sa sl pp re rd co dq bo lc) rfl rfl rfl rfl (Nat.le_of_ble_eq_true rfl) dM_wipe_2 ?_
  refine x_aload_n C dM_wipe_5 rfl 0 rfl ?_
  refine x_iconst (v := nI 0) C dM_wipe_6 (by decide) ?_
  refine x_put C fpM_146 0 (tc_wM mm cmm 0 iu ki mu fs ss tx us te my mo 0 mi iz ma mf mp od ar lw oc sk sa sl pp re rd co dq bo lc) rfl rfl rfl rfl (Nat.le_of_ble_eq_true rfl) dM_wipe_7 ?_
  exact x_vret C T rfl dM_wipe_10 (⟨rfl, rfl⟩)
set_option maxHeartbeats 4000000 in
set_option maxRecDepth 100000 in
/-- give -/
theorem c_M_give (D : va_G) (mm : Nat → Nat) (cmm : Nat → ClassId) (th : Nat) (iu : Nat → Bool) (ki : Nat → Nat) (mu : Nat → Int64) (fs : Nat → Option Nat) (ss : Nat → Option Nat) (tx : Nat → Nat) (us : Nat) (te : Nat → Nat) (my : Nat) (mo : Nat → Nat) (mz : Nat) (mi : Nat → Nat) (iz : Nat) (ma : Nat) (mf : Nat) (mp : Option Nat) (od : Nat → Nat) (ar : Nat → Option Nat) (lw : Nat → Nat) (oc : Nat) (sk : Nat → Nat) (sa : Nat → Option Nat) (sl : Nat → Nat) (pp : Nat) (re : Nat → Nat) (rd : Nat) (co : Nat → Nat) (dq : Nat → Nat) (bo : Nat → Nat) (lc : Nat → Nat) (v : Int64) (n : Int32) (y1 : iz ≤ 4096) : xk_Ct yM_give cM_give 5 (some .boolean) { frames := 0, cells := 0, slots := 0, locals := 0 } D (tc_tM cmm) [.ref (mm 0), .long v, .int n] (tc_wM mm cmm th iu ki mu fs ss tx us te my mo mz mi iz ma mf mp od ar lw oc sk sa sl pp re rd co dq bo lc) (fun rv ru => (rv = some (.int (nI 0)) ∧ ru = tc_wM mm cmm 0 iu ki mu fs ss tx us te my mo mz mi iz ma mf mp od ar lw oc sk sa sl pp re rd co dq bo lc ∧ (tc_gv n iz = none)) ∨ (∃ (k : Nat), ∃ (mig : Nat → Nat), rv = some (.int (nI 1)) ∧ ru = tc_wM mm cmm 0 iu ki mu fs ss tx us te my mo mz mig (iz + k) ma mf mp od ar lw oc sk sa sl pp re rd co dq bo lc ∧ (tc_gv n iz = some k) ∧ (tc_apd mi iz mig (tc_bts v k)))) := by
  refine xk_enter (by decide) (Nat.le_of_ble_eq_true rfl) (fun K C T hin => ?_)
  show xk_Go K D 5 0 0 (tc_wM mm cmm th iu ki mu fs ss tx us te my mo mz mi iz ma mf mp od ar lw oc sk sa sl pp re rd co dq bo lc) [(0, .ref (mm 0)), (1, .long v), (3, .int n)] 0 []
  refine x_aload_n C dM_give_0 rfl 0 rfl ?_
  refine x_iconst (v := nI 0) C dM_give_1 (by decide) ?_
  refine x_put C fpM_77 0 (tc_wM mm cmm 0 iu ki mu fs ss tx us te my mo mz mi iz ma mf mp od ar lw oc sk sa sl pp re rd co dq bo lc) rfl rfl rfl rfl (Nat.le_of_ble_eq_true rfl) dM_give_2 ?_
  refine x_iload_n C dM_give_5 rfl 2 rfl ?_
  refine x_iconst (v := nI 1) C dM_give_6 (by decide) ?_
  refine x_icmp_lt (tgt := 28) C dM_give_7 (by decide) (fun h7 => ?_) (fun h7 => ?_)
  ·
    refine x_iconst (v := nI 0) C dM_give_28 (by decide) ?_
    exact x_iret C T .boolean rfl rfl dM_give_29 (Or.inl (⟨rfl, rfl, (tc_gv_lo h7)⟩))
  ·
    refine x_iload_n C dM_give_10 rfl 2 rfl ?_
    refine x_bipush (v := nI 8) C dM_give_11 (by decide) ?_
    refine x_icmp_gt (tgt := 28) C dM_give_13 (by decide) (fun h13 => ?_) (fun h13 => ?_)
    ·
      refine x_iconst (v := nI 0) C dM_give_28 (by decide) ?_
      exact x_iret C T .boolean rfl rfl dM_give_29 (Or.inl (⟨rfl, rfl, (tc_gv_hi h13)⟩))
    ·
      obtain ⟨k, hk1, hk8, rfl⟩ := tc_rng18 h7 h13
      refine x_aload_n C dM_give_16 rfl 0 rfl ?_
      refine x_get C fgM_159 0 rfl rfl dM_give_17 ?_
      refine x_iload_n C dM_give_20 rfl 2 rfl ?_
      refine x_iaddN C dM_give_21 ?_
      refine x_sipush (v := nI 4096) C dM_give_22 (by decide) ?_
      refine x_icmp_leN (tgt := 30) C (by omega) (by decide) dM_give_25 (by decide) (fun h25 => ?_) (fun h25 => ?_)
      ·
        refine x_iload_n C dM_give_30 rfl 2 rfl ?_
        refine x_iconst (v := nI 1) C dM_give_31 (by decide) ?_
        refine x_isub C dM_give_32 ?_
        refine x_top (tc_pr_sub k) ?_
        refine x_istore C [(4, .int (xk_oI (tc_pr k))), (0, .ref (mm 0)), (1, .long v), (3, .int (nI k))] dM_give_33 (by decide) rfl ?_
        have lp35 : ∀ (zc : Nat) (jn : Nat) (mig : Nat → Nat) (s1 : Nat), jn < zc → (jn ≤ k) → (tc_apd mi iz mig ((tc_bts v k).take (k - jn))) → (s1 = iz + (k - jn)) → xk_Go K D 5 0 0 (tc_wM mm cmm 0 iu ki mu fs ss tx us te my mo mz mig s1 ma mf mp od ar lw oc sk sa sl pp re rd co dq bo lc) [(0, .ref (mm 0)), (1, .long v), (3, .int (nI k)), (4, .int (xk_oI (tc_pr jn)))] 35 [] := by
          intro zc
          induction zc with
          | zero => intro jn mig s1 hm; exact absurd hm (Nat.not_lt_zero _)
          | succ zc ih35 =>
            intro jn mig s1 hm e1 e2 e3
            refine x_iload C dM_give_35 3 rfl ?_
            rcases jn with _ | j
            ·
              show xk_Go K D 5 0 0 (tc_wM mm cmm 0 iu ki mu fs ss tx us te my mo mz mig s1 ma mf mp od ar lw oc sk sa sl pp re rd co dq bo lc) [(0, .ref (mm 0)), (1, .long v), (3, .int (nI k)), (4, .int (xk_oI none))] 37 [.int (xk_oI none)]
              refine x_if_lt (tgt := 74) C dM_give_37 (by decide) (fun _ => ?_) (fun h => absurd (by decide) h)
              refine x_iconst (v := nI 1) C dM_give_74 (by decide) ?_
              obtain rfl : s1 = iz + k := by omega
              rw [Nat.sub_zero, List.take_of_length_le (by rw [tc_bts_len]; exact Nat.le_refl _)] at e2
              exact x_iret C T .boolean rfl rfl dM_give_75 (Or.inr (⟨k, mig, rfl, rfl, (tc_gv_in hk1 hk8 (by omega)), e2⟩))
            ·
              show xk_Go K D 5 0 0 (tc_wM mm cmm 0 iu ki mu fs ss tx us te my mo mz mig s1 ma mf mp od ar lw oc sk sa sl pp re rd co dq bo lc) [(0, .ref (mm 0)), (1, .long v), (3, .int (nI k)), (4, .int (nI j))] 37 [.int (nI j)]
              refine x_if_ltN (tgt := 74) C (by omega) dM_give_37 (by decide) ?_
              refine x_aload_n C dM_give_40 rfl 0 rfl ?_
              refine x_get C fgM_37 0 rfl rfl dM_give_41 ?_
              refine x_aload_n C dM_give_44 rfl 0 rfl ?_
              refine x_get C fgM_159 0 rfl rfl dM_give_45 ?_
              refine x_lload_n C dM_give_48 rfl 1 rfl ?_
              refine x_bipush (v := nI 8) C dM_give_49 (by decide) ?_
              refine x_iload C dM_give_51 3 rfl ?_
              refine x_imulN C dM_give_53 ?_
              refine x_lshr (v := v >>> ((nI (8 * j)).toInt64 &&& 63)) C dM_give_54 rfl ?_
              refine x_l2i (v := Int64.toInt32 (v >>> ((nI (8 * j)).toInt64 &&& 63))) C dM_give_55 rfl ?_
              refine x_i2b (v := xk_sb (tc_by v j)) C dM_give_56 (tc_sb_by v (by omega)) ?_
              refine x_bst C 9 8 (tc_wM mm cmm 0 iu ki mu fs ss tx us te my mo mz (va_up mig s1 (tc_by v j)) s1 ma mf mp od ar lw oc sk sa sl pp re rd co dq bo lc) rfl rfl ((congrArg _ (xk_sb_nar (tc_by v j))).trans (xk_bA_up mig s1 (tc_by v j))) rfl (by omega) (by decide) dM_give_57 ?_
              refine x_aload_n C dM_give_58 rfl 0 rfl ?_
              refine x_dup C dM_give_59 rfl ?_
              refine x_get C fgM_159 0 rfl rfl dM_give_60 ?_
              refine x_iconst (v := nI 1) C dM_give_63 (by decide) ?_
              refine x_iaddN C dM_give_64 ?_
              refine x_put C fpM_159 0 (tc_wM mm cmm 0 iu ki mu fs ss tx us te my mo mz (va_up mig s1 (tc_by v j)) (s1 + 1) ma mf mp od ar lw oc sk sa sl pp re rd co dq bo lc) rfl rfl rfl rfl (Nat.le_of_ble_eq_true rfl) dM_give_65 ?_
              refine x_iinc (q := 3) C (xk_oI (tc_pr j)) [(4, .int (xk_oI (tc_pr j))), (0, .ref (mm 0)), (1, .long v), (3, .int (nI k))] dM_give_68 rfl (tc_pr_dec j) (by decide) rfl ?_
              refine x_goto C 35 dM_give_71 (by decide) ?_
              exact x_sub [1, 2, 3, 0] rfl (ih35 j (va_up mig s1 (tc_by v j)) (s1 + 1) (by omega) (by omega) (by rw [tc_bts_take (by omega)]; exact tc_apd_1 e2 (by rw [List.length_take, tc_bts_len]; omega) rfl) (by omega))
        exact x_sub [1, 2, 3, 0] rfl (lp35 _ k mi iz (Nat.lt_succ_self _) (Nat.le_refl _) (by rw [Nat.sub_self]; exact tc_apd_0 mi iz) (by omega))
      ·
        refine x_iconst (v := nI 0) C dM_give_28 (by decide) ?_
        exact x_iret C T .boolean rfl rfl dM_give_29 (Or.inl (⟨rfl, rfl, (tc_gv_no hk8 (by omega))⟩))
set_option maxHeartbeats 4000000 in
set_option maxRecDepth 100000 in
/-- cut -/
theorem c_M_cut (D : va_G) (mm : Nat → Nat) (cmm : Nat → ClassId) (th : Nat) (iu : Nat → Bool) (ki : Nat → Nat) (mu : Nat → Int64) (fs : Nat → Option Nat) (ss : Nat → Option Nat) (tx : Nat → Nat) (us : Nat) (te : Nat → Nat) (my : Nat) (mo : Nat → Nat) (mz : Nat) (mi : Nat → Nat) (iz : Nat) (ma : Nat) (mf : Nat) (mp : Option Nat) (od : Nat → Nat) (ar : Nat → Option Nat) (lw : Nat → Nat) (oc : Nat) (sk : Nat → Nat) (sa : Nat → Option Nat) (sl : Nat → Nat) (pp : Nat) (re : Nat → Nat) (rd : Nat) (co : Nat → Nat) (dq : Nat → Nat) (bo : Nat → Nat) (lc : Nat → Nat) (n : Int32) (y1 : iz ≤ 4096) : xk_Ct yM_cut cM_cut 2 (some .boolean) { frames := 0, cells := 0, slots := 0, locals := 0 } D (tc_tM cmm) [.ref (mm 0), .int n] (tc_wM mm cmm th iu ki mu fs ss tx us te my mo mz mi iz ma mf mp od ar lw oc sk sa sl pp re rd co dq bo lc) (fun rv ru => (rv = some (.int (nI 0)) ∧ ru = tc_wM mm cmm 0 iu ki mu fs ss tx us te my mo mz mi iz ma mf mp od ar lw oc sk sa sl pp re rd co dq bo lc ∧ (tc_ct n iz = none)) ∨ (∃ (k : Nat), rv = some (.int (nI 1)) ∧ ru = tc_wM mm cmm 0 iu ki mu fs ss tx us te my mo mz mi k 0 mf mp od ar lw oc sk sa sl pp re rd co dq bo lc ∧ (tc_ct n iz = some k) ∧ (k ≤ iz))) := by
  refine xk_enter (by decide) (Nat.le_of_ble_eq_true rfl) (fun K C T hin => ?_)
  show xk_Go K D 2 0 0 (tc_wM mm cmm th iu ki mu fs ss tx us te my mo mz mi iz ma mf mp od ar lw oc sk sa sl pp re rd co dq bo lc) [(0, .ref (mm 0)), (1, .int n)] 0 []
  refine x_aload_n C dM_cut_0 rfl 0 rfl ?_
  refine x_iconst (v := nI 0) C dM_cut_1 (by decide) ?_
  refine x_put C fpM_77 0 (tc_wM mm cmm 0 iu ki mu fs ss tx us te my mo mz mi iz ma mf mp od ar lw oc sk sa sl pp re rd co dq bo lc) rfl rfl rfl rfl (Nat.le_of_ble_eq_true rfl) dM_cut_2 ?_
  refine x_iload_n C dM_cut_5 rfl 1 rfl ?_
  refine x_if_lt (tgt := 17) C dM_cut_6 (by decide) (fun h6 => ?_) (fun h6 => ?_)
  ·
    refine x_iconst (v := nI 0) C dM_cut_17 (by decide) ?_
    exact x_iret C T .boolean rfl rfl dM_cut_18 (Or.inl (⟨rfl, rfl, (tc_ct_lo h6)⟩))
  ·
    obtain ⟨k, hk, rfl⟩ := nI_of h6
    refine x_iload_n C dM_cut_9 rfl 1 rfl ?_
    refine x_aload_n C dM_cut_10 rfl 0 rfl ?_
    refine x_get C fgM_159 0 rfl rfl dM_cut_11 ?_
    refine x_icmp_leN (tgt := 19) C (by omega) (by omega) dM_cut_14 (by decide) (fun h14 => ?_) (fun h14 => ?_)
    ·
      refine x_aload_n C dM_cut_19 rfl 0 rfl ?_
      refine x_iload_n C dM_cut_20 rfl 1 rfl ?_
      refine x_put C fpM_159 0 (tc_wM mm cmm 0 iu ki mu fs ss tx us te my mo mz mi k ma mf mp od ar lw oc sk sa sl pp re rd co dq bo lc) rfl rfl rfl rfl (Nat.le_of_ble_eq_true rfl) dM_cut_21 ?_
      refine x_aload_n C dM_cut_24 rfl 0 rfl ?_
      refine x_iconst (v := nI 0) C dM_cut_25 (by decide) ?_
      refine x_put C fpM_162 0 (tc_wM mm cmm 0 iu ki mu fs ss tx us te my mo mz mi k 0 mf mp od ar lw oc sk sa sl pp re rd co dq bo lc) rfl rfl rfl rfl (Nat.le_of_ble_eq_true rfl) dM_cut_26 ?_
      refine x_iconst (v := nI 1) C dM_cut_29 (by decide) ?_
      exact x_iret C T .boolean rfl rfl dM_cut_30 (Or.inr (⟨k, rfl, rfl, (tc_ct_in h14 (by omega)), h14⟩))
    ·
      refine x_iconst (v := nI 0) C dM_cut_17 (by decide) ?_
      exact x_iret C T .boolean rfl rfl dM_cut_18 (Or.inl (⟨rfl, rfl, (tc_ct_no (by omega) hk)⟩))
set_option maxHeartbeats 4000000 in
set_option maxRecDepth 100000 in
/-- turn -/
theorem c_M_turn (D : va_G) (mm : Nat → Nat) (cmm : Nat → ClassId) (th : Nat) (iu : Nat → Bool) (ki : Nat → Nat) (mu : Nat → Int64) (fs : Nat → Option Nat) (ss : Nat → Option Nat) (tx : Nat → Nat) (us : Nat) (te : Nat → Nat) (my : Nat) (mo : Nat → Nat) (mz : Nat) (mi : Nat → Nat) (iz : Nat) (ma : Nat) (mf : Nat) (mp : Option Nat) (od : Nat → Nat) (ar : Nat → Option Nat) (lw : Nat → Nat) (oc : Nat) (sk : Nat → Nat) (sa : Nat → Option Nat) (sl : Nat → Nat) (pp : Nat) (re : Nat → Nat) (rd : Nat) (co : Nat → Nat) (dq : Nat → Nat) (bo : Nat → Nat) (lc : Nat → Nat) (y1 : mz ≤ 4096) : xk_Ct yM_turn cM_turn 2 none { frames := 0, cells := 0, slots := 0, locals := 0 } D (tc_tM cmm) [.ref (mm 0)] (tc_wM mm cmm th iu ki mu fs ss tx us te my mo mz mi iz ma mf mp od ar lw oc sk sa sl pp re rd co dq bo lc) (fun rv ru => (∃ (mig : Nat → Nat), rv = none ∧ ru = tc_wM mm cmm 0 iu ki mu fs ss tx us te my mo mz mig mz 0 mf mp od ar lw oc sk sa sl pp re rd co dq bo lc ∧ (∀ j, j < mz → mig j = mo j))) := by
  refine xk_enter (by decide) (Nat.le_of_ble_eq_true rfl) (fun K C T hin => ?_)
  show xk_Go K D 2 0 0 (tc_wM mm cmm th iu ki mu fs ss tx us te my mo mz mi iz ma mf mp od ar lw oc sk sa sl pp re rd co dq bo lc) [(0, .ref (mm 0))] 0 []
  refine x_aload_n C dM_turn_0 rfl 0 rfl ?_
  refine x_iconst (v := nI 0) C dM_turn_1 (by decide) ?_
  refine x_put C fpM_77 0 (tc_wM mm cmm 0 iu ki mu fs ss tx us te my mo mz mi iz ma mf mp od ar lw oc sk sa sl pp re rd co dq bo lc) rfl rfl rfl rfl (Nat.le_of_ble_eq_true rfl) dM_turn_2 ?_
  refine x_aload_n C dM_turn_5 rfl 0 rfl ?_
  refine x_aload_n C dM_turn_6 rfl 0 rfl ?_
  refine x_get C fgM_146 0 rfl rfl dM_turn_7 ?_
  refine x_put C fpM_159 0 (tc_wM mm cmm 0 iu ki mu fs ss tx us te my mo mz mi mz ma mf mp od ar lw oc sk sa sl pp re rd co dq bo lc) rfl rfl rfl rfl (Nat.le_of_ble_eq_true rfl) dM_turn_10 ?_
  refine x_iconst (v := nI 0) C dM_turn_13 (by decide) ?_
  refine x_istore_n C [(1, .int (nI 0)), (0, .ref (mm 0))] dM_turn_14 rfl (by decide) rfl ?_
  have lp15 : ∀ (zc : Nat) (k : Nat) (mig : Nat → Nat), (mz - k) < zc → (k ≤ mz) → (∀ j, j < k → mig j = mo j) → xk_Go K D 2 0 0 (tc_wM mm cmm 0 iu ki mu fs ss tx us te my mo mz mig mz ma mf mp od ar lw oc sk sa sl pp re rd co dq bo lc) [(0, .ref (mm 0)), (1, .int (nI k))] 15 [] := by
    intro zc
    induction zc with
    | zero => intro k mig hm; exact absurd hm (Nat.not_lt_zero _)
    | succ zc ih15 =>
      intro k mig hm e1 e2
      refine x_iload_n C dM_turn_15 rfl 1 rfl ?_
      refine x_aload_n C dM_turn_16 rfl 0 rfl ?_
      refine x_get C fgM_146 0 rfl rfl dM_turn_17 ?_
      refine x_icmp_geN (tgt := 41) C (by omega) (by omega) dM_turn_20 (by decide) (fun h20 => ?_) (fun h20 => ?_)
      ·
        refine x_aload_n C dM_turn_41 rfl 0 rfl ?_
        refine x_iconst (v := nI 0) C dM_turn_42 (by decide) ?_
        refine x_put C fpM_162 0 (tc_wM mm cmm 0 iu ki mu fs ss tx us te my mo mz mig mz 0 mf mp od ar lw oc sk sa sl pp re rd co dq bo lc) rfl rfl rfl rfl (Nat.le_of_ble_eq_true rfl) dM_turn_43 ?_
        exact x_vret C T rfl dM_turn_46 (⟨mig, rfl, rfl, (fun j hj => e2 j (by omega))⟩)
      ·
        refine x_aload_n C dM_turn_23 rfl 0 rfl ?_
        refine x_get C fgM_37 0 rfl rfl dM_turn_24 ?_
        refine x_iload_n C dM_turn_27 rfl 1 rfl ?_
        refine x_aload_n C dM_turn_28 rfl 0 rfl ?_
        refine x_get C fgM_34 0 rfl rfl dM_turn_29 ?_
        refine x_iload_n C dM_turn_32 rfl 1 rfl ?_
        refine x_bld C 8 7 rfl rfl (by omega) (by decide) dM_turn_33 ?_
        show xk_Go K D 2 0 0 (tc_wM mm cmm 0 iu ki mu fs ss tx us te my mo mz mig mz ma mf mp od ar lw oc sk sa sl pp re rd co dq bo lc) [(0, .ref (mm 0)), (1, .int (nI k))] 34 [.int (xk_sb (mo k)), .int (nI k), .ref (mm 9)]
        refine x_bst C 9 8 (tc_wM mm cmm 0 iu ki mu fs ss tx us te my mo mz (va_up mig k (mo k)) mz ma mf mp od ar lw oc sk sa sl pp re rd co dq bo lc) rfl rfl ((congrArg _ (xk_sb_nar (mo k))).trans (xk_bA_up mig k (mo k))) rfl (by omega) (by decide) dM_turn_34 ?_
        refine x_iinc (q := 1) C (nI (k + 1)) [(1, .int (nI (k + 1))), (0, .ref (mm 0))] dM_turn_35 rfl (nI_add k 1) (by decide) rfl ?_
        refine x_goto C 15 dM_turn_38 (by decide) ?_
        exact x_sub [1, 0] rfl (ih15 (k + 1) (va_up mig k (mo k)) (by omega) (by omega) (fun j hj => by by_cases q : j = k; rw [q, va_up_self]; rw [va_up_ne _ _ q]; exact e2 j (by omega)))
  exact x_sub [1, 0] rfl (lp15 _ 0 mi (Nat.lt_succ_self _) (Nat.zero_le _) (fun j hj => absurd hj (Nat.not_lt_zero _)))
set_option maxHeartbeats 4000000 in
set_option maxRecDepth 100000 in
/-- output -/
theorem c_M_output (D : va_G) (mm : Nat → Nat) (cmm : Nat → ClassId) (th : Nat) (iu : Nat → Bool) (ki : Nat → Nat) (mu : Nat → Int64) (fs : Nat → Option Nat) (ss : Nat → Option Nat) (tx : Nat → Nat) (us : Nat) (te : Nat → Nat) (my : Nat) (mo : Nat → Nat) (mz : Nat) (mi : Nat → Nat) (iz : Nat) (ma : Nat) (mf : Nat) (mp : Option Nat) (od : Nat → Nat) (ar : Nat → Option Nat) (lw : Nat → Nat) (oc : Nat) (sk : Nat → Nat) (sa : Nat → Option Nat) (sl : Nat → Nat) (pp : Nat) (re : Nat → Nat) (rd : Nat) (co : Nat → Nat) (dq : Nat → Nat) (bo : Nat → Nat) (lc : Nat → Nat) (k : Int32) (y1 : mz ≤ 4096) : xk_Ct yM_output cM_output 2 (some .int) { frames := 0, cells := 0, slots := 0, locals := 0 } D (tc_tM cmm) [.ref (mm 0), .int k] (tc_wM mm cmm th iu ki mu fs ss tx us te my mo mz mi iz ma mf mp od ar lw oc sk sa sl pp re rd co dq bo lc) (fun rv ru => (rv = some (.int (xk_oI none)) ∧ ru = tc_wM mm cmm 0 iu ki mu fs ss tx us te my mo mz mi iz ma mf mp od ar lw oc sk sa sl pp re rd co dq bo lc ∧ (∀ j, j < mz → k ≠ nI j)) ∨ (∃ (j : Nat), rv = some (.int (nI (mo j % 256))) ∧ ru = tc_wM mm cmm 0 iu ki mu fs ss tx us te my mo mz mi iz ma mf mp od ar lw oc sk sa sl pp re rd co dq bo lc ∧ (k = nI j) ∧ (j < mz))) := by
  refine xk_enter (by decide) (Nat.le_of_ble_eq_true rfl) (fun K C T hin => ?_)
  show xk_Go K D 2 0 0 (tc_wM mm cmm th iu ki mu fs ss tx us te my mo mz mi iz ma mf mp od ar lw oc sk sa sl pp re rd co dq bo lc) [(0, .ref (mm 0)), (1, .int k)] 0 []
  refine x_aload_n C dM_output_0 rfl 0 rfl ?_
  refine x_iconst (v := nI 0) C dM_output_1 (by decide) ?_
  refine x_put C fpM_77 0 (tc_wM mm cmm 0 iu ki mu fs ss tx us te my mo mz mi iz ma mf mp od ar lw oc sk sa sl pp re rd co dq bo lc) rfl rfl rfl rfl (Nat.le_of_ble_eq_true rfl) dM_output_2 ?_
  refine x_iload_n C dM_output_5 rfl 1 rfl ?_
  refine x_if_lt (tgt := 17) C dM_output_6 (by decide) (fun h6 => ?_) (fun h6 => ?_)
  ·
    refine x_iconst (v := xk_oI none) C dM_output_17 (by decide) ?_
    refine x_goto C 31 dM_output_18 (by decide) ?_
    exact x_iret C T .int rfl rfl dM_output_31 (Or.inl (⟨rfl, rfl, (fun j hj e => nI_pos (n := j) (by omega) (e ▸ h6))⟩))
  ·
    obtain ⟨j, hj, rfl⟩ := nI_of h6
    refine x_iload_n C dM_output_9 rfl 1 rfl ?_
    refine x_aload_n C dM_output_10 rfl 0 rfl ?_
    refine x_get C fgM_146 0 rfl rfl dM_output_11 ?_
    refine x_icmp_ltN (tgt := 21) C (by omega) (by omega) dM_output_14 (by decide) (fun h14 => ?_) (fun h14 => ?_)
    ·
      refine x_aload_n C dM_output_21 rfl 0 rfl ?_
      refine x_get C fgM_34 0 rfl rfl dM_output_22 ?_
      refine x_iload_n C dM_output_25 rfl 1 rfl ?_
      refine x_bld C 8 7 rfl rfl (by omega) (by decide) dM_output_26 ?_
      show xk_Go K D 2 0 0 (tc_wM mm cmm 0 iu ki mu fs ss tx us te my mo mz mi iz ma mf mp od ar lw oc sk sa sl pp re rd co dq bo lc) [(0, .ref (mm 0)), (1, .int (nI j))] 27 [.int (xk_sb (mo j))]
      refine x_sipush (v := nI 255) C dM_output_27 (by decide) ?_
      refine x_iand C dM_output_30 ?_
      refine x_top (xk_sb_and (mo j)) ?_
      exact x_iret C T .int rfl rfl dM_output_31 (Or.inr (⟨j, rfl, rfl, rfl, h14⟩))
    ·
      refine x_iconst (v := xk_oI none) C dM_output_17 (by decide) ?_
      refine x_goto C 31 dM_output_18 (by decide) ?_
      exact x_iret C T .int rfl rfl dM_output_31 (Or.inl (⟨rfl, rfl, (fun i hi e => by have := (nI_eq hj (by omega)).mp e; omega)⟩))
