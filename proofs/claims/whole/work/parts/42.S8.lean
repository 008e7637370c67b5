set_option maxHeartbeats 4000000 in
set_option maxRecDepth 100000 in
/-- alike -/
theorem c_S_alike (D : va_G) (a : Nat → Nat) (ca : Nat → ClassId) (kn : Nat → Nat) (nu : Nat → Int64) (wo : Nat → Int64) (si : Nat → Nat) (de : Nat → Nat) (la : Nat → Nat) (le : Nat → Nat) (ro : Nat → Nat) (tm : Nat) (nd : Nat) (i : Nat) (j : Nat) (x : tc_Nd) (Rx : List tc_Nd) (y : tc_Nd) (Ry : List tc_Nd) (y1 : i < 200) (y2 : j < 200) (y3 : tc_nd (kn, nu, wo, si, de, la, le) i x Rx) (y4 : tc_nd (kn, nu, wo, si, de, la, le) j y Ry) (y5 : tc_okn x) (y6 : tc_okn y) : xk_Ct yS_alike cS_alike 4 (some .boolean) { frames := 2, cells := 0, slots := 0, locals := 45 } D (tc_tS ca) [.ref (a 0), .int (nI i), .int (nI j)] (tc_wS a ca kn nu wo si de la le ro tm nd) (fun rv ru => (rv = some (.int (xk_bZ (decide (x = y)))) ∧ ru = tc_wS a ca kn nu wo si de la le ro tm nd)) := by
  refine xk_enter (by decide) (Nat.le_of_ble_eq_true rfl) (fun K C T hin => ?_)
  have yx := y5.1
  have yy := y6.1
  have y64 := y5.2.2.2.2.1
  have q3 := y3.1
  have q4 := y4.1
  show xk_Go K D 4 0 0 (tc_wS a ca kn nu wo si de la le ro tm nd) [(0, .ref (a 0)), (1, .int (nI i)), (2, .int (nI j))] 0 []
  refine x_aload_n C dS_alike_0 rfl 0 rfl ?_
  refine x_get C fgS_9 0 rfl rfl dS_alike_1 ?_
  refine x_iload_n C dS_alike_4 rfl 1 rfl ?_
  refine x_ild C 1 0 rfl rfl (by omega) (by decide) dS_alike_5 ?_
  show xk_Go K D 4 0 0 (tc_wS a ca kn nu wo si de la le ro tm nd) [(0, .ref (a 0)), (1, .int (nI i)), (2, .int (nI j))] 6 [.int (nI (kn i))]
  refine x_aload_n C dS_alike_6 rfl 0 rfl ?_
  refine x_get C fgS_9 0 rfl rfl dS_alike_7 ?_
  refine x_iload_n C dS_alike_10 rfl 2 rfl ?_
  refine x_ild C 1 0 rfl rfl (by omega) (by decide) dS_alike_11 ?_
  show xk_Go K D 4 0 0 (tc_wS a ca kn nu wo si de la le ro tm nd) [(0, .ref (a 0)), (1, .int (nI i)), (2, .int (nI j))] 12 [.int (nI (kn j)), .int (nI (kn i))]
  refine x_icmp_neN (tgt := 31) C (by omega) (by omega) dS_alike_12 (by decide) (fun h12 => ?_) (fun h12 => ?_)
  ·
    refine x_iconst (v := nI 0) C dS_alike_31 (by decide) ?_
    exact x_iret C T .boolean rfl rfl dS_alike_32 (⟨by rw [show decide (x = y) = false from decide_eq_false (fun z => h12 (by rw [q3, q4, z]))]; rfl, rfl⟩)
  ·
    refine x_aload_n C dS_alike_15 rfl 0 rfl ?_
    refine x_get C fgS_15 0 rfl rfl dS_alike_16 ?_
    refine x_iload_n C dS_alike_19 rfl 1 rfl ?_
    refine x_lld C 2 1 rfl rfl (by omega) (by decide) dS_alike_20 ?_
    refine x_aload_n C dS_alike_21 rfl 0 rfl ?_
    refine x_get C fgS_15 0 rfl rfl dS_alike_22 ?_
    refine x_iload_n C dS_alike_25 rfl 2 rfl ?_
    refine x_lld C 2 1 rfl rfl (by omega) (by decide) dS_alike_26 ?_
    refine x_lcmp C dS_alike_27 ?_
    refine x_if_eqC (tgt := 33) C dS_alike_28 (by decide) (fun h28 => ?_) (fun h28 => ?_)
    ·
      refine x_iconst (v := nI 0) C dS_alike_33 (by decide) ?_
      refine x_istore_n C [(3, .int (nI 0)), (0, .ref (a 0)), (1, .int (nI i)), (2, .int (nI j))] dS_alike_34 rfl (by decide) rfl ?_
      have lp35 : ∀ (zc : Nat) (q : Nat), (x.2.2.length - q) < zc → (q ≤ x.2.2.length) → (∀ t, t < q → tc_wb wo i t = tc_wb wo j t) → xk_Go K D 4 0 0 (tc_wS a ca kn nu wo si de la le ro tm nd) [(0, .ref (a 0)), (1, .int (nI i)), (2, .int (nI j)), (3, .int (nI q))] 35 [] := by
        intro zc
        induction zc with
        | zero => intro q hm; exact absurd hm (Nat.not_lt_zero _)
        | succ zc ih35 =>
          intro q hm e1 e2
          refine x_iload_n C dS_alike_35 rfl 3 rfl ?_
          refine x_aload_n C dS_alike_36 rfl 0 rfl ?_
          refine x_iload_n C dS_alike_37 rfl 1 rfl ?_
          refine x_callV C (c_S_byteCount D a ca kn nu wo si de la le ro tm nd i x.2.2.length y1 (by rw [y3.1]; omega) (fun q => by rw [y3.2.1]; exact y5.2.2.1 (y3.1 ▸ q))) kbS_87 kcS_87 [0, 1, 2, 3, 4, 5, 6, 7, 8] [] [0, 1, 2, 3, 4, 5, 6, 7] ([]) rfl rfl (by decide) (by decide) (by decide) rfl 0 rfl rfl ⟨Nat.le_of_ble_eq_true rfl, Nat.le_of_ble_eq_true rfl⟩ ⟨Nat.le_of_ble_eq_true rfl, Nat.le_of_ble_eq_true rfl⟩ [.int (nI q)] rfl rfl (Nat.le_of_ble_eq_true rfl) dS_alike_38 (fun rv ru hw => ?_)
          rcases hw with ⟨rfl, rfl, g1b⟩ | ⟨rfl, rfl, g1b⟩
          ·
            show xk_Go K D 4 0 0 (tc_wS a ca kn nu wo si de la le ro tm nd) [(0, .ref (a 0)), (1, .int (nI i)), (2, .int (nI j)), (3, .int (nI q))] 41 [.int (nI x.2.2.length), .int (nI q)]
            refine x_icmp_geN (tgt := 67) C (by omega) (by omega) dS_alike_41 (by decide) (fun h41 => ?_) (fun h41 => ?_)
            ·
              refine x_iconst (v := nI 1) C dS_alike_67 (by decide) ?_
              exact x_iret C T .boolean rfl rfl dS_alike_68 (⟨by rw [show decide (x = y) = true from decide_eq_true (tc_al_8 y3 y4 y5 y6 h12 h28 g1b (fun t ht => e2 t (by omega)))]; rfl, rfl⟩)
            ·
              refine x_aload_n C dS_alike_44 rfl 0 rfl ?_
              refine x_iload_n C dS_alike_45 rfl 1 rfl ?_
              refine x_iload_n C dS_alike_46 rfl 3 rfl ?_
              refine x_callV C (c_S_byteIn D a ca kn nu wo si de la le ro tm nd i q y1 (by omega)) kbS_119 kcS_119 [0, 1, 2, 3, 4, 5, 6, 7, 8] [] [0, 1, 2, 3, 4, 5, 6, 7] ([]) rfl rfl (by decide) (by decide) (by decide) rfl 0 rfl rfl ⟨Nat.le_of_ble_eq_true rfl, Nat.le_of_ble_eq_true rfl⟩ ⟨Nat.le_of_ble_eq_true rfl, Nat.le_of_ble_eq_true rfl⟩ [] rfl rfl (Nat.le_of_ble_eq_true rfl) dS_alike_47 (fun rv ru hw => ?_)
              obtain ⟨rfl, rfl⟩ := hw
              show xk_Go K D 4 0 0 (tc_wS a ca kn nu wo si de la le ro tm nd) [(0, .ref (a 0)), (1, .int (nI i)), (2, .int (nI j)), (3, .int (nI q))] 50 [.int (nI (tc_wb wo i q))]
              refine x_aload_n C dS_alike_50 rfl 0 rfl ?_
              refine x_iload_n C dS_alike_51 rfl 2 rfl ?_
              refine x_iload_n C dS_alike_52 rfl 3 rfl ?_
              refine x_callV C (c_S_byteIn D a ca kn nu wo si de la le ro tm nd j q y2 (by omega)) kbS_119 kcS_119 [0, 1, 2, 3, 4, 5, 6, 7, 8] [] [0, 1, 2, 3, 4, 5, 6, 7] ([]) rfl rfl (by decide) (by decide) (by decide) rfl 0 rfl rfl ⟨Nat.le_of_ble_eq_true rfl, Nat.le_of_ble_eq_true rfl⟩ ⟨Nat.le_of_ble_eq_true rfl, Nat.le_of_ble_eq_true rfl⟩ [.int (nI (tc_wb wo i q))] rfl rfl (Nat.le_of_ble_eq_true rfl) dS_alike_53 (fun rv ru hw => ?_)
              obtain ⟨rfl, rfl⟩ := hw
              show xk_Go K D 4 0 0 (tc_wS a ca kn nu wo si de la le ro tm nd) [(0, .ref (a 0)), (1, .int (nI i)), (2, .int (nI j)), (3, .int (nI q))] 56 [.int (nI (tc_wb wo j q)), .int (nI (tc_wb wo i q))]
              refine x_icmp_eqN (tgt := 61) C (by have := tc_by_lt (wo (i * 8 + q / 8)) (7 - q % 8); have := tc_by_lt (wo (j * 8 + q / 8)) (7 - q % 8); unfold tc_wb; omega) (by have := tc_by_lt (wo (i * 8 + q / 8)) (7 - q % 8); have := tc_by_lt (wo (j * 8 + q / 8)) (7 - q % 8); unfold tc_wb; omega) dS_alike_56 (by decide) (fun h56 => ?_) (fun h56 => ?_)
              ·
                refine x_iinc (q := 3) C (nI (q + 1)) [(3, .int (nI (q + 1))), (0, .ref (a 0)), (1, .int (nI i)), (2, .int (nI j))] dS_alike_61 rfl (nI_add q 1) (by decide) rfl ?_
                refine x_goto C 35 dS_alike_64 (by decide) ?_
                exact x_sub [1, 2, 3, 0] rfl (ih35 (q + 1) (by omega) (by omega) (fun t ht => by rcases Nat.lt_or_ge t q with z | z; exact e2 t z; rw [show t = q by omega]; exact h56))
              ·
                refine x_iconst (v := nI 0) C dS_alike_59 (by decide) ?_
                exact x_iret C T .boolean rfl rfl dS_alike_60 (⟨by rw [show decide (x = y) = false from decide_eq_false (fun z => h56 (tc_al_at y3 y4 z (by omega)))]; rfl, rfl⟩)
          ·
            show xk_Go K D 4 0 0 (tc_wS a ca kn nu wo si de la le ro tm nd) [(0, .ref (a 0)), (1, .int (nI i)), (2, .int (nI j)), (3, .int (nI q))] 41 [.int (xk_oI none), .int (nI q)]
            refine x_icmp_ge (tgt := 67) C dS_alike_41 (by decide) (fun _ => ?_) (fun h => absurd (xk_none_le (by omega)) h)
            refine x_iconst (v := nI 1) C dS_alike_67 (by decide) ?_
            exact x_iret C T .boolean rfl rfl dS_alike_68 (⟨by rw [show decide (x = y) = true from decide_eq_true (tc_al_n y3 y4 y5 y6 h12 h28 g1b)]; rfl, rfl⟩)
      exact x_sub [1, 2, 3, 0] rfl (lp35 _ 0 (Nat.lt_succ_self _) (Nat.zero_le _) (fun t ht => absurd ht (Nat.not_lt_zero _)))
    ·
      refine x_iconst (v := nI 0) C dS_alike_31 (by decide) ?_
      exact x_iret C T .boolean rfl rfl dS_alike_32 (⟨by rw [show decide (x = y) = false from decide_eq_false (fun z => h28 (by rw [y3.2.1, y4.2.1, z]))]; rfl, rfl⟩)
