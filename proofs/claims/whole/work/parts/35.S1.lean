set_option maxHeartbeats 4000000 in
set_option maxRecDepth 100000 in
/-- isPlace, of a place -/
theorem c_S_isPlace (D : va_G) (i : Nat) (y1 : i < 200) : xk_Ct yS_isPlace cS_isPlace 1 (some .boolean) { frames := 0, cells := 0, slots := 0, locals := 0 } D ([]) [.int (nI i)] ([]) (fun rv ru => (rv = some (.int (nI 1)) ∧ ru = [])) := by
  refine xk_enter (by decide) (Nat.le_of_ble_eq_true rfl) (fun K C T hin => ?_)
  show xk_Go K D 1 0 0 ([]) [(0, .int (nI i))] 0 []
  refine x_iload_n C dS_isPlace_0 rfl 0 rfl ?_
  refine x_if_ltN (tgt := 15) C (by omega) dS_isPlace_1 (by decide) ?_
  refine x_iload_n C dS_isPlace_4 rfl 0 rfl ?_
  refine x_sipush (v := nI 200) C dS_isPlace_5 (by decide) ?_
  refine x_icmp_geN (tgt := 15) C (by omega) (by decide) dS_isPlace_8 (by decide) (fun h8 => ?_) (fun h8 => ?_)
  ·
    exact absurd h8 (by omega)
  ·
    refine x_iconst (v := nI 1) C dS_isPlace_11 (by decide) ?_
    refine x_goto C 16 dS_isPlace_12 (by decide) ?_
    exact x_iret C T .boolean rfl rfl dS_isPlace_16 (⟨rfl, rfl⟩)
set_option maxHeartbeats 4000000 in
set_option maxRecDepth 100000 in
/-- rootOf -/
theorem c_S_rootOf (D : va_G) (a : Nat → Nat) (ca : Nat → ClassId) (kn : Nat → Nat) (nu : Nat → Int64) (wo : Nat → Int64) (si : Nat → Nat) (de : Nat → Nat) (la : Nat → Nat) (le : Nat → Nat) (ro : Nat → Nat) (tm : Nat) (nd : Nat) (ot : Option Nat) (y1 : tm ≤ 200) (y2 : ∀ t, ot = some t → t < tm ∧ ro t < 200) : xk_Ct yS_rootOf cS_rootOf 2 (some .int) { frames := 1, cells := 0, slots := 0, locals := 20 } D (tc_tS ca) [.ref (a 0), .int (xk_oI ot)] (tc_wS a ca kn nu wo si de la le ro tm nd) (fun rv ru => (rv = some (.int (xk_oI (ot.map ro))) ∧ ru = tc_wS a ca kn nu wo si de la le ro tm nd)) := by
  refine xk_enter (by decide) (Nat.le_of_ble_eq_true rfl) (fun K C T hin => ?_)
  show xk_Go K D 2 0 0 (tc_wS a ca kn nu wo si de la le ro tm nd) [(0, .ref (a 0)), (1, .int (xk_oI ot))] 0 []
  refine x_iload_n C dS_rootOf_0 rfl 1 rfl ?_
  refine x_if_ltO (tgt := 19) C (fun v hv => by have := (y2 v hv).1; omega) dS_rootOf_1 (by decide) (fun h1 => ?_) (fun t h1 => ?_)
  ·
    rw [h1]
    show xk_Go K D 2 0 0 (tc_wS a ca kn nu wo si de la le ro tm nd) [(0, .ref (a 0)), (1, .int (xk_oI none))] 19 []
    refine x_iconst (v := xk_oI none) C dS_rootOf_19 (by decide) ?_
    exact x_iret C T .int rfl rfl dS_rootOf_20 (⟨by subst h1; rfl, rfl⟩)
  ·
    rw [h1]
    show xk_Go K D 2 0 0 (tc_wS a ca kn nu wo si de la le ro tm nd) [(0, .ref (a 0)), (1, .int (nI t))] 4 []
    obtain ⟨q1, q2⟩ := y2 t h1
    refine x_iload_n C dS_rootOf_4 rfl 1 rfl ?_
    refine x_aload_n C dS_rootOf_5 rfl 0 rfl ?_
    refine x_get C fgS_37 0 rfl rfl dS_rootOf_6 ?_
    refine x_icmp_geN (tgt := 19) C (by omega) (by omega) dS_rootOf_9 (by decide) (fun h9 => ?_) (fun h9 => ?_)
    ·
      exact absurd h9 (by omega)
    ·
      refine x_iload_n C dS_rootOf_12 rfl 1 rfl ?_
      refine x_sipush (v := nI 200) C dS_rootOf_13 (by decide) ?_
      refine x_icmp_ltN (tgt := 21) C (by omega) (by decide) dS_rootOf_16 (by decide) (fun h16 => ?_) (fun h16 => ?_)
      ·
        refine x_aload_n C dS_rootOf_21 rfl 0 rfl ?_
        refine x_get C fgS_34 0 rfl rfl dS_rootOf_22 ?_
        refine x_iload_n C dS_rootOf_25 rfl 1 rfl ?_
        refine x_ild C 8 7 rfl rfl (by omega) (by decide) dS_rootOf_26 ?_
        show xk_Go K D 2 0 0 (tc_wS a ca kn nu wo si de la le ro tm nd) [(0, .ref (a 0)), (1, .int (nI t))] 27 [.int (nI (ro t))]
        refine x_callS C (c_S_isPlace D (ro t) q2) kbS_44 kcS_44 [] [0, 1, 2, 3, 4, 5, 6, 7, 8] [] (tc_wS a ca kn nu wo si de la le ro tm nd) rfl rfl (by decide) (by decide) (by decide) rfl ⟨Nat.le_of_ble_eq_true rfl, Nat.le_of_ble_eq_true rfl⟩ ⟨Nat.le_of_ble_eq_true rfl, Nat.le_of_ble_eq_true rfl⟩ [] rfl rfl (Nat.le_of_ble_eq_true rfl) dS_rootOf_27 (fun rv ru hw => ?_)
        obtain ⟨rfl, rfl⟩ := hw
        show xk_Go K D 2 0 0 (tc_wS a ca kn nu wo si de la le ro tm nd) [(0, .ref (a 0)), (1, .int (nI t))] 30 [.int (nI 1)]
        refine x_if_eq (tgt := 42) C dS_rootOf_30 (by decide) (fun h => absurd h (by decide)) (fun _ => ?_)
        refine x_aload_n C dS_rootOf_33 rfl 0 rfl ?_
        refine x_get C fgS_34 0 rfl rfl dS_rootOf_34 ?_
        refine x_iload_n C dS_rootOf_37 rfl 1 rfl ?_
        refine x_ild C 8 7 rfl rfl (by omega) (by decide) dS_rootOf_38 ?_
        show xk_Go K D 2 0 0 (tc_wS a ca kn nu wo si de la le ro tm nd) [(0, .ref (a 0)), (1, .int (nI t))] 39 [.int (nI (ro t))]
        refine x_goto C 43 dS_rootOf_39 (by decide) ?_
        exact x_iret C T .int rfl rfl dS_rootOf_43 (⟨by subst h1; rfl, rfl⟩)
      ·
        exact absurd h16 (by omega)
set_option maxHeartbeats 4000000 in
set_option maxRecDepth 100000 in
/-- lastRoot -/
theorem c_S_lastRoot (D : va_G) (a : Nat → Nat) (ca : Nat → ClassId) (kn : Nat → Nat) (nu : Nat → Int64) (wo : Nat → Int64) (si : Nat → Nat) (de : Nat → Nat) (la : Nat → Nat) (le : Nat → Nat) (ro : Nat → Nat) (tm : Nat) (nd : Nat) (y1 : tm ≤ 200) (y2 : 0 < tm → ro (tm - 1) < 200) : xk_Ct yS_lastRoot cS_lastRoot 1 (some .int) { frames := 2, cells := 0, slots := 0, locals := 41 } D (tc_tS ca) [.ref (a 0)] (tc_wS a ca kn nu wo si de la le ro tm nd) (fun rv ru => (rv = some (.int (xk_oI none)) ∧ ru = tc_wS a ca kn nu wo si de la le ro tm nd ∧ (tm = 0)) ∨ (rv = some (.int (nI (ro (tm - 1)))) ∧ ru = tc_wS a ca kn nu wo si de la le ro tm nd ∧ (0 < tm))) := by
  refine xk_enter (by decide) (Nat.le_of_ble_eq_true rfl) (fun K C T hin => ?_)
  show xk_Go K D 1 0 0 (tc_wS a ca kn nu wo si de la le ro tm nd) [(0, .ref (a 0))] 0 []
  refine x_aload_n C dS_lastRoot_0 rfl 0 rfl ?_
  refine x_aload_n C dS_lastRoot_1 rfl 0 rfl ?_
  refine x_get C fgS_37 0 rfl rfl dS_lastRoot_2 ?_
  refine x_iconst (v := nI 1) C dS_lastRoot_5 (by decide) ?_
  refine x_isub C dS_lastRoot_6 ?_
  refine x_top (tc_pr_sub tm) ?_
  refine x_callV C (c_S_rootOf D a ca kn nu wo si de la le ro tm nd (tc_pr tm) y1 (fun q hq => by have := tc_pr_some hq; subst this; exact ⟨Nat.lt_succ_self _, y2 (Nat.succ_pos _)⟩)) kbS_48 kcS_48 [0, 1, 2, 3, 4, 5, 6, 7, 8] [] [0, 1, 2, 3, 4, 5, 6, 7] ([]) rfl rfl (by decide) (by decide) (by decide) rfl 0 rfl rfl ⟨Nat.le_of_ble_eq_true rfl, Nat.le_of_ble_eq_true rfl⟩ ⟨Nat.le_of_ble_eq_true rfl, Nat.le_of_ble_eq_true rfl⟩ [] rfl rfl (Nat.le_of_ble_eq_true rfl) dS_lastRoot_7 (fun rv ru hw => ?_)
  obtain ⟨rfl, rfl⟩ := hw
  show xk_Go K D 1 0 0 (tc_wS a ca kn nu wo si de la le ro tm nd) [(0, .ref (a 0))] 10 [.int (xk_oI ((tc_pr tm).map ro))]
  rcases Nat.eq_zero_or_pos tm with hz | hz
  ·
    have hq : (tc_pr tm).map ro = none := by rw [hz]; rfl
    rw [hq]
    show xk_Go K D 1 0 0 (tc_wS a ca kn nu wo si de la le ro tm nd) [(0, .ref (a 0))] 10 [.int (xk_oI none)]
    exact x_iret C T .int rfl rfl dS_lastRoot_10 (Or.inl (⟨rfl, rfl, hz⟩))
  ·
    have hq : (tc_pr tm).map ro = some (ro (tm - 1)) := by rw [tc_pr_pos hz]; rfl
    rw [hq]
    show xk_Go K D 1 0 0 (tc_wS a ca kn nu wo si de la le ro tm nd) [(0, .ref (a 0))] 10 [.int (nI (ro (tm - 1)))]
    exact x_iret C T .int rfl rfl dS_lastRoot_10 (Or.inr (⟨rfl, rfl, hz⟩))
set_option maxHeartbeats 4000000 in
set_option maxRecDepth 100000 in
/-- find -/
theorem c_S_find (D : va_G) (a : Nat → Nat) (ca : Nat → ClassId) (kn : Nat → Nat) (nu : Nat → Int64) (wo : Nat → Int64) (si : Nat → Nat) (de : Nat → Nat) (la : Nat → Nat) (le : Nat → Nat) (ro : Nat → Nat) (tm : Nat) (nd : Nat) (k : Int32) (y1 : tm ≤ 200) (y2 : 0 < tm → ro (tm - 1) < 200) (y3 : 0 < tm → ro (tm - 1) + si (ro (tm - 1)) ≤ 200) : xk_Ct yS_find cS_find 3 (some .int) { frames := 3, cells := 0, slots := 0, locals := 61 } D (tc_tS ca) [.ref (a 0), .int k] (tc_wS a ca kn nu wo si de la le ro tm nd) (fun rv ru => (rv = some (.int (xk_oI none)) ∧ ru = tc_wS a ca kn nu wo si de la le ro tm nd ∧ (tm = 0 ∨ ∀ j, j < si (ro (tm - 1)) → k ≠ nI j)) ∨ (∃ (j : Nat), rv = some (.int (nI (ro (tm - 1) + j))) ∧ ru = tc_wS a ca kn nu wo si de la le ro tm nd ∧ (k = nI j) ∧ (j < si (ro (tm - 1))) ∧ (0 < tm))) := by
  refine xk_enter (by decide) (Nat.le_of_ble_eq_true rfl) (fun K C T hin => ?_)
  show xk_Go K D 3 0 0 (tc_wS a ca kn nu wo si de la le ro tm nd) [(0, .ref (a 0)), (1, .int k)] 0 []
  refine x_aload_n C dS_find_0 rfl 0 rfl ?_
  refine x_callV C (c_S_lastRoot D a ca kn nu wo si de la le ro tm nd y1 y2) kbS_52 kcS_52 [0, 1, 2, 3, 4, 5, 6, 7, 8] [] [0, 1, 2, 3, 4, 5, 6, 7] ([]) rfl rfl (by decide) (by decide) (by decide) rfl 0 rfl rfl ⟨Nat.le_of_ble_eq_true rfl, Nat.le_of_ble_eq_true rfl⟩ ⟨Nat.le_of_ble_eq_true rfl, Nat.le_of_ble_eq_true rfl⟩ [] rfl rfl (Nat.le_of_ble_eq_true rfl) dS_find_1 (fun rv ru hw => ?_)
  rcases hw with ⟨rfl, rfl, g1⟩ | ⟨rfl, rfl, g1⟩
  ·
    show xk_Go K D 3 0 0 (tc_wS a ca kn nu wo si de la le ro tm nd) [(0, .ref (a 0)), (1, .int k)] 4 [.int (xk_oI none)]
    refine x_istore_n C [(2, .int (xk_oI none)), (0, .ref (a 0)), (1, .int k)] dS_find_4 rfl (by decide) rfl ?_
    refine x_iload_n C dS_find_5 rfl 0 rfl ?_
    refine x_if_lt (tgt := 23) C dS_find_6 (by decide) (fun _ => ?_) (fun h => absurd (by decide) h)
    refine x_iconst (v := xk_oI none) C dS_find_23 (by decide) ?_
    exact x_iret C T .int rfl rfl dS_find_24 (Or.inl (⟨rfl, rfl, (Or.inl g1)⟩))
  ·
    show xk_Go K D 3 0 0 (tc_wS a ca kn nu wo si de la le ro tm nd) [(0, .ref (a 0)), (1, .int k)] 4 [.int (nI (ro (tm - 1)))]
    have y2 := y2 g1
    have y3 := y3 g1
    refine x_istore_n C [(2, .int (nI (ro (tm - 1)))), (0, .ref (a 0)), (1, .int k)] dS_find_4 rfl (by decide) rfl ?_
    refine x_iload_n C dS_find_5 rfl 0 rfl ?_
    refine x_if_ltN (tgt := 23) C (by omega) dS_find_6 (by decide) ?_
    refine x_iload_n C dS_find_9 rfl 2 rfl ?_
    refine x_if_lt (tgt := 23) C dS_find_10 (by decide) (fun h10 => ?_) (fun h10 => ?_)
    ·
      refine x_iconst (v := xk_oI none) C dS_find_23 (by decide) ?_
      exact x_iret C T .int rfl rfl dS_find_24 (Or.inl (⟨rfl, rfl, (Or.inr (fun j hj e => nI_pos (n := j) (by omega) (e ▸ h10)))⟩))
    ·
      obtain ⟨j, hj, rfl⟩ := nI_of h10
      refine x_iload_n C dS_find_13 rfl 2 rfl ?_
      refine x_aload_n C dS_find_14 rfl 1 rfl ?_
      refine x_get C fgS_22 0 rfl rfl dS_find_15 ?_
      refine x_iload_n C dS_find_18 rfl 0 rfl ?_
      refine x_ild C 4 3 rfl rfl (by omega) (by decide) dS_find_19 ?_
      show xk_Go K D 3 0 0 (tc_wS a ca kn nu wo si de la le ro tm nd) [(2, .int (nI (ro (tm - 1)))), (0, .ref (a 0)), (1, .int (nI j))] 20 [.int (nI (si (ro (tm - 1)))), .int (nI j)]
      refine x_icmp_ltN (tgt := 25) C (by omega) (by omega) dS_find_20 (by decide) (fun h20 => ?_) (fun h20 => ?_)
      ·
        refine x_iload_n C dS_find_25 rfl 0 rfl ?_
        refine x_iload_n C dS_find_26 rfl 2 rfl ?_
        refine x_iaddN C dS_find_27 ?_
        refine x_callS C (c_S_isPlace D (ro (tm - 1) + j) (by omega)) kbS_44 kcS_44 [] [0, 1, 2, 3, 4, 5, 6, 7, 8] [] (tc_wS a ca kn nu wo si de la le ro tm nd) rfl rfl (by decide) (by decide) (by decide) rfl ⟨Nat.le_of_ble_eq_true rfl, Nat.le_of_ble_eq_true rfl⟩ ⟨Nat.le_of_ble_eq_true rfl, Nat.le_of_ble_eq_true rfl⟩ [] rfl rfl (Nat.le_of_ble_eq_true rfl) dS_find_28 (fun rv ru hw => ?_)
        obtain ⟨rfl, rfl⟩ := hw
        show xk_Go K D 3 0 0 (tc_wS a ca kn nu wo si de la le ro tm nd) [(2, .int (nI (ro (tm - 1)))), (0, .ref (a 0)), (1, .int (nI j))] 31 [.int (nI 1)]
        refine x_if_eq (tgt := 40) C dS_find_31 (by decide) (fun h => absurd h (by decide)) (fun _ => ?_)
        refine x_iload_n C dS_find_34 rfl 0 rfl ?_
        refine x_iload_n C dS_find_35 rfl 2 rfl ?_
        refine x_iaddN C dS_find_36 ?_
        refine x_goto C 41 dS_find_37 (by decide) ?_
        exact x_iret C T .int rfl rfl dS_find_41 (Or.inr (⟨j, rfl, rfl, rfl, h20, g1⟩))
      ·
        refine x_iconst (v := xk_oI none) C dS_find_23 (by decide) ?_
        exact x_iret C T .int rfl rfl dS_find_24 (Or.inl (⟨rfl, rfl, (Or.inr (fun i hi e => by have := (nI_eq hj (by omega)).mp e; omega))⟩))
set_option maxHeartbeats 4000000 in
set_option maxRecDepth 100000 in
/-- lastLength -/
theorem c_S_lastLength (D : va_G) (a : Nat → Nat) (ca : Nat → ClassId) (kn : Nat → Nat) (nu : Nat → Int64) (wo : Nat → Int64) (si : Nat → Nat) (de : Nat → Nat) (la : Nat → Nat) (le : Nat → Nat) (ro : Nat → Nat) (tm : Nat) (nd : Nat) (y1 : tm ≤ 200) (y2 : 0 < tm → ro (tm - 1) < 200) : xk_Ct yS_lastLength cS_lastLength 2 (some .int) { frames := 3, cells := 0, slots := 0, locals := 61 } D (tc_tS ca) [.ref (a 0)] (tc_wS a ca kn nu wo si de la le ro tm nd) (fun rv ru => (rv = some (.int (xk_oI none)) ∧ ru = tc_wS a ca kn nu wo si de la le ro tm nd ∧ (tm = 0)) ∨ (rv = some (.int (nI (le (ro (tm - 1))))) ∧ ru = tc_wS a ca kn nu wo si de la le ro tm nd ∧ (0 < tm))) := by
  refine xk_enter (by decide) (Nat.le_of_ble_eq_true rfl) (fun K C T hin => ?_)
  show xk_Go K D 2 0 0 (tc_wS a ca kn nu wo si de la le ro tm nd) [(0, .ref (a 0))] 0 []
  refine x_aload_n C dS_lastLength_0 rfl 0 rfl ?_
  refine x_callV C (c_S_lastRoot D a ca kn nu wo si de la le ro tm nd y1 y2) kbS_52 kcS_52 [0, 1, 2, 3, 4, 5, 6, 7, 8] [] [0, 1, 2, 3, 4, 5, 6, 7] ([]) rfl rfl (by decide) (by decide) (by decide) rfl 0 rfl rfl ⟨Nat.le_of_ble_eq_true rfl, Nat.le_of_ble_eq_true rfl⟩ ⟨Nat.le_of_ble_eq_true rfl, Nat.le_of_ble_eq_true rfl⟩ [] rfl rfl (Nat.le_of_ble_eq_true rfl) dS_lastLength_1 (fun rv ru hw => ?_)
  rcases hw with ⟨rfl, rfl, g1⟩ | ⟨rfl, rfl, g1⟩
  ·
    show xk_Go K D 2 0 0 (tc_wS a ca kn nu wo si de la le ro tm nd) [(0, .ref (a 0))] 4 [.int (xk_oI none)]
    refine x_istore_n C [(1, .int (xk_oI none)), (0, .ref (a 0))] dS_lastLength_4 rfl (by decide) rfl ?_
    refine x_iload_n C dS_lastLength_5 rfl 0 rfl ?_
    refine x_if_ge (tgt := 13) C dS_lastLength_6 (by decide) (fun h => absurd h (by decide)) (fun _ => ?_)
    refine x_iconst (v := xk_oI none) C dS_lastLength_9 (by decide) ?_
    refine x_goto C 19 dS_lastLength_10 (by decide) ?_
    exact x_iret C T .int rfl rfl dS_lastLength_19 (Or.inl (⟨rfl, rfl, g1⟩))
  ·
    show xk_Go K D 2 0 0 (tc_wS a ca kn nu wo si de la le ro tm nd) [(0, .ref (a 0))] 4 [.int (nI (ro (tm - 1)))]
    have y2 := y2 g1
    refine x_istore_n C [(1, .int (nI (ro (tm - 1)))), (0, .ref (a 0))] dS_lastLength_4 rfl (by decide) rfl ?_
    refine x_iload_n C dS_lastLength_5 rfl 0 rfl ?_
    refine x_if_geN (tgt := 13) C (by omega) dS_lastLength_6 (by decide) ?_
    refine x_aload_n C dS_lastLength_13 rfl 1 rfl ?_
    refine x_get C fgS_31 0 rfl rfl dS_lastLength_14 ?_
    refine x_iload_n C dS_lastLength_17 rfl 0 rfl ?_
    refine x_ild C 7 6 rfl rfl (by omega) (by decide) dS_lastLength_18 ?_
    show xk_Go K D 2 0 0 (tc_wS a ca kn nu wo si de la le ro tm nd) [(1, .int (nI (ro (tm - 1)))), (0, .ref (a 0))] 19 [.int (nI (le (ro (tm - 1))))]
    exact x_iret C T .int rfl rfl dS_lastLength_19 (Or.inr (⟨rfl, rfl, g1⟩))
set_option maxHeartbeats 4000000 in
set_option maxRecDepth 100000 in
/-- parentOf -/
theorem c_S_parentOf (D : va_G) (a : Nat → Nat) (ca : Nat → ClassId) (kn : Nat → Nat) (nu : Nat → Int64) (wo : Nat → Int64) (si : Nat → Nat) (de : Nat → Nat) (la : Nat → Nat) (le : Nat → Nat) (ro : Nat → Nat) (tm : Nat) (nd : Nat) (k : Nat) (y1 : tm ≤ 200) (y2 : 0 < tm) (y3 : ro (tm - 1) + si (ro (tm - 1)) ≤ 200) (y4 : ∀ j, j < k → si (ro (tm - 1) + j) ≤ 200) (y5 : k < si (ro (tm - 1))) : xk_Ct yS_parentOf cS_parentOf 5 (some .int) { frames := 4, cells := 0, slots := 0, locals := 83 } D (tc_tS ca) [.ref (a 0), .int (nI k)] (tc_wS a ca kn nu wo si de la le ro tm nd) (fun rv ru => (∃ (j : Nat), rv = some (.int (nI j)) ∧ ru = tc_wS a ca kn nu wo si de la le ro tm nd ∧ (j < k) ∧ (k < j + si (ro (tm - 1) + j)) ∧ (∀ i, j < i → i < k → i + si (ro (tm - 1) + i) ≤ k)) ∨ (rv = some (.int (xk_oI none)) ∧ ru = tc_wS a ca kn nu wo si de la le ro tm nd ∧ (∀ i, i < k → i + si (ro (tm - 1) + i) ≤ k))) := by
  refine xk_enter (by decide) (Nat.le_of_ble_eq_true rfl) (fun K C T hin => ?_)
  show xk_Go K D 5 0 0 (tc_wS a ca kn nu wo si de la le ro tm nd) [(0, .ref (a 0)), (1, .int (nI k))] 0 []
  refine x_aload_n C dS_parentOf_0 rfl 0 rfl ?_
  refine x_iload_n C dS_parentOf_1 rfl 1 rfl ?_
  refine x_callV C (c_S_find D a ca kn nu wo si de la le ro tm nd (nI k) y1 (fun _ => by omega) (fun _ => y3)) kbS_56 kcS_56 [0, 1, 2, 3, 4, 5, 6, 7, 8] [] [0, 1, 2, 3, 4, 5, 6, 7] ([]) rfl rfl (by decide) (by decide) (by decide) rfl 0 rfl rfl ⟨Nat.le_of_ble_eq_true rfl, Nat.le_of_ble_eq_true rfl⟩ ⟨Nat.le_of_ble_eq_true rfl, Nat.le_of_ble_eq_true rfl⟩ [] rfl rfl (Nat.le_of_ble_eq_true rfl) dS_parentOf_2 (fun rv ru hw => ?_)
  rcases hw with ⟨rfl, rfl, g1f⟩ | ⟨jf, rfl, rfl, g1f, g2f, g3f⟩
  ·
    show xk_Go K D 5 0 0 (tc_wS a ca kn nu wo si de la le ro tm nd) [(0, .ref (a 0)), (1, .int (nI k))] 5 [.int (xk_oI none)]
    rcases g1f with g1f | g1f
    · exact absurd g1f (by omega)
    · exact absurd rfl (g1f k y5)
  ·
    show xk_Go K D 5 0 0 (tc_wS a ca kn nu wo si de la le ro tm nd) [(0, .ref (a 0)), (1, .int (nI k))] 5 [.int (nI (ro (tm - 1) + jf))]
    rw [show jf = k from ((nI_eq (by omega) (by omega)).mp g1f).symm]
    show xk_Go K D 5 0 0 (tc_wS a ca kn nu wo si de la le ro tm nd) [(0, .ref (a 0)), (1, .int (nI k))] 5 [.int (nI (ro (tm - 1) + k))]
    refine x_istore_n C [(2, .int (nI (ro (tm - 1) + k))), (0, .ref (a 0)), (1, .int (nI k))] dS_parentOf_5 rfl (by decide) rfl ?_
    refine x_aload_n C dS_parentOf_6 rfl 1 rfl ?_
    refine x_callV C (c_S_lastRoot D a ca kn nu wo si de la le ro tm nd y1 (fun _ => by omega)) kbS_52 kcS_52 [0, 1, 2, 3, 4, 5, 6, 7, 8] [] [0, 1, 2, 3, 4, 5, 6, 7] ([]) rfl rfl (by decide) (by decide) (by decide) rfl 0 rfl rfl ⟨Nat.le_of_ble_eq_true rfl, Nat.le_of_ble_eq_true rfl⟩ ⟨Nat.le_of_ble_eq_true rfl, Nat.le_of_ble_eq_true rfl⟩ [] rfl rfl (Nat.le_of_ble_eq_true rfl) dS_parentOf_7 (fun rv ru hw => ?_)
    rcases hw with ⟨rfl, rfl, g1⟩ | ⟨rfl, rfl, g1⟩
    ·
      show xk_Go K D 5 0 0 (tc_wS a ca kn nu wo si de la le ro tm nd) [(2, .int (nI (ro (tm - 1) + k))), (0, .ref (a 0)), (1, .int (nI k))] 10 [.int (xk_oI none)]
      exact absurd g1 (by omega)
    ·
      show xk_Go K D 5 0 0 (tc_wS a ca kn nu wo si de la le ro tm nd) [(2, .int (nI (ro (tm - 1) + k))), (0, .ref (a 0)), (1, .int (nI k))] 10 [.int (nI (ro (tm - 1)))]
      refine x_istore_n C [(3, .int (nI (ro (tm - 1)))), (2, .int (nI (ro (tm - 1) + k))), (0, .ref (a 0)), (1, .int (nI k))] dS_parentOf_10 rfl (by decide) rfl ?_
      refine x_iload_n C dS_parentOf_11 rfl 1 rfl ?_
      refine x_iconst (v := nI 1) C dS_parentOf_12 (by decide) ?_
      refine x_isub C dS_parentOf_13 ?_
      refine x_top (tc_pr_sub (ro (tm - 1) + k)) ?_
      refine x_istore C [(4, .int (xk_oI (tc_pr (ro (tm - 1) + k)))), (3, .int (nI (ro (tm - 1)))), (2, .int (nI (ro (tm - 1) + k))), (0, .ref (a 0)), (1, .int (nI k))] dS_parentOf_14 (by decide) rfl ?_
      have lp16 : ∀ (zc : Nat) (jn : Nat), jn < zc → (ro (tm - 1) ≤ jn) → (jn ≤ ro (tm - 1) + k) → (∀ i, jn ≤ i → i < ro (tm - 1) + k → i + si i ≤ ro (tm - 1) + k) → xk_Go K D 5 0 0 (tc_wS a ca kn nu wo si de la le ro tm nd) [(0, .ref (a 0)), (1, .int (nI k)), (2, .int (nI (ro (tm - 1) + k))), (3, .int (nI (ro (tm - 1)))), (4, .int (xk_oI (tc_pr jn)))] 16 [] := by
        intro zc
        induction zc with
        | zero => intro jn hm; exact absurd hm (Nat.not_lt_zero _)
        | succ zc ih16 =>
          intro jn hm e0 e1 e2
          refine x_iload C dS_parentOf_16 4 rfl ?_
          rcases jn with _ | j
          ·
            show xk_Go K D 5 0 0 (tc_wS a ca kn nu wo si de la le ro tm nd) [(0, .ref (a 0)), (1, .int (nI k)), (2, .int (nI (ro (tm - 1) + k))), (3, .int (nI (ro (tm - 1)))), (4, .int (xk_oI none))] 18 [.int (xk_oI none)]
            refine x_iload_n C dS_parentOf_18 rfl 3 rfl ?_
            refine x_icmp_lt (tgt := 52) C dS_parentOf_19 (by decide) (fun _ => ?_) (fun h => absurd (xk_none_lt (by omega)) h)
            refine x_iconst (v := xk_oI none) C dS_parentOf_52 (by decide) ?_
            exact x_iret C T .int rfl rfl dS_parentOf_53 (Or.inr (⟨rfl, rfl, (fun i q => by have := e2 (ro (tm - 1) + i) (by omega) (by omega); omega)⟩))
          ·
            show xk_Go K D 5 0 0 (tc_wS a ca kn nu wo si de la le ro tm nd) [(0, .ref (a 0)), (1, .int (nI k)), (2, .int (nI (ro (tm - 1) + k))), (3, .int (nI (ro (tm - 1)))), (4, .int (nI j))] 18 [.int (nI j)]
            refine x_iload_n C dS_parentOf_18 rfl 3 rfl ?_
            refine x_icmp_ltN (tgt := 52) C (by omega) (by omega) dS_parentOf_19 (by decide) (fun h19 => ?_) (fun h19 => ?_)
            ·
              refine x_iconst (v := xk_oI none) C dS_parentOf_52 (by decide) ?_
              exact x_iret C T .int rfl rfl dS_parentOf_53 (Or.inr (⟨rfl, rfl, (fun i q => by have := e2 (ro (tm - 1) + i) (by omega) (by omega); omega)⟩))
            ·
              have y4j : si j ≤ 200 := by have := y4 (j - ro (tm - 1)) (by omega); rwa [show ro (tm - 1) + (j - ro (tm - 1)) = j by omega] at this
              refine x_iload C dS_parentOf_22 4 rfl ?_
              refine x_if_ltN (tgt := 52) C (by omega) dS_parentOf_24 (by decide) ?_
              refine x_iload C dS_parentOf_27 4 rfl ?_
              refine x_aload_n C dS_parentOf_29 rfl 0 rfl ?_
              refine x_get C fgS_22 0 rfl rfl dS_parentOf_30 ?_
              refine x_iload C dS_parentOf_33 4 rfl ?_
              refine x_ild C 4 3 rfl rfl (by omega) (by decide) dS_parentOf_35 ?_
              show xk_Go K D 5 0 0 (tc_wS a ca kn nu wo si de la le ro tm nd) [(0, .ref (a 0)), (1, .int (nI k)), (2, .int (nI (ro (tm - 1) + k))), (3, .int (nI (ro (tm - 1)))), (4, .int (nI j))] 36 [.int (nI (si j)), .int (nI j)]
              refine x_iaddN C dS_parentOf_36 ?_
              refine x_iload_n C dS_parentOf_37 rfl 2 rfl ?_
              refine x_icmp_leN (tgt := 46) C (by omega) (by omega) dS_parentOf_38 (by decide) (fun h38 => ?_) (fun h38 => ?_)
              ·
                refine x_iinc (q := 4) C (xk_oI (tc_pr j)) [(4, .int (xk_oI (tc_pr j))), (0, .ref (a 0)), (1, .int (nI k)), (2, .int (nI (ro (tm - 1) + k))), (3, .int (nI (ro (tm - 1))))] dS_parentOf_46 rfl (tc_pr_dec j) (by decide) rfl ?_
                refine x_goto C 16 dS_parentOf_49 (by decide) ?_
                exact x_sub [1, 2, 3, 4, 0] rfl (ih16 j (by omega) (by omega) (by omega) (fun i q1 q2 => by rcases Nat.lt_or_ge j i with q | q; exact e2 i (by omega) q2; rw [show i = j by omega]; exact h38))
              ·
                refine x_iload C dS_parentOf_41 4 rfl ?_
                refine x_iload_n C dS_parentOf_43 rfl 3 rfl ?_
                refine x_isubN C (by omega) dS_parentOf_44 ?_
                exact x_iret C T .int rfl rfl dS_parentOf_45 (Or.inl (⟨(j - ro (tm - 1)), rfl, rfl, (by omega), (by rw [show ro (tm - 1) + (j - ro (tm - 1)) = j by omega]; omega), (fun i q1 q2 => by have := e2 (ro (tm - 1) + i) (by omega) (by omega); omega)⟩))
      exact x_sub [3, 4, 2, 1, 0] rfl (lp16 _ (ro (tm - 1) + k) (Nat.lt_succ_self _) (by omega) (Nat.le_refl _) (fun i h1 h2 => absurd h1 (by omega)))
set_option maxHeartbeats 4000000 in
set_option maxRecDepth 100000 in
/-- byteCount -/
theorem c_S_byteCount (D : va_G) (a : Nat → Nat) (ca : Nat → ClassId) (kn : Nat → Nat) (nu : Nat → Int64) (wo : Nat → Int64) (si : Nat → Nat) (de : Nat → Nat) (la : Nat → Nat) (le : Nat → Nat) (ro : Nat → Nat) (tm : Nat) (nd : Nat) (i : Nat) (cn : Nat) (y1 : i < 200) (y2 : kn i < 2 ^ 31) (y3 : kn i = 8 → nu i = lN cn) : xk_Ct yS_byteCount cS_byteCount 2 (some .int) { frames := 0, cells := 0, slots := 0, locals := 0 } D (tc_tS ca) [.ref (a 0), .int (nI i)] (tc_wS a ca kn nu wo si de la le ro tm nd) (fun rv ru => (rv = some (.int (nI cn)) ∧ ru = tc_wS a ca kn nu wo si de la le ro tm nd ∧ (kn i = 8)) ∨ (rv = some (.int (xk_oI none)) ∧ ru = tc_wS a ca kn nu wo si de la le ro tm nd ∧ (¬ kn i = 8))) := by
  refine xk_enter (by decide) (Nat.le_of_ble_eq_true rfl) (fun K C T hin => ?_)
  show xk_Go K D 2 0 0 (tc_wS a ca kn nu wo si de la le ro tm nd) [(0, .ref (a 0)), (1, .int (nI i))] 0 []
  refine x_aload_n C dS_byteCount_0 rfl 0 rfl ?_
  refine x_get C fgS_9 0 rfl rfl dS_byteCount_1 ?_
  refine x_iload_n C dS_byteCount_4 rfl 1 rfl ?_
  refine x_ild C 1 0 rfl rfl (by omega) (by decide) dS_byteCount_5 ?_
  show xk_Go K D 2 0 0 (tc_wS a ca kn nu wo si de la le ro tm nd) [(0, .ref (a 0)), (1, .int (nI i))] 6 [.int (nI (kn i))]
  refine x_bipush (v := nI 8) C dS_byteCount_6 (by decide) ?_
  refine x_icmp_neN (tgt := 21) C (by omega) (by decide) dS_byteCount_8 (by decide) (fun h8 => ?_) (fun h8 => ?_)
  ·
    refine x_iconst (v := xk_oI none) C dS_byteCount_21 (by decide) ?_
    exact x_iret C T .int rfl rfl dS_byteCount_22 (Or.inr (⟨rfl, rfl, h8⟩))
  ·
    refine x_aload_n C dS_byteCount_11 rfl 0 rfl ?_
    refine x_get C fgS_15 0 rfl rfl dS_byteCount_12 ?_
    refine x_iload_n C dS_byteCount_15 rfl 1 rfl ?_
    refine x_lld C 2 1 rfl rfl (by omega) (by decide) dS_byteCount_16 ?_
    refine x_l2i (v := nI cn) C dS_byteCount_17 (by rw [y3 h8]; exact lN_i cn) ?_
    refine x_goto C 22 dS_byteCount_18 (by decide) ?_
    exact x_iret C T .int rfl rfl dS_byteCount_22 (Or.inl (⟨rfl, rfl, h8⟩))
set_option maxHeartbeats 4000000 in
set_option maxRecDepth 100000 in
/-- byteIn -/
theorem c_S_byteIn (D : va_G) (a : Nat → Nat) (ca : Nat → ClassId) (kn : Nat → Nat) (nu : Nat → Int64) (wo : Nat → Int64) (si : Nat → Nat) (de : Nat → Nat) (la : Nat → Nat) (le : Nat → Nat) (ro : Nat → Nat) (tm : Nat) (nd : Nat) (i : Nat) (j : Nat) (y1 : i < 200) (y2 : j < 64) : xk_Ct yS_byteIn cS_byteIn 4 (some .int) { frames := 1, cells := 0, slots := 0, locals := 22 } D (tc_tS ca) [.ref (a 0), .int (nI i), .int (nI j)] (tc_wS a ca kn nu wo si de la le ro tm nd) (fun rv ru => (rv = some (.int (nI (tc_wb wo i j))) ∧ ru = tc_wS a ca kn nu wo si de la le ro tm nd)) := by
  refine xk_enter (by decide) (Nat.le_of_ble_eq_true rfl) (fun K C T hin => ?_)
  show xk_Go K D 4 0 0 (tc_wS a ca kn nu wo si de la le ro tm nd) [(0, .ref (a 0)), (1, .int (nI i)), (2, .int (nI j))] 0 []
  refine x_iload_n C dS_byteIn_0 rfl 1 rfl ?_
  refine x_bipush (v := nI 8) C dS_byteIn_1 (by decide) ?_
  refine x_imulN C dS_byteIn_3 ?_
  refine x_iload_n C dS_byteIn_4 rfl 2 rfl ?_
  refine x_bipush (v := nI 8) C dS_byteIn_5 (by decide) ?_
  refine x_idivN C (by omega) (by decide) (by decide) dS_byteIn_7 ?_
  refine x_iaddN C dS_byteIn_8 ?_
  refine x_istore_n C [(3, .int (nI (i * 8 + (j / 8)))), (0, .ref (a 0)), (1, .int (nI i)), (2, .int (nI j))] dS_byteIn_9 rfl (by decide) rfl ?_
  refine x_iload_n C dS_byteIn_10 rfl 0 rfl ?_
  refine x_if_ltN (tgt := 23) C (by omega) dS_byteIn_11 (by decide) ?_
  refine x_iload_n C dS_byteIn_14 rfl 0 rfl ?_
  refine x_aload_n C dS_byteIn_15 rfl 1 rfl ?_
  refine x_get C fgS_19 0 rfl rfl dS_byteIn_16 ?_
  refine x_alen C 3 2 rfl rfl dS_byteIn_19 ?_
  show xk_Go K D 4 0 0 (tc_wS a ca kn nu wo si de la le ro tm nd) [(3, .int (nI (i * 8 + (j / 8)))), (0, .ref (a 0)), (1, .int (nI i)), (2, .int (nI j))] 20 [.int (nI 1600), .int (nI (i * 8 + (j / 8)))]
  refine x_icmp_ltN (tgt := 27) C (by omega) (by decide) dS_byteIn_20 (by decide) (fun h20 => ?_) (fun h20 => ?_)
  ·
    refine x_aload_n C dS_byteIn_27 rfl 1 rfl ?_
    refine x_get C fgS_19 0 rfl rfl dS_byteIn_28 ?_
    refine x_iload_n C dS_byteIn_31 rfl 0 rfl ?_
    refine x_lld C 3 2 rfl rfl (by omega) (by decide) dS_byteIn_32 ?_
    refine x_bipush (v := nI 7) C dS_byteIn_33 (by decide) ?_
    refine x_iload_n C dS_byteIn_35 rfl 3 rfl ?_
    refine x_bipush (v := nI 8) C dS_byteIn_36 (by decide) ?_
    refine x_iremN C (by omega) (by decide) (by decide) dS_byteIn_38 ?_
    refine x_isubN C (by omega) dS_byteIn_39 ?_
    refine x_callS C (c_F_byteOf D (wo (i * 8 + (j / 8))) (7 - (j % 8)) (by omega)) kbS_59 kcS_59 [] [0, 1, 2, 3, 4, 5, 6, 7, 8] [] (tc_wS a ca kn nu wo si de la le ro tm nd) rfl rfl (by decide) (by decide) (by decide) rfl ⟨Nat.le_of_ble_eq_true rfl, Nat.le_of_ble_eq_true rfl⟩ ⟨Nat.le_of_ble_eq_true rfl, Nat.le_of_ble_eq_true rfl⟩ [] rfl rfl (Nat.le_of_ble_eq_true rfl) dS_byteIn_40 (fun rv ru hw => ?_)
    obtain ⟨rfl, rfl⟩ := hw
    show xk_Go K D 4 0 0 (tc_wS a ca kn nu wo si de la le ro tm nd) [(3, .int (nI (i * 8 + (j / 8)))), (0, .ref (a 0)), (1, .int (nI i)), (2, .int (nI j))] 43 [.int (nI (tc_by (wo (i * 8 + (j / 8))) (7 - (j % 8))))]
    exact x_iret C T .int rfl rfl dS_byteIn_43 (⟨rfl, rfl⟩)
  ·
    exact absurd h20 (by omega)
set_option maxHeartbeats 4000000 in
set_option maxRecDepth 100000 in
/-- setNode -/
theorem c_S_setNode (D : va_G) (a : Nat → Nat) (ca : Nat → ClassId) (kn : Nat → Nat) (nu : Nat → Int64) (wo : Nat → Int64) (si : Nat → Nat) (de : Nat → Nat) (la : Nat → Nat) (le : Nat → Nat) (ro : Nat → Nat) (tm : Nat) (nd : Nat) (i : Nat) (kd : Nat) (x : Int64) (y1 : i < 200) : xk_Ct yS_setNode cS_setNode 5 none { frames := 0, cells := 0, slots := 0, locals := 0 } D (tc_tS ca) [.ref (a 0), .int (nI i), .int (nI kd), .long x] (tc_wS a ca kn nu wo si de la le ro tm nd) (fun rv ru => (rv = none ∧ ru = tc_wS a ca (va_up kn i kd) (vp_updL nu i x) wo si de la le ro tm nd)) := by
  refine xk_enter (by decide) (Nat.le_of_ble_eq_true rfl) (fun K C T hin => ?_)
  show xk_Go K D 5 0 0 (tc_wS a ca kn nu wo si de la le ro tm nd) [(0, .ref (a 0)), (1, .int (nI i)), (2, .int (nI kd)), (3, .long x)] 0 []
  refine x_aload_n C dS_setNode_0 rfl 0 rfl ?_
  refine x_get C fgS_9 0 rfl rfl dS_setNode_1 ?_
  refine x_iload_n C dS_setNode_4 rfl 1 rfl ?_
  refine x_iload_n C dS_setNode_5 rfl 2 rfl ?_
  refine x_ist C 1 0 (tc_wS a ca (va_up kn i kd) nu wo si de la le ro tm nd) rfl rfl (xk_nA_up kn i kd) rfl (by omega) (by decide) dS_setNode_6 ?_
  refine x_aload_n C dS_setNode_7 rfl 0 rfl ?_
  refine x_get C fgS_15 0 rfl rfl dS_setNode_8 ?_
  refine x_iload_n C dS_setNode_11 rfl 1 rfl ?_
  refine x_lload_n C dS_setNode_12 rfl 3 rfl ?_
  refine x_lst C 2 1 (tc_wS a ca (va_up kn i kd) (vp_updL nu i x) wo si de la le ro tm nd) rfl rfl rfl rfl (by omega) (by decide) dS_setNode_13 ?_
  exact x_vret C T rfl dS_setNode_14 (⟨rfl, rfl⟩)
set_option maxHeartbeats 4000000 in
set_option maxRecDepth 100000 in
/-- pushTerm -/
theorem c_S_pushTerm (D : va_G) (a : Nat → Nat) (ca : Nat → ClassId) (kn : Nat → Nat) (nu : Nat → Int64) (wo : Nat → Int64) (si : Nat → Nat) (de : Nat → Nat) (la : Nat → Nat) (le : Nat → Nat) (ro : Nat → Nat) (tm : Nat) (nd : Nat) (r : Nat) (y1 : tm < 200) : xk_Ct yS_pushTerm cS_pushTerm 2 none { frames := 0, cells := 0, slots := 0, locals := 0 } D (tc_tS ca) [.ref (a 0), .int (nI r)] (tc_wS a ca kn nu wo si de la le ro tm nd) (fun rv ru => (rv = none ∧ ru = tc_wS a ca kn nu wo si de la le (va_up ro tm r) (tm + 1) nd)) := by
  refine xk_enter (by decide) (Nat.le_of_ble_eq_true rfl) (fun K C T hin => ?_)
  show xk_Go K D 2 0 0 (tc_wS a ca kn nu wo si de la le ro tm nd) [(0, .ref (a 0)), (1, .int (nI r))] 0 []
  refine x_aload_n C dS_pushTerm_0 rfl 0 rfl ?_
  refine x_get C fgS_37 0 rfl rfl dS_pushTerm_1 ?_
  refine x_sipush (v := nI 200) C dS_pushTerm_4 (by decide) ?_
  refine x_icmp_geN (tgt := 30) C (by omega) (by decide) dS_pushTerm_7 (by decide) (fun h7 => ?_) (fun h7 => ?_)
  ·
    exact absurd h7 (by omega)
  ·
    refine x_aload_n C dS_pushTerm_10 rfl 0 rfl ?_
    refine x_get C fgS_34 0 rfl rfl dS_pushTerm_11 ?_
    refine x_aload_n C dS_pushTerm_14 rfl 0 rfl ?_
    refine x_get C fgS_37 0 rfl rfl dS_pushTerm_15 ?_
    refine x_iload_n C dS_pushTerm_18 rfl 1 rfl ?_
    refine x_ist C 8 7 (tc_wS a ca kn nu wo si de la le (va_up ro tm r) tm nd) rfl rfl (xk_nA_up ro tm r) rfl (by omega) (by decide) dS_pushTerm_19 ?_
    refine x_aload_n C dS_pushTerm_20 rfl 0 rfl ?_
    refine x_dup C dS_pushTerm_21 rfl ?_
    refine x_get C fgS_37 0 rfl rfl dS_pushTerm_22 ?_
    refine x_iconst (v := nI 1) C dS_pushTerm_25 (by decide) ?_
    refine x_iaddN C dS_pushTerm_26 ?_
    refine x_put C fpS_37 0 (tc_wS a ca kn nu wo si de la le (va_up ro tm r) (tm + 1) nd) rfl rfl rfl rfl (Nat.le_of_ble_eq_true rfl) dS_pushTerm_27 ?_
    exact x_vret C T rfl dS_pushTerm_30 (⟨rfl, rfl⟩)
set_option maxHeartbeats 4000000 in
set_option maxRecDepth 100000 in
/-- copyNodes -/
theorem c_S_copyNodes (D : va_G) (a : Nat → Nat) (ca : Nat → ClassId) (kn : Nat → Nat) (nu : Nat → Int64) (wo : Nat → Int64) (si : Nat → Nat) (de : Nat → Nat) (la : Nat → Nat) (le : Nat → Nat) (ro : Nat → Nat) (tm : Nat) (nd : Nat) (f : Nat) (t : Nat) (c : Nat) (y1 : f + c ≤ 200) (y2 : t + c ≤ 200) : xk_Ct yS_copyNodes cS_copyNodes 4 none { frames := 1, cells := 0, slots := 0, locals := 100 } D (tc_tS ca) [.ref (a 0), .int (nI f), .int (nI t), .int (nI c)] (tc_wS a ca kn nu wo si de la le ro tm nd) (fun rv ru => (rv = none ∧ ru = tc_wS a ca (va_cpy kn kn f t c) (va_cpy nu nu f t c) (va_cpy wo wo (f * 8) (t * 8) (c * 8)) (va_cpy si si f t c) (va_cpy de de f t c) (va_cpy la la f t c) (va_cpy le le f t c) ro tm nd)) := by
  refine xk_enter (by decide) (Nat.le_of_ble_eq_true rfl) (fun K C T hin => ?_)
  show xk_Go K D 4 0 0 (tc_wS a ca kn nu wo si de la le ro tm nd) [(0, .ref (a 0)), (1, .int (nI f)), (2, .int (nI t)), (3, .int (nI c))] 0 []
  refine x_iload_n C dS_copyNodes_0 rfl 1 rfl ?_
  refine x_if_ltN (tgt := 25) C (by omega) dS_copyNodes_1 (by decide) ?_
  refine x_iload_n C dS_copyNodes_4 rfl 2 rfl ?_
  refine x_if_ltN (tgt := 25) C (by omega) dS_copyNodes_5 (by decide) ?_
  refine x_iload_n C dS_copyNodes_8 rfl 3 rfl ?_
  refine x_if_ltN (tgt := 25) C (by omega) dS_copyNodes_9 (by decide) ?_
  refine x_iload_n C dS_copyNodes_12 rfl 1 rfl ?_
  refine x_iload_n C dS_copyNodes_13 rfl 2 rfl ?_
  refine x_max C kmS_126 (by omega) (by omega) (by decide) (Nat.le_of_ble_eq_true rfl) (Nat.le_of_ble_eq_true rfl) (Nat.le_of_ble_eq_true rfl) dS_copyNodes_14 ?_
  refine x_sipush (v := nI 200) C dS_copyNodes_17 (by decide) ?_
  refine x_iload_n C dS_copyNodes_20 rfl 3 rfl ?_
  refine x_isubN C (by omega) dS_copyNodes_21 ?_
  refine x_icmp_leN (tgt := 26) C (by omega) (by omega) dS_copyNodes_22 (by decide) (fun h22 => ?_) (fun h22 => ?_)
  ·
    refine x_aload_n C dS_copyNodes_26 rfl 0 rfl ?_
    refine x_get C fgS_9 0 rfl rfl dS_copyNodes_27 ?_
    refine x_iload_n C dS_copyNodes_30 rfl 1 rfl ?_
    refine x_aload_n C dS_copyNodes_31 rfl 0 rfl ?_
    refine x_get C fgS_9 0 rfl rfl dS_copyNodes_32 ?_
    refine x_iload_n C dS_copyNodes_35 rfl 2 rfl ?_
    refine x_iload_n C dS_copyNodes_36 rfl 3 rfl ?_
    refine x_copyN C kyS_129 1 1 0 0 (tc_wS a ca (va_cpy kn kn f t c) nu wo si de la le ro tm nd) rfl rfl rfl rfl rfl (by omega) (by omega) (by decide) (by decide) (Nat.le_of_ble_eq_true rfl) (Nat.le_of_ble_eq_true rfl) dS_copyNodes_37 ?_
    refine x_aload_n C dS_copyNodes_40 rfl 0 rfl ?_
    refine x_get C fgS_15 0 rfl rfl dS_copyNodes_41 ?_
    refine x_iload_n C dS_copyNodes_44 rfl 1 rfl ?_
    refine x_aload_n C dS_copyNodes_45 rfl 0 rfl ?_
    refine x_get C fgS_15 0 rfl rfl dS_copyNodes_46 ?_
    refine x_iload_n C dS_copyNodes_49 rfl 2 rfl ?_
    refine x_iload_n C dS_copyNodes_50 rfl 3 rfl ?_
    refine x_copyL C kyS_129 2 2 1 1 (tc_wS a ca (va_cpy kn kn f t c) (va_cpy nu nu f t c) wo si de la le ro tm nd) rfl rfl rfl rfl rfl (by omega) (by omega) (by decide) (by decide) (Nat.le_of_ble_eq_true rfl) (Nat.le_of_ble_eq_true rfl) dS_copyNodes_51 ?_
    refine x_aload_n C dS_copyNodes_54 rfl 0 rfl ?_
    refine x_get C fgS_19 0 rfl rfl dS_copyNodes_55 ?_
    refine x_iload_n C dS_copyNodes_58 rfl 1 rfl ?_
    refine x_bipush (v := nI 8) C dS_copyNodes_59 (by decide) ?_
    refine x_imulN C dS_copyNodes_61 ?_
    refine x_aload_n C dS_copyNodes_62 rfl 0 rfl ?_
    refine x_get C fgS_19 0 rfl rfl dS_copyNodes_63 ?_
    refine x_iload_n C dS_copyNodes_66 rfl 2 rfl ?_
    refine x_bipush (v := nI 8) C dS_copyNodes_67 (by decide) ?_
    refine x_imulN C dS_copyNodes_69 ?_
    refine x_iload_n C dS_copyNodes_70 rfl 3 rfl ?_
    refine x_bipush (v := nI 8) C dS_copyNodes_71 (by decide) ?_
    refine x_imulN C dS_copyNodes_73 ?_
    refine x_copyL C kyS_129 3 3 2 2 (tc_wS a ca (va_cpy kn kn f t c) (va_cpy nu nu f t c) (va_cpy wo wo (f * 8) (t * 8) (c * 8)) si de la le ro tm nd) rfl rfl rfl rfl rfl (by omega) (by omega) (by decide) (by decide) (Nat.le_of_ble_eq_true rfl) (Nat.le_of_ble_eq_true rfl) dS_copyNodes_74 ?_
    refine x_aload_n C dS_copyNodes_77 rfl 0 rfl ?_
    refine x_get C fgS_22 0 rfl rfl dS_copyNodes_78 ?_
    refine x_iload_n C dS_copyNodes_81 rfl 1 rfl ?_
    refine x_aload_n C dS_copyNodes_82 rfl 0 rfl ?_
    refine x_get C fgS_22 0 rfl rfl dS_copyNodes_83 ?_
    refine x_iload_n C dS_copyNodes_86 rfl 2 rfl ?_
    refine x_iload_n C dS_copyNodes_87 rfl 3 rfl ?_
    refine x_copyN C kyS_129 4 4 3 3 (tc_wS a ca (va_cpy kn kn f t c) (va_cpy nu nu f t c) (va_cpy wo wo (f * 8) (t * 8) (c * 8)) (va_cpy si si f t c) de la le ro tm nd) rfl rfl rfl rfl rfl (by omega) (by omega) (by decide) (by decide) (Nat.le_of_ble_eq_true rfl) (Nat.le_of_ble_eq_true rfl) dS_copyNodes_88 ?_
    refine x_aload_n C dS_copyNodes_91 rfl 0 rfl ?_
    refine x_get C fgS_25 0 rfl rfl dS_copyNodes_92 ?_
    refine x_iload_n C dS_copyNodes_95 rfl 1 rfl ?_
    refine x_aload_n C dS_copyNodes_96 rfl 0 rfl ?_
    refine x_get C fgS_25 0 rfl rfl dS_copyNodes_97 ?_
    refine x_iload_n C dS_copyNodes_100 rfl 2 rfl ?_
    refine x_iload_n C dS_copyNodes_101 rfl 3 rfl ?_
    refine x_copyN C kyS_129 5 5 4 4 (tc_wS a ca (va_cpy kn kn f t c) (va_cpy nu nu f t c) (va_cpy wo wo (f * 8) (t * 8) (c * 8)) (va_cpy si si f t c) (va_cpy de de f t c) la le ro tm nd) rfl rfl rfl rfl rfl (by omega) (by omega) (by decide) (by decide) (Nat.le_of_ble_eq_true rfl) (Nat.le_of_ble_eq_true rfl) dS_copyNodes_102 ?_
    refine x_aload_n C dS_copyNodes_105 rfl 0 rfl ?_
    refine x_get C fgS_28 0 rfl rfl dS_copyNodes_106 ?_
    refine x_iload_n C dS_copyNodes_109 rfl 1 rfl ?_
    refine x_aload_n C dS_copyNodes_110 rfl 0 rfl ?_
    refine x_get C fgS_28 0 rfl rfl dS_copyNodes_111 ?_
    refine x_iload_n C dS_copyNodes_114 rfl 2 rfl ?_
    refine x_iload_n C dS_copyNodes_115 rfl 3 rfl ?_
    refine x_copyN C kyS_129 6 6 5 5 (tc_wS a ca (va_cpy kn kn f t c) (va_cpy nu nu f t c) (va_cpy wo wo (f * 8) (t * 8) (c * 8)) (va_cpy si si f t c) (va_cpy de de f t c) (va_cpy la la f t c) le ro tm nd) rfl rfl rfl rfl rfl (by omega) (by omega) (by decide) (by decide) (Nat.le_of_ble_eq_true rfl) (Nat.le_of_ble_eq_true rfl) dS_copyNodes_116 ?_
    refine x_aload_n C dS_copyNodes_119 rfl 0 rfl ?_
    refine x_get C fgS_31 0 rfl rfl dS_copyNodes_120 ?_
    refine x_iload_n C dS_copyNodes_123 rfl 1 rfl ?_
    refine x_aload_n C dS_copyNodes_124 rfl 0 rfl ?_
    refine x_get C fgS_31 0 rfl rfl dS_copyNodes_125 ?_
    refine x_iload_n C dS_copyNodes_128 rfl 2 rfl ?_
    refine x_iload_n C dS_copyNodes_129 rfl 3 rfl ?_
    refine x_copyN C kyS_129 7 7 6 6 (tc_wS a ca (va_cpy kn kn f t c) (va_cpy nu nu f t c) (va_cpy wo wo (f * 8) (t * 8) (c * 8)) (va_cpy si si f t c) (va_cpy de de f t c) (va_cpy la la f t c) (va_cpy le le f t c) ro tm nd) rfl rfl rfl rfl rfl (by omega) (by omega) (by decide) (by decide) (Nat.le_of_ble_eq_true rfl) (Nat.le_of_ble_eq_true rfl) dS_copyNodes_130 ?_
    exact x_vret C T rfl dS_copyNodes_133 (⟨rfl, rfl⟩)
  ·
    exact absurd h22 (by omega)
set_option maxHeartbeats 4000000 in
set_option maxRecDepth 100000 in
/-- setByte -/
theorem c_S_setByte (D : va_G) (a : Nat → Nat) (ca : Nat → ClassId) (kn : Nat → Nat) (nu : Nat → Int64) (wo : Nat → Int64) (si : Nat → Nat) (de : Nat → Nat) (la : Nat → Nat) (le : Nat → Nat) (ro : Nat → Nat) (tm : Nat) (nd : Nat) (i : Nat) (j : Nat) (b : Nat) (y1 : i < 200) (y2 : j < 64) (y3 : b < 256) : xk_Ct yS_setByte cS_setByte 6 none { frames := 0, cells := 0, slots := 0, locals := 0 } D (tc_tS ca) [.ref (a 0), .int (nI i), .int (nI j), .int (nI b)] (tc_wS a ca kn nu wo si de la le ro tm nd) (fun rv ru => (∃ (wg : Nat → Int64), rv = none ∧ ru = tc_wS a ca kn nu wg si de la le ro tm nd ∧ (∀ q t, t < 64 → tc_wb wg q t = if q = i ∧ t = j then b else tc_wb wo q t))) := by
  refine xk_enter (by decide) (Nat.le_of_ble_eq_true rfl) (fun K C T hin => ?_)
  show xk_Go K D 6 0 0 (tc_wS a ca kn nu wo si de la le ro tm nd) [(0, .ref (a 0)), (1, .int (nI i)), (2, .int (nI j)), (3, .int (nI b))] 0 []
  refine x_iload_n C dS_setByte_0 rfl 1 rfl ?_
  refine x_bipush (v := nI 8) C dS_setByte_1 (by decide) ?_
  refine x_imulN C dS_setByte_3 ?_
  refine x_iload_n C dS_setByte_4 rfl 2 rfl ?_
  refine x_bipush (v := nI 8) C dS_setByte_5 (by decide) ?_
  refine x_idivN C (by omega) (by decide) (by decide) dS_setByte_7 ?_
  refine x_iaddN C dS_setByte_8 ?_
  refine x_istore C [(4, .int (nI (i * 8 + (j / 8)))), (0, .ref (a 0)), (1, .int (nI i)), (2, .int (nI j)), (3, .int (nI b))] dS_setByte_9 (by decide) rfl ?_
  refine x_bipush (v := nI 8) C dS_setByte_11 (by decide) ?_
  refine x_bipush (v := nI 7) C dS_setByte_13 (by decide) ?_
  refine x_iload_n C dS_setByte_15 rfl 3 rfl ?_
  refine x_bipush (v := nI 8) C dS_setByte_16 (by decide) ?_
  refine x_iremN C (by omega) (by decide) (by decide) dS_setByte_18 ?_
  refine x_isubN C (by omega) dS_setByte_19 ?_
  refine x_imulN C dS_setByte_20 ?_
  refine x_istore C [(5, .int (nI (8 * (7 - (j % 8))))), (4, .int (nI (i * 8 + (j / 8)))), (0, .ref (a 0)), (1, .int (nI i)), (2, .int (nI j)), (3, .int (nI b))] dS_setByte_21 (by decide) rfl ?_
  refine x_iload C dS_setByte_23 1 rfl ?_
  refine x_if_ltN (tgt := 69) C (by omega) dS_setByte_25 (by decide) ?_
  refine x_iload C dS_setByte_28 1 rfl ?_
  refine x_aload_n C dS_setByte_30 rfl 2 rfl ?_
  refine x_get C fgS_19 0 rfl rfl dS_setByte_31 ?_
  refine x_alen C 3 2 rfl rfl dS_setByte_34 ?_
  show xk_Go K D 6 0 0 (tc_wS a ca kn nu wo si de la le ro tm nd) [(5, .int (nI (8 * (7 - (j % 8))))), (4, .int (nI (i * 8 + (j / 8)))), (0, .ref (a 0)), (1, .int (nI i)), (2, .int (nI j)), (3, .int (nI b))] 35 [.int (nI 1600), .int (nI (i * 8 + (j / 8)))]
  refine x_icmp_geN (tgt := 69) C (by omega) (by decide) dS_setByte_35 (by decide) (fun h35 => ?_) (fun h35 => ?_)
  ·
    exact absurd h35 (by omega)
  ·
    refine x_aload_n C dS_setByte_38 rfl 2 rfl ?_
    refine x_get C fgS_19 0 rfl rfl dS_setByte_39 ?_
    refine x_iload C dS_setByte_42 1 rfl ?_
    refine x_aload_n C dS_setByte_44 rfl 2 rfl ?_
    refine x_get C fgS_19 0 rfl rfl dS_setByte_45 ?_
    refine x_iload C dS_setByte_48 1 rfl ?_
    refine x_lld C 3 2 rfl rfl (by omega) (by decide) dS_setByte_50 ?_
    refine x_ldc2 (v := 255) C dS_setByte_51 klS_65 ?_
    refine x_iload C dS_setByte_54 0 rfl ?_
    refine x_lshl (v := lN (255 * 2 ^ (8 * (7 - j % 8)))) C dS_setByte_56 (wb_shl 255 (by omega)) ?_
    refine x_ldc2 (v := (-1)) C dS_setByte_57 klS_67 ?_
    refine x_lxor C dS_setByte_60 ?_
    refine x_land C dS_setByte_61 ?_
    refine x_iload_n C dS_setByte_62 rfl 5 rfl ?_
    refine x_i2l (v := lN b) C dS_setByte_63 (nI_l (by omega)) ?_
    refine x_iload C dS_setByte_64 0 rfl ?_
    refine x_lshl (v := lN (b * 2 ^ (8 * (7 - j % 8)))) C dS_setByte_66 (wb_shl b (by omega)) ?_
    refine x_lor C dS_setByte_67 ?_
    refine x_lst C 3 2 (tc_wS a ca kn nu (vp_updL wo (i * 8 + (j / 8)) (((wo (i * 8 + (j / 8))) &&& ((lN (255 * 2 ^ (8 * (7 - j % 8)))) ^^^ (-1))) ||| (lN (b * 2 ^ (8 * (7 - j % 8)))))) si de la le ro tm nd) rfl rfl rfl rfl (by omega) (by decide) dS_setByte_68 ?_
    exact x_vret C T rfl dS_setByte_69 (⟨_, rfl, rfl, (tc_setb wo i j b y2 y3)⟩)
