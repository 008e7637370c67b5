/-! PURE 12: the node that a node is of; what 'of' answers. -/
theorem tc_sz_le {L : List tc_Nd} : tc_sz L ≤ L.length := by
  have h := tc_ev_sum_s L
  unfold tc_sz tc_tv
  match he : tc_ev tc_fs L with
  | [] => exact Nat.zero_le _
  | a :: r =>
    rw [he] at h
    rw [List.sum_cons] at h
    show a ≤ _
    omega
theorem tc_sz_app {A B : List tc_Nd} {n k : Nat} (h : tc_wf n A) (hk : k < A.length) : tc_sz ((A ++ B).drop k) = tc_sz (A.drop k) := by
  rw [List.drop_append_of_le_length (Nat.le_of_lt hk)]
  obtain ⟨m, hm⟩ := tc_wf_drop k h
  refine tc_tv_app _ _ hm ?_ B
  have hl : 0 < (A.drop k).length := by rw [List.length_drop]; omega
  match hd : A.drop k, hm, hl with
  | x :: R, hm, _ => exact hm.1
theorem tc_parP {L : List tc_Nd} (h : tc_wf 1 L) : ∀ (i : Nat) (q : tc_Q) (j : Nat), 0 < j → j < L.length → ∃ (p : Nat) (e : tc_Q), (tc_fw i [q] L)[j]? = some e ∧ e.1 = some (i + p) ∧ p < j ∧ j < p + tc_sz (L.drop p) ∧ ∀ t, p < t → t < j → t + tc_sz (L.drop t) ≤ j := by
  refine tc_induct (P := fun L => ∀ (i : Nat) (q : tc_Q) (j : Nat), 0 < j → j < L.length → ∃ (p : Nat) (e : tc_Q), (tc_fw i [q] L)[j]? = some e ∧ e.1 = some (i + p) ∧ p < j ∧ j < p + tc_sz (L.drop p) ∧ ∀ t, p < t → t < j → t + tc_sz (L.drop t) ≤ j) h ?_ ?_ ?_
  · intro x hx i q j h1 h2
    have : j < 1 := h2
    omega
  · intro x A hx hA ih i q j h1 h2
    have h2 : j < A.length + 1 := h2
    have hs : tc_sz (x :: A) = A.length + 1 := tc_sz_len (show tc_wf 1 (x :: A) from ⟨by omega, by rw [hx]; exact hA⟩)
    have hl := tc_wf_pos hA
    rw [tc_fw_t1 hx]
    obtain ⟨j, rfl⟩ : ∃ k, j = k + 1 := ⟨j - 1, by omega⟩
    rw [List.getElem?_cons_succ]
    by_cases hj : j = 0
    · subst hj
      match A, hA, hl, hs with
      | y :: A', hA, hl, hs =>
        refine ⟨0, _, rfl, rfl, by omega, ?_, fun t h3 h4 => by omega⟩
        show 0 + 1 < 0 + tc_sz (x :: y :: A')
        rw [hs]
        simp
    · obtain ⟨p, e, h3, h4, h5, h6, h7⟩ := ih (i + 1) _ j (by omega) (by omega)
      refine ⟨p + 1, e, h3, by rw [h4, show i + 1 + p = i + (p + 1) by omega], by omega, ?_, fun t h8 h9 => ?_⟩
      · show j + 1 < p + 1 + tc_sz (A.drop p)
        omega
      · obtain ⟨t, rfl⟩ : ∃ k, t = k + 1 := ⟨t - 1, by omega⟩
        have := h7 t (by omega) (by omega)
        show t + 1 + tc_sz (A.drop t) ≤ j + 1
        omega
  · intro x A B hx hA hB ihA ihB i q j h1 h2
    have h2 : j < (A ++ B).length + 1 := h2
    rw [List.length_append] at h2
    have hs : tc_sz (x :: (A ++ B)) = (A ++ B).length + 1 := tc_sz_len (show tc_wf 1 (x :: (A ++ B)) from ⟨by omega, by rw [hx]; exact tc_wf_app (a := 1) (b := 1) hA hB⟩)
    rw [List.length_append] at hs
    have hlA := tc_wf_pos hA
    have hlB := tc_wf_pos hB
    have hfA := tc_fw_len (i + 1) [(some i, q.2.1 + 1, q.2.2 + if x.1 = 1 then 1 else 0)] hA rfl
    rw [tc_fw_t2 hx hA]
    obtain ⟨j, rfl⟩ : ∃ k, j = k + 1 := ⟨j - 1, by omega⟩
    rw [List.getElem?_cons_succ]
    by_cases hjA : j < A.length
    · rw [List.getElem?_append_left (by omega)]
      by_cases hj : j = 0
      · subst hj
        match A, hA, hlA, hs with
        | y :: A', hA, hlA, hs =>
          refine ⟨0, _, rfl, rfl, by omega, ?_, fun t h3 h4 => by omega⟩
          show 0 + 1 < 0 + tc_sz (x :: ((y :: A') ++ B))
          rw [hs]
          simp
          omega
      · obtain ⟨p, e, h3, h4, h5, h6, h7⟩ := ihA (i + 1) _ j (by omega) hjA
        refine ⟨p + 1, e, h3, by rw [h4, show i + 1 + p = i + (p + 1) by omega], by omega, ?_, fun t h8 h9 => ?_⟩
        · show j + 1 < p + 1 + tc_sz ((A ++ B).drop p)
          rw [tc_sz_app hA (by omega)]
          omega
        · obtain ⟨t, rfl⟩ : ∃ k, t = k + 1 := ⟨t - 1, by omega⟩
          have := h7 t (by omega) (by omega)
          show t + 1 + tc_sz ((A ++ B).drop t) ≤ j + 1
          rw [tc_sz_app hA (by omega)]
          omega
    · rw [List.getElem?_append_right (by omega), hfA]
      by_cases hj : j - A.length = 0
      · rw [hj]
        match B, hB, hlB with
        | y :: B', hB, hlB =>
          refine ⟨0, _, rfl, rfl, by omega, ?_, fun t h3 h4 => ?_⟩
          · show j + 1 < 0 + tc_sz (x :: (A ++ (y :: B')))
            rw [hs]
            simp
            omega
          · obtain ⟨t, rfl⟩ : ∃ k, t = k + 1 := ⟨t - 1, by omega⟩
            show t + 1 + tc_sz ((A ++ (y :: B')).drop t) ≤ j + 1
            rw [tc_sz_app hA (by omega)]
            have := tc_sz_le (L := A.drop t)
            rw [List.length_drop] at this
            omega
      · obtain ⟨p, e, h3, h4, h5, h6, h7⟩ := ihB (i + 1 + A.length) _ (j - A.length) (by omega) (by omega)
        have hd : ∀ t, (x :: (A ++ B)).drop (t + A.length + 1) = B.drop t := by
          intro t
          show (A ++ B).drop (t + A.length) = B.drop t
          rw [Nat.add_comm, ← List.drop_drop, List.drop_left]
        refine ⟨p + A.length + 1, e, h3, by rw [h4, show i + 1 + A.length + p = i + (p + A.length + 1) by omega], by omega, ?_, fun t h8 h9 => ?_⟩
        · rw [hd]
          omega
        · obtain ⟨t, rfl⟩ : ∃ k, t = k + A.length + 1 := ⟨t - A.length - 1, by omega⟩
          have := h7 t (by omega) (by omega)
          rw [hd]
          omega
/-- the number of the node that node k is of -/
def tc_par (L : List tc_Nd) (k : Nat) : Option Nat := match (tc_E L)[k]? with
  | some q => q.1
  | none => none
theorem tc_par_0 {L : List tc_Nd} : tc_par L 0 = none := by
  unfold tc_par tc_E
  match L with
  | [] => rfl
  | x :: R => rfl
theorem tc_par_s {L : List tc_Nd} (h : tc_wf 1 L) {k : Nat} (h0 : 0 < k) (hk : k < L.length) : ∃ p, tc_par L k = some p ∧ p < k ∧ k < p + tc_sz (L.drop p) ∧ ∀ t, p < t → t < k → t + tc_sz (L.drop t) ≤ k := by
  obtain ⟨p, e, h1, h2, h3, h4, h5⟩ := tc_parP h 0 tc_q0 k h0 hk
  refine ⟨p, ?_, h3, h4, h5⟩
  unfold tc_par tc_E
  rw [h1]
  show e.1 = some p
  rw [h2, Nat.zero_add]
theorem tc_par_is {L : List tc_Nd} (h : tc_wf 1 L) {k j : Nat} (hk : k < L.length) (h1 : j < k) (h2 : k < j + tc_sz (L.drop j)) (h3 : ∀ t, j < t → t < k → t + tc_sz (L.drop t) ≤ k) : tc_par L k = some j := by
  obtain ⟨p, e, p1, p2, p3⟩ := tc_par_s h (by omega) hk
  rw [e]
  congr 1
  rcases Nat.lt_trichotomy p j with q | q | q
  · have := p3 j q h1
    omega
  · exact q
  · have := h3 p q p1
    omega
theorem tc_par_no {L : List tc_Nd} (h : tc_wf 1 L) {k : Nat} (hk : k < L.length) (h3 : ∀ t, t < k → t + tc_sz (L.drop t) ≤ k) : tc_par L k = none := by
  by_cases h0 : k = 0
  · rw [h0]; exact tc_par_0
  · obtain ⟨p, e, p1, p2, p3⟩ := tc_par_s h (by omega) hk
    have := h3 p p1
    omega
def tc_ofn (x : tc_Nd) (R : List tc_Nd) (pr : Option Nat) (w : Int32) : Option Nat := if w = nI 0 then some x.1 else if w = nI 1 then some (tc_sz (x :: R)) else if w = nI 2 then some (tc_dp (x :: R)) else if w = nI 3 then some (tc_lk (x :: R)) else if w = nI 4 then pr else if w = nI 5 then (if x.1 = 8 then some x.2.2.length else none) else none
/-- node k of the last term -/
def tc_nth (Ts : List (List tc_Nd)) (k : Int32) : Option Nat := match Ts with
  | [] => none
  | t :: _ => if 0 ≤ k.toInt ∧ k.toInt < (t.length : Int) then some k.toInt.toNat else none
theorem tc_nth_some {t : List tc_Nd} {R : List (List tc_Nd)} {j : Nat} (hj : j < t.length) (hl : t.length ≤ 200) : tc_nth (t :: R) (nI j) = some j := by
  show (if _ then _ else _) = _
  rw [nI_toInt (by omega), if_pos (by omega), Int.toNat_natCast]
theorem tc_nth_none {t : List tc_Nd} {R : List (List tc_Nd)} {k : Int32} (hl : t.length ≤ 200) (h : ∀ j, j < t.length → k ≠ nI j) : tc_nth (t :: R) k = none := by
  refine if_neg (fun q => ?_)
  refine h k.toInt.toNat (by omega) (Int32.toInt_inj.mp ?_)
  rw [nI_toInt (by omega)]
  omega
