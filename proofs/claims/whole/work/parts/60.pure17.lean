/-! PURE 17: nodes and terms, read. -/
theorem tc_rN_1 {B : Nat → Nat} {n p l m i : Nat} (h : n ≤ p) : tc_rN B n p l m i = .inl (1, n) := if_pos h
theorem tc_rN_3 {B : Nat → Nat} {n p l m i : Nat} (h : ¬ n ≤ p) (h3 : 11 < B p) : tc_rN B n p l m i = .inl (3, p) := by
  unfold tc_rN
  rw [if_neg h, if_pos h3]
theorem tc_rN_5 {B : Nat → Nat} {n p l m i : Nat} (h : ¬ n ≤ p) (h3 : ¬ 11 < B p) (h5 : 60 < l) : tc_rN B n p l m i = .inl (5, p) := by
  unfold tc_rN
  rw [if_neg h, if_neg h3, if_pos h5]
theorem tc_rN_6 {B : Nat → Nat} {n p l m i : Nat} (h : ¬ n ≤ p) (h3 : ¬ 11 < B p) (h5 : ¬ 60 < l) (h6 : 200 ≤ i) : tc_rN B n p l m i = .inl (6, p) := by
  unfold tc_rN
  rw [if_neg h, if_neg h3, if_neg h5, if_pos h6]
theorem tc_rN_E {B : Nat → Nat} {n p l m i : Nat} (h : ¬ n ≤ p) (h3 : ¬ 11 < B p) (h5 : ¬ 60 < l) (h6 : ¬ 200 ≤ i) : tc_rN B n p l m i = tc_rE B n (B p) p m (p + 1) := by
  unfold tc_rN
  rw [if_neg h, if_neg h3, if_neg h5, if_neg h6]
theorem tc_rE_inv {B : Nat → Nat} {n k p0 m p q : Nat} {x : tc_Nd} (h : tc_rE B n k p0 m p = .inr (x, q)) : ∃ v r, tc_rV B n k p = .inr (v, r) ∧ tc_fit k v = true ∧ ¬ (k = 0 ∧ m < v.toInt.toNat) ∧ ((¬ k = 8 ∧ x = (k, v, []) ∧ q = r) ∨ (k = 8 ∧ r + v.toInt.toNat ≤ n ∧ x = (8, v, tc_seg B r v.toInt.toNat) ∧ q = r + v.toInt.toNat)) := by
  unfold tc_rE at h
  match hv : tc_rV B n k p with
  | .inl e => rw [hv] at h; cases h
  | .inr (v, r) =>
    rw [hv] at h
    have h : (if tc_fit k v = false then (.inl (3, r - 1) : tc_Rs tc_Nd) else if k = 0 ∧ m < v.toInt.toNat then .inl (4, p0) else if k = 8 then (if r + v.toInt.toNat ≤ n then .inr ((8, v, tc_seg B r v.toInt.toNat), r + v.toInt.toNat) else .inl (1, n)) else .inr ((k, v, []), r)) = .inr (x, q) := h
    by_cases h1 : tc_fit k v = false
    · rw [if_pos h1] at h; cases h
    · rw [if_neg h1] at h
      have h1 : tc_fit k v = true := by cases hq : tc_fit k v with | true => rfl | false => exact absurd hq h1
      by_cases h2 : k = 0 ∧ m < v.toInt.toNat
      · rw [if_pos h2] at h; cases h
      · rw [if_neg h2] at h
        refine ⟨v, r, rfl, h1, h2, ?_⟩
        by_cases h3 : k = 8
        · rw [if_pos h3] at h
          by_cases h4 : r + v.toInt.toNat ≤ n
          · rw [if_pos h4] at h
            cases h
            exact Or.inr ⟨h3, h4, rfl, rfl⟩
          · rw [if_neg h4] at h; cases h
        · rw [if_neg h3] at h
          cases h
          exact Or.inl ⟨h3, rfl, rfl⟩
theorem tc_rE_k {B : Nat → Nat} {n k p0 m p q : Nat} {x : tc_Nd} (h : tc_rE B n k p0 m p = .inr (x, q)) : x.1 = k := by
  obtain ⟨v, r, -, -, -, ⟨h1, h2, -⟩ | ⟨h1, -, h2, -⟩⟩ := tc_rE_inv h
  · rw [h2]
  · rw [h2, h1]
theorem tc_rE_ok {B : Nat → Nat} {n k p0 m p q : Nat} {x : tc_Nd} (h : tc_rE B n k p0 m p = .inr (x, q)) (hk : k ≤ 11) (hB : ∀ j, B j < 256) : tc_okn x := by
  obtain ⟨v, r, -, hf, -, ⟨h1, h2, -⟩ | ⟨h1, -, h2, -⟩⟩ := tc_rE_inv h
  · rw [h2]
    exact ⟨hk, tc_fit_iff.mp hf, fun q => absurd q h1, fun _ => rfl, by simp, fun b hb => by simp at hb⟩
  · obtain ⟨c, hc, hc64, hcn⟩ := tc_fit8c h1 hf
    rw [h2, hcn]
    refine ⟨by show 8 ≤ 11; decide, ?_, fun _ => ?_, fun q => absurd rfl q, ?_, fun b hb => ?_⟩
    · rw [h1] at hf
      exact tc_fit_iff.mp hf
    · show v = lN (tc_seg B r c).length
      rw [tc_seg_len, hc]
    · show (tc_seg B r c).length ≤ 64
      rw [tc_seg_len]; exact hc64
    · obtain ⟨j, hj, rfl⟩ := List.mem_map.mp (show b ∈ tc_seg B r c from hb)
      exact hB _
theorem tc_rN_inv {B : Nat → Nat} {n p l m i q : Nat} {x : tc_Nd} (h : tc_rN B n p l m i = .inr (x, q)) : p < n ∧ B p ≤ 11 ∧ l ≤ 60 ∧ i < 200 ∧ tc_rE B n (B p) p m (p + 1) = .inr (x, q) := by
  unfold tc_rN at h
  by_cases h1 : n ≤ p
  · rw [if_pos h1] at h; cases h
  · rw [if_neg h1] at h
    by_cases h2 : 11 < B p
    · rw [if_pos h2] at h; cases h
    · rw [if_neg h2] at h
      by_cases h3 : 60 < l
      · rw [if_pos h3] at h; cases h
      · rw [if_neg h3] at h
        by_cases h4 : 200 ≤ i
        · rw [if_pos h4] at h; cases h
        · rw [if_neg h4] at h
          exact ⟨by omega, by omega, by omega, by omega, h⟩
-- the open places in the reader's arrays
def tc_pn (wl wm : Nat → Nat) : List tc_Q → Prop
  | [] => True
  | q :: st => wl st.length = q.2.1 ∧ wm st.length = q.2.2 ∧ tc_pn wl wm st
theorem tc_pn_eq {wl wm wl' wm' : Nat → Nat} : ∀ {st : List tc_Q}, (∀ j, j < st.length → wl' j = wl j ∧ wm' j = wm j) → tc_pn wl wm st → tc_pn wl' wm' st
  | [], _, _ => trivial
  | q :: st, he, h => ⟨(he st.length (by simp)).1.trans h.1, (he st.length (by simp)).2.trans h.2.1, tc_pn_eq (fun j hj => he j (by rw [List.length_cons]; omega)) h.2.2⟩
theorem tc_pn_rep {wl wm : Nat → Nat} {q : tc_Q} {st : List tc_Q} : ∀ (n : Nat), (∀ j, st.length ≤ j → j < st.length + n → wl j = q.2.1 ∧ wm j = q.2.2) → tc_pn wl wm st → tc_pn wl wm (List.replicate n q ++ st)
  | 0, _, h => h
  | n + 1, he, h => by
    have hl : (List.replicate n q ++ st).length = st.length + n := by rw [List.length_append, List.length_replicate]; omega
    refine ⟨?_, ?_, tc_pn_rep n (fun j h1 h2 => he j h1 (by omega)) h⟩
    · show wl (List.replicate n q ++ st).length = _
      rw [hl]
      exact (he _ (by omega) (by omega)).1
    · show wm (List.replicate n q ++ st).length = _
      rw [hl]
      exact (he _ (by omega) (by omega)).2
/-- never more open places than the level of the first -/
def tc_bq : List tc_Q → Prop
  | [] => True
  | q :: st => st.length + 1 ≤ q.2.1 ∧ tc_bq st
theorem tc_bq_kid {i : Nat} {x : tc_Nd} {q : tc_Q} {st : List tc_Q} (h : tc_bq (q :: st)) : tc_bq (tc_kid i x q ++ st) := by
  unfold tc_kid
  have h1 := h.1
  rcases tc_tk3 x.1 with e | e | e
  · rw [e]
    exact h.2
  · rw [e]
    exact ⟨by show st.length + 1 ≤ q.2.1 + 1; omega, h.2⟩
  · rw [e]
    exact ⟨by show st.length + 1 + 1 ≤ q.2.1 + 1; omega, by show st.length + 1 ≤ q.2.1 + 1; omega, h.2⟩
/-- so many terms are wanting behind L -/
def tc_wfc (L : List tc_Nd) (n : Nat) : Prop := ∀ R, tc_wf n R → tc_wf 1 (L ++ R)
theorem tc_wfc_step {L : List tc_Nd} {n : Nat} {x : tc_Nd} (h : tc_wfc L (n + 1)) : tc_wfc (L ++ [x]) (tc_tk x.1 + n) := by
  intro R hR
  rw [List.append_assoc]
  refine h (x :: R) ⟨by omega, ?_⟩
  rw [show n + 1 - 1 + tc_tk x.1 = tc_tk x.1 + n by omega]
  exact hR
theorem tc_raw_app {kn kg : Nat → Nat} {nu ug wo wg : Nat → Int64} {nd i : Nat} {L : List tc_Nd} {x : tc_Nd} (h : tc_raw kn nu wo nd L) (hi : i = nd + L.length) (hok : ∀ y ∈ L, tc_okn y) (hk : ∀ j, j ≠ i → kg j = kn j ∧ ug j = nu j ∧ ∀ t, t < 64 → tc_wb wg j t = tc_wb wo j t) (hx : kg i = x.1 ∧ ug i = x.2.1 ∧ ∀ t b, x.2.2[t]? = some b → tc_wb wg i t = b) : tc_raw kg ug wg nd (L ++ [x]) := by
  intro j y hy
  rcases Nat.lt_or_ge j L.length with q | q
  · rw [List.getElem?_append_left q] at hy
    obtain ⟨h1, h2, h3⟩ := h j y hy
    obtain ⟨k1, k2, k3⟩ := hk (nd + j) (by omega)
    refine ⟨k1.trans h1, k2.trans h2, fun t b hb => (k3 t ?_).trans (h3 t b hb)⟩
    have := (hok y (List.mem_of_getElem? hy)).2.2.2.2.1
    have := (List.getElem?_eq_some_iff.mp hb).1
    omega
  · rw [List.getElem?_append_right q] at hy
    have hj : j - L.length = 0 := by
      have := (List.getElem?_eq_some_iff.mp hy).1
      simp at this
      omega
    rw [hj] at hy
    have hy : x = y := by simpa using hy
    rw [show nd + j = i by omega, ← hy]
    exact hx
theorem tc_RS_keep {Ts : List (List tc_Nd)} {kn kg : Nat → Nat} {nu ug wo wg : Nat → Int64} {si de la le ro : Nat → Nat} {tm nd i : Nat} (h : tc_RS Ts (kn, nu, wo, si, de, la, le) ro tm nd) (hi : nd ≤ i) (hk : ∀ j, j ≠ i → kg j = kn j ∧ ug j = nu j ∧ ∀ t, t < 64 → tc_wb wg j t = tc_wb wo j t) : tc_RS Ts (kg, ug, wg, si, de, la, le) ro tm nd := by
  obtain ⟨h1, h2, h3, h4, h5, h6⟩ := h
  refine ⟨h1, h2, h3, h4, h5, tc_AR_eq 0 0 (tc_cat_ok h1) (fun t ht => ?_) h6⟩
  obtain ⟨k1, k2, k3⟩ := hk (0 + t) (by omega)
  exact ⟨k1, k2, k3, rfl, rfl, rfl, rfl⟩
theorem tc_lv60 {L : List tc_Nd} {x : tc_Nd} {q : tc_Q} {st : List tc_Q} (h : ∀ e ∈ tc_fw 0 [tc_q0] L, e.2.1 ≤ 60) (hp : tc_pd 0 [tc_q0] L = q :: st) (hq : q.2.1 ≤ 60) : ∀ e ∈ tc_fw 0 [tc_q0] (L ++ [x]), e.2.1 ≤ 60 := by
  intro e he
  rw [tc_fw_app, hp, tc_fw_cons, tc_fw_nil] at he
  rcases List.mem_append.mp he with z | z
  · exact h e z
  · have : e = q := by simpa using z
    rw [this]
    exact hq
theorem tc_mx_le {E : List tc_Q} {b : Nat} (h : ∀ e ∈ E, e.2.1 ≤ b) : tc_mx E ≤ b := by
  induction E with
  | nil => exact Nat.zero_le _
  | cons q E ih =>
    show max q.2.1 (tc_mx E) ≤ b
    have h1 := h q List.mem_cons_self
    have h2 := ih (fun e he => h e (List.mem_cons_of_mem _ he))
    omega
theorem tc_read_okt {L : List tc_Nd} (hw : tc_wfc L 0) (h60 : ∀ e ∈ tc_fw 0 [tc_q0] L, e.2.1 ≤ 60) (hok : ∀ x ∈ L, tc_okn x) : tc_okt L := by
  have h1 : tc_wf 1 L := by
    have := hw [] rfl
    rwa [List.append_nil] at this
  refine ⟨h1, ?_, hok⟩
  have h2 := tc_mx_le h60
  rw [tc_mx_dp h1 0 tc_q0] at h2
  have : (1 : Nat) + tc_dp L - 1 ≤ 60 := h2
  omega
theorem tc_rL_f {B : Nat → Nat} {n nd f p : Nat} {q : tc_Q} {st : List tc_Q} {L : List tc_Nd} {e : Nat × Nat} (hf : 0 < f) (h : tc_rN B n p q.2.1 q.2.2 (nd + L.length) = .inl e) : tc_rL B n nd f p (q :: st) L = .inl e := by
  obtain ⟨f, rfl⟩ : ∃ k, f = k + 1 := ⟨f - 1, by omega⟩
  unfold tc_rL
  rw [h]
theorem tc_rL_s {B : Nat → Nat} {n nd f p p' : Nat} {q : tc_Q} {st : List tc_Q} {L : List tc_Nd} {x : tc_Nd} (hf : 0 < f) (h : tc_rN B n p q.2.1 q.2.2 (nd + L.length) = .inr (x, p')) : tc_rL B n nd f p (q :: st) L = tc_rL B n nd (f - 1) p' (tc_kid L.length x q ++ st) (L ++ [x]) := by
  obtain ⟨f, rfl⟩ : ∃ k, f = k + 1 := ⟨f - 1, by omega⟩
  conv => lhs; unfold tc_rL
  rw [h]
  rfl
theorem tc_rL_e {B : Nat → Nat} {n nd f p : Nat} {L : List tc_Nd} : tc_rL B n nd f p [] L = .inr (L, p) := by
  cases f <;> rfl
theorem tc_B_lt (g : Nat → Nat) (j : Nat) : tc_B g j < 256 := Nat.mod_lt _ (by decide)
theorem tc_kid_b {i : Nat} {x : tc_Nd} {q q' : tc_Q} {st st' : List tc_Q} (h : tc_kid i x q ++ st = q' :: st') (hc : q.2.2 ≤ q.2.1) (hl : q.2.1 ≤ 60) (hs : ∀ z ∈ st, z.2.2 ≤ z.2.1 ∧ z.2.1 ≤ 61) : ∀ z ∈ q' :: st', z.2.2 ≤ z.2.1 ∧ z.2.1 ≤ 61 := by
  intro z hz
  rw [← h] at hz
  rcases List.mem_append.mp hz with y | y
  · have := (List.mem_replicate.mp y).2
    rw [this]
    refine ⟨?_, ?_⟩
    · show q.2.2 + (if x.1 = 1 then 1 else 0) ≤ q.2.1 + 1
      split <;> omega
    · show q.2.1 + 1 ≤ 61
      omega
  · exact hs z y
theorem tc_pn_kid {wl wm wlh wmh : Nat → Nat} {i : Nat} {x : tc_Nd} {q q' : tc_Q} {st st' : List tc_Q} (h : tc_kid i x q ++ st = q' :: st') (e2 : tc_pn wl wm (q :: st)) (g4 : ∀ j, j < st.length + 1 - 1 → wlh j = wl j ∧ wmh j = wm j) (g5 : ∀ j, st.length + 1 - 1 ≤ j → j < st.length + 1 - 1 + tc_tk x.1 → wlh j = q.2.1 + 1 ∧ wmh j = q.2.2 + if x.1 = 1 then 1 else 0) : tc_pn wlh wmh (q' :: st') := by
  rw [← h]
  exact tc_pn_rep _ (fun j h1 h2 => g5 j (by omega) (by omega)) (tc_pn_eq (fun j hj => g4 j (by omega)) e2.2.2)
theorem tc_mem1 {L : List tc_Nd} {x : tc_Nd} (h : ∀ y ∈ L, tc_okn y) (hx : tc_okn x) : ∀ y ∈ L ++ [x], tc_okn y := by
  intro y hy
  rcases List.mem_append.mp hy with z | z
  · exact h y z
  · rw [List.mem_singleton.mp z]
    exact hx
