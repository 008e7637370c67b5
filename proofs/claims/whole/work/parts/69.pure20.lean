/-! PURE 20: a term of the store, gone through. -/
theorem tc_Fo_mem {fs ss : Nat → Option Nat} : ∀ {I st : List Nat}, tc_Fo fs ss st I → (∀ i ∈ st, i ∈ I) ∧ ∀ i ∈ I, ∀ c ∈ tc_kd fs ss i, c ∈ I
  | [], [], _ => ⟨fun i h => h, fun i h => by cases h⟩
  | [], _ :: _, h => h.elim
  | j :: I, [], h => h.elim
  | j :: I, i :: st, h => by
    obtain ⟨a, b⟩ := tc_Fo_mem h.2
    have e := h.1
    subst e
    refine ⟨fun k hk => ?_, fun k hk c hc => ?_⟩
    · rcases List.mem_cons.mp hk with rfl | hk
      · exact List.mem_cons_self
      · exact List.mem_cons_of_mem _ (a k (List.mem_append_right _ hk))
    · rcases List.mem_cons.mp hk with rfl | hk
      · exact List.mem_cons_of_mem _ (a c (List.mem_append_left _ hc))
      · exact List.mem_cons_of_mem _ (b k hk c hc)
def tc_Hg (fs ss : Nat → Option Nat) (ki : Nat → Nat) (r : Nat) (ids : List Nat) : Prop := tc_Fo fs ss [r] ids ∧ ids.length ≤ 200 ∧ (∀ i ∈ ids, i < 200) ∧ (∀ i ∈ ids, (tc_kd fs ss i).length = tc_tk (ki i)) ∧ (∀ i ∈ ids, (∀ v, fs i = some v → v < 200) ∧ ∀ v, ss i = some v → v < 200) ∧ ∀ i ∈ ids, ki i ≤ 11
theorem tc_Fo_hd {fs ss : Nat → Option Nat} {r : Nat} {ids : List Nat} (h : tc_Fo fs ss [r] ids) : ∃ F, ids = r :: F ∧ tc_Fo fs ss (tc_kd fs ss r) F := by
  match ids, h with
  | j :: F, h => exact ⟨F, by rw [← h.1], by have z := h.2; rwa [List.append_nil] at z⟩
theorem tc_okt_okn {t : List tc_Nd} (h : tc_okt t) : ∀ x ∈ t, tc_okn x := h.2.2
theorem tc_RI_Hg {I : List (List Nat)} {Ts : List (List tc_Nd)} {iu : Nat → Bool} {ki : Nat → Nat} {mu : Nat → Int64} {fs ss : Nat → Option Nat} {tx : Nat → Nat} {us : Nat} {te : Nat → Nat} {my : Nat} {ids : List Nat} {r : Nat} (h : tc_RI I Ts (iu, ki, mu, fs, ss, tx) us te my) (hm : ids ∈ I) (hr : ids.head? = some r) : tc_Hg fs ss ki r ids := by
  obtain ⟨h1, h2, h3, h4, h5, h6, h7, h8, h9⟩ := h
  obtain ⟨r', hF⟩ := h2 ids hm
  obtain ⟨F, e, _⟩ := tc_Fo_hd hF
  obtain rfl : r = r' := by rw [e] at hr; simpa using hr.symm
  have hin : ∀ i ∈ ids, i ∈ I.flatten := fun i hi => List.mem_flatten.mpr ⟨ids, hm, hi⟩
  have hnd : ids.Nodup := (List.pairwise_flatten.mp h5).1 ids hm
  have hlt : ∀ i ∈ ids, i < 200 := fun i hi => (h3 i (hin i hi)).1
  refine ⟨hF, tc_nodup_len 200 ids hnd hlt, hlt, fun i hi => (h3 i (hin i hi)).2.2.1, fun i hi => ?_, fun i hi => (tc_okt_okn (h9 (ids.map (tc_mn ki mu tx)) (by rw [h1]; exact List.mem_map_of_mem hm)) (tc_mn ki mu tx i) (List.mem_map_of_mem hi)).1⟩
  have hk := (tc_Fo_mem hF).2 i hi
  refine ⟨fun v hv => hlt v (hk v ?_), fun v hv => hlt v (hk v ?_)⟩
  · unfold tc_kd; rw [hv]; exact List.mem_append_left _ (by simp)
  · unfold tc_kd; rw [hv]; exact List.mem_append_right _ (by simp)
theorem tc_RM_nil {Ts : List (List tc_Nd)} {m : tc_St} {us : Nat} {te : Nat → Nat} {my : Nat} (h : tc_RM Ts m us te my) (h0 : my = 0) : Ts = [] := by
  obtain ⟨I, h⟩ := h
  obtain ⟨iu, ki, mu, fs, ss, tx⟩ := m
  have := (tc_RI_us h).2.2.1
  exact List.eq_nil_of_length_eq_zero (by omega)
theorem tc_RM_us {Ts : List (List tc_Nd)} {m : tc_St} {us : Nat} {te : Nat → Nat} {my : Nat} (h : tc_RM Ts m us te my) : us ≤ 200 ∧ my ≤ us ∧ my = Ts.length ∧ us = (tc_cat Ts).length := by
  obtain ⟨I, h⟩ := h
  obtain ⟨iu, ki, mu, fs, ss, tx⟩ := m
  exact tc_RI_us h
/-- the last term -/
theorem tc_RM_top {Ts : List (List tc_Nd)} {iu : Nat → Bool} {ki : Nat → Nat} {mu : Nat → Int64} {fs ss : Nat → Option Nat} {tx : Nat → Nat} {us : Nat} {te : Nat → Nat} {my : Nat} (h : tc_RM Ts (iu, ki, mu, fs, ss, tx) us te my) (h0 : 0 < my) : ∃ ids I R, Ts = ids.map (tc_mn ki mu tx) :: R ∧ tc_RI (ids :: I) (ids.map (tc_mn ki mu tx) :: R) (iu, ki, mu, fs, ss, tx) us te my ∧ tc_Hg fs ss ki (te (my - 1)) ids ∧ my = I.length + 1 := by
  obtain ⟨I, h⟩ := h
  have h1 := h.1
  have h7 := h.2.2.2.2.2.2.1
  match I, h, h1, h7 with
  | [], h, h1, h7 => simp at h7; omega
  | ids :: I, h, h1, h7 =>
    subst h1
    have h8 : ids.head? = some (te I.length) := h.2.2.2.2.2.2.2.1.1
    have h7 : my = I.length + 1 := h7
    refine ⟨ids, I, _, rfl, h, tc_RI_Hg h List.mem_cons_self ?_, h7⟩
    rw [h8, h7, Nat.add_sub_cancel]
theorem tc_Hg_wf {fs ss : Nat → Option Nat} {ki : Nat → Nat} {mu : Nat → Int64} {tx : Nat → Nat} {r : Nat} {ids : List Nat} (h : tc_Hg fs ss ki r ids) : tc_wf 1 (ids.map (tc_mn ki mu tx)) := tc_Fo_wf h.1 h.2.2.2.1
theorem tc_E_len {L : List tc_Nd} (h : tc_wf 1 L) : (tc_E L).length = L.length := tc_fw_len 0 [tc_q0] h rfl
theorem tc_mx_mem {E : List tc_Q} {e : tc_Q} (h : e ∈ E) : e.2.1 ≤ tc_mx E := by
  induction E with
  | nil => cases h
  | cons q E ih =>
    show e.2.1 ≤ max q.2.1 (tc_mx E)
    rcases List.mem_cons.mp h with rfl | h
    · exact Nat.le_max_left _ _
    · exact Nat.le_trans (ih h) (Nat.le_max_right _ _)
theorem tc_mx_E {L : List tc_Nd} (h : tc_wf 1 L) : tc_mx (tc_E L) = tc_dp L := by
  have := tc_mx_dp h 0 tc_q0
  rw [show tc_q0.2.1 = 1 from rfl] at this
  show tc_mx (tc_fw 0 [tc_q0] L) = _
  omega
theorem tc_dp_le {L : List tc_Nd} (h : tc_wf 1 L) : tc_dp L ≤ L.length := by
  have := tc_ev_mx_d L
  rw [tc_ev_one tc_fd 0 h] at this
  exact Nat.le_trans (Nat.le_max_left _ _) this
theorem tc_lev_le {L : List tc_Nd} (h : tc_wf 1 L) {k : Nat} {e : tc_Q} (he : (tc_E L)[k]? = some e) : e.2.1 ≤ tc_dp L ∧ e.2.1 ≤ L.length := by
  have h1 := tc_mx_mem (List.mem_of_getElem? he)
  have h2 := tc_mx_E h
  have h3 := tc_dp_le h
  omega
theorem tc_mx_take {E : List tc_Q} {k : Nat} {e : tc_Q} (h : E[k]? = some e) : tc_mx (E.take (k + 1)) = max (tc_mx (E.take k)) e.2.1 := by
  have h1 : E.take (k + 1) = E.take k ++ [e] := by
    rw [List.take_add_one, h]
    rfl
  rw [h1, tc_mx_app]
  show max _ (max e.2.1 0) = _
  rw [Nat.max_zero]
theorem tc_E_at {L : List tc_Nd} (h : tc_wf 1 L) {k : Nat} (hk : k < L.length) : ∃ e, (tc_E L)[k]? = some e := ⟨_, List.getElem?_eq_getElem (by rw [tc_E_len h]; exact hk)⟩
/-- a node's open place came from the node that it is of -/
theorem tc_up {L : List tc_Nd} (h : tc_wf 1 L) : ∀ (n : Nat), n ≤ L.length → (∀ q ∈ tc_pd 0 [tc_q0] (L.take n), (q = tc_q0 ∧ n = 0) ∨ ∃ p f x, q.1 = some p ∧ p < n ∧ (tc_E L)[p]? = some f ∧ L[p]? = some x ∧ q.2.1 = f.2.1 + 1 ∧ q.2.2 = f.2.2 + if x.1 = 1 then 1 else 0) ∧ ∀ j e, j < n → (tc_E L)[j]? = some e → (e.1 = none ∧ j = 0) ∨ ∃ p f x, e.1 = some p ∧ p < j ∧ (tc_E L)[p]? = some f ∧ L[p]? = some x ∧ e.2.1 = f.2.1 + 1 ∧ e.2.2 = f.2.2 + if x.1 = 1 then 1 else 0
  | 0, _ => by
    refine ⟨fun q hq => Or.inl ⟨?_, rfl⟩, fun j e hj => absurd hj (Nat.not_lt_zero _)⟩
    rw [List.take_zero, tc_pd_nil] at hq
    simpa using hq
  | n + 1, hn => by
    obtain ⟨h1, h2⟩ := tc_up h n (by omega)
    obtain ⟨x, hx⟩ : ∃ x, L[n]? = some x := ⟨_, List.getElem?_eq_getElem (by omega)⟩
    have ht : L.take (n + 1) = L.take n ++ [x] := by rw [List.take_add_one, hx]; rfl
    have hl : (L.take n).length = n := by rw [List.length_take]; omega
    have hL : L.take (n + 1) ++ L.drop (n + 1) = L := List.take_append_drop _ _
    have hLx : L.take n ++ x :: L.drop (n + 1) = L := by
      have z := hL
      rw [ht, List.append_assoc] at z
      exact z
    have hw : tc_wf (tc_pd 0 [tc_q0] (L.take n)).length (x :: L.drop (n + 1)) := by
      refine tc_pd_len (L.take n) _ 0 [tc_q0] ?_
      rw [hLx]
      exact h
    match hpd : tc_pd 0 [tc_q0] (L.take n), hw with
    | [], hw => exact absurd hw.1 (Nat.lt_irrefl _)
    | q :: st, _ =>
      have hE : (tc_E L)[n]? = some q := by
        have e1 : tc_E L = tc_fw 0 [tc_q0] (L.take n) ++ tc_fw (0 + (L.take n).length) (tc_pd 0 [tc_q0] (L.take n)) (x :: L.drop (n + 1)) := by
          show tc_fw 0 [tc_q0] L = _
          rw [← tc_fw_app, hLx]
        have e2 : (tc_fw 0 [tc_q0] (L.take n)).length = n := by
          rw [tc_fw_lenp (L.take n) (L.drop n) 0 [tc_q0] (by rw [List.take_append_drop]; exact h), hl]
        rw [e1, hpd, List.getElem?_append_right (by omega), e2, Nat.sub_self]
        rfl
      have hq := h1 q (by rw [hpd]; exact List.mem_cons_self)
      refine ⟨fun r hr => ?_, fun j e hj he => ?_⟩
      · rw [ht, tc_pd_app, hpd, hl, tc_pd_cons, tc_pd_nil] at hr
        rcases List.mem_append.mp hr with hr1 | hr1
        · have := (List.mem_replicate.mp hr1).2
          rw [this]
          exact Or.inr ⟨n, q, x, by simp, by omega, hE, hx, rfl, rfl⟩
        · rcases h1 r (by rw [hpd]; exact List.mem_cons_of_mem _ hr1) with ⟨z1, z2⟩ | ⟨p, f, y, z1, z2, z3⟩
          · rw [z2, List.take_zero, tc_pd_nil] at hpd
            injection hpd with _ z
            rw [← z] at hr1
            cases hr1
          · exact Or.inr ⟨p, f, y, z1, by omega, z3⟩
      · rcases Nat.lt_or_ge j n with y | y
        · exact h2 j e y he
        · obtain rfl : j = n := by omega
          rw [hE] at he
          obtain rfl : q = e := by simpa using he
          rcases hq with ⟨z1, z2⟩ | z
          · exact Or.inl ⟨by rw [z1]; rfl, z2⟩
          · exact Or.inr z
theorem tc_upE {L : List tc_Nd} (h : tc_wf 1 L) {j : Nat} {e : tc_Q} (he : (tc_E L)[j]? = some e) : (e.1 = none ∧ j = 0) ∨ ∃ p f x, e.1 = some p ∧ p < j ∧ (tc_E L)[p]? = some f ∧ L[p]? = some x ∧ e.2.1 = f.2.1 + 1 ∧ e.2.2 = f.2.2 + if x.1 = 1 then 1 else 0 := by
  have hj : j < L.length := by
    have := (List.getElem?_eq_some_iff.mp he).1
    rw [tc_E_len h] at this
    exact this
  exact (tc_up h L.length (Nat.le_refl _)).2 j e hj he
theorem tc_par_E {L : List tc_Nd} {j : Nat} {e : tc_Q} (he : (tc_E L)[j]? = some e) : tc_par L j = e.1 := by
  unfold tc_par
  rw [he]
/-- above a node within a term: still within it, or that term's top -/
theorem tc_within {L : List tc_Nd} (h : tc_wf 1 L) {j p to : Nat} {e : tc_Q} (he : (tc_E L)[j]? = some e) (hp : e.1 = some p) (h1 : to ≤ j) (h2 : j < to + tc_sz (L.drop to)) : (to ≤ p ∧ p < to + tc_sz (L.drop to) ∧ j ≠ to) ∨ (p < to ∧ j = to) := by
  have hj : j < L.length := by
    have := (List.getElem?_eq_some_iff.mp he).1
    rw [tc_E_len h] at this
    exact this
  have hpar := tc_par_E he
  have h0 : 0 < j := by
    rcases Nat.eq_zero_or_pos j with q | q
    · rw [q, tc_par_0, hp] at hpar
      cases hpar
    · exact q
  obtain ⟨p', e1, e2, e3, e4⟩ := tc_par_s h h0 hj
  obtain rfl : p' = p := by rw [e1, hp] at hpar; simpa using hpar
  rcases Nat.lt_or_ge p' to with y | y
  · right
    refine ⟨y, ?_⟩
    rcases Nat.eq_or_lt_of_le h1 with q | q
    · exact q.symm
    · have := e4 to y q
      omega
  · exact Or.inl ⟨y, by omega, by omega⟩
/-- a node's size by the levels -/
theorem tc_lev_in {L : List tc_Nd} (h : tc_wf 1 L) {k n : Nat} {e f : tc_Q} (hk : (tc_E L)[k]? = some e) (hf : (tc_E L)[k + n]? = some f) (h0 : 0 < n) : (n < tc_sz (L.drop k) → e.2.1 < f.2.1) ∧ (n = tc_sz (L.drop k) → f.2.1 ≤ e.2.1) := by
  have hkl : k < L.length := by
    have := (List.getElem?_eq_some_iff.mp hk).1
    rw [tc_E_len h] at this
    exact this
  obtain ⟨A, B, q, s2, hd, hA, hsz, _, _, hst, hs2, hE, hpl⟩ := tc_sub h hkl
  have hlA : (tc_fw k [q] A).length = A.length := tc_fw_len k [q] hA rfl
  rw [hE, List.getElem?_append_right (by omega), hpl, Nat.sub_self] at hk
  rw [hE, List.getElem?_append_right (by omega), hpl, Nat.add_sub_cancel_left] at hf
  match A, hA, hsz, hlA, hk, hf with
  | x :: A', hA, hsz, hlA, hk, hf =>
    have hq : q = e := by
      rw [tc_fw_cons] at hk
      simpa using hk
    subst hq
    rw [hsz]
    refine ⟨fun y => ?_, fun y => ?_⟩
    · rw [List.getElem?_append_left (by omega), tc_fw_cons] at hf
      obtain ⟨m, rfl⟩ : ∃ m, n = m + 1 := ⟨n - 1, by omega⟩
      rw [List.getElem?_cons_succ] at hf
      refine tc_fw_lev A' (k + 1) (q.2.1 + 1) _ (fun z hz => ?_) f (List.mem_of_getElem? hf)
      rw [List.append_nil] at hz
      rw [(List.mem_replicate.mp hz).2]
      exact Nat.le_refl _
    · rw [List.getElem?_append_right (by omega), hlA, y, Nat.sub_self] at hf
      match s2, B, hs2, hf with
      | [], B, _, hf => rw [tc_fw_no] at hf; simp at hf
      | r :: s2, [], _, hf => rw [tc_fw_nil] at hf; simp at hf
      | r :: s2, b :: B, hs2, hf =>
        rw [tc_fw_cons] at hf
        obtain rfl : r = f := by simpa using hf
        exact hs2 _ List.mem_cons_self
theorem tc_sz_pos {L : List tc_Nd} {k : Nat} (hk : k < L.length) : 0 < tc_sz (L.drop k) := by
  match hd : L.drop k with
  | [] => have := congrArg List.length hd; rw [List.length_drop, List.length_nil] at this; omega
  | x :: R => show 0 < tc_fs x _; unfold tc_fs; omega
theorem tc_sz_fit {L : List tc_Nd} {k : Nat} (hk : k < L.length) : k + tc_sz (L.drop k) ≤ L.length := by
  have := tc_sz_le (L := L.drop k)
  rw [List.length_drop] at this
  omega
theorem tc_mn_at {ki : Nat → Nat} {mu : Nat → Int64} {tx : Nat → Nat} {ids : List Nat} {j i : Nat} {x : tc_Nd} (hx : (ids.map (tc_mn ki mu tx))[j]? = some x) (hi : ids[j]? = some i) : x = tc_mn ki mu tx i := by
  rw [List.getElem?_map, hi] at hx
  simpa using hx.symm
theorem tc_RM_0 {iu : Nat → Bool} {ki : Nat → Nat} {mu : Nat → Int64} {fs ss : Nat → Option Nat} {tx te : Nat → Nat} (h : ∀ i, i < 200 → iu i = false) : tc_RM [] (iu, ki, mu, fs, ss, tx) 0 te 0 := by
  refine ⟨[], rfl, (fun _ h => (by cases h)), (fun i hi => (by cases hi)), fun i hi hu => ?_, List.Pairwise.nil, rfl, rfl, trivial, (fun _ h => (by cases h))⟩
  rw [h i hi] at hu
  cases hu
