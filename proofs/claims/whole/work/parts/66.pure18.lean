/-! PURE 18: terms as linked nodes. -/
/-- node i of the store -/
def tc_mn (ki : Nat → Nat) (mu : Nat → Int64) (tx : Nat → Nat) (i : Nat) : tc_Nd := (ki i, mu i, if ki i = 8 then (List.range (mu i).toInt.toNat).map (fun j => tx (64 * i + j) % 256) else [])
def tc_kd (fs ss : Nat → Option Nat) (i : Nat) : List Nat := (fs i).toList ++ (ss i).toList
/-- I: the nodes of the terms at the places st, in their order -/
def tc_Fo (fs ss : Nat → Option Nat) : List Nat → List Nat → Prop
  | [], [] => True
  | i :: st, j :: I => i = j ∧ tc_Fo fs ss (tc_kd fs ss i ++ st) I
  | [], _ :: _ => False
  | _ :: _, [] => False
theorem tc_Fo_len {fs ss : Nat → Option Nat} : ∀ {I st : List Nat}, tc_Fo fs ss st I → st.length ≤ I.length
  | [], [], _ => Nat.le_refl _
  | [], _ :: _, h => h.elim
  | j :: I, [], h => h.elim
  | j :: I, i :: st, h => by
    have := tc_Fo_len h.2
    rw [List.length_append] at this
    rw [List.length_cons, List.length_cons]
    omega
theorem tc_Fo_app {fs ss : Nat → Option Nat} : ∀ {A B s1 s2 : List Nat}, tc_Fo fs ss s1 A → tc_Fo fs ss s2 B → tc_Fo fs ss (s1 ++ s2) (A ++ B)
  | [], B, [], s2, _, h2 => h2
  | [], B, i :: s1, s2, h1, _ => h1.elim
  | j :: A, B, [], s2, h1, _ => h1.elim
  | j :: A, B, i :: s1, s2, h1, h2 => ⟨h1.1, by
      have := tc_Fo_app h1.2 h2
      rwa [List.append_assoc] at this⟩
theorem tc_Fo_split {fs ss : Nat → Option Nat} : ∀ {I s1 s2 : List Nat}, tc_Fo fs ss (s1 ++ s2) I → ∃ A B, I = A ++ B ∧ tc_Fo fs ss s1 A ∧ tc_Fo fs ss s2 B
  | I, [], s2, h => ⟨[], I, rfl, trivial, h⟩
  | [], i :: s1, s2, h => h.elim
  | j :: I, i :: s1, s2, h => by
    have h2 : tc_Fo fs ss ((tc_kd fs ss i ++ s1) ++ s2) I := by rw [List.append_assoc]; exact h.2
    obtain ⟨A, B, e, hA, hB⟩ := tc_Fo_split h2
    exact ⟨j :: A, B, by rw [e]; rfl, ⟨h.1, hA⟩, hB⟩
theorem tc_Fo_eq {fs ss fs' ss' : Nat → Option Nat} : ∀ {I st : List Nat}, (∀ i ∈ I, fs' i = fs i ∧ ss' i = ss i) → tc_Fo fs ss st I → tc_Fo fs' ss' st I
  | [], [], _, _ => trivial
  | [], _ :: _, _, h => h.elim
  | j :: I, [], _, h => h.elim
  | j :: I, i :: st, he, h => by
    refine ⟨h.1, ?_⟩
    obtain ⟨e1, e2⟩ := he j List.mem_cons_self
    rw [← h.1] at e1 e2
    have e3 : tc_kd fs' ss' i = tc_kd fs ss i := by unfold tc_kd; rw [e1, e2]
    rw [e3]
    exact tc_Fo_eq (fun z hz => he z (List.mem_cons_of_mem _ hz)) h.2
theorem tc_Fo_wf {fs ss : Nat → Option Nat} {ki : Nat → Nat} {mu : Nat → Int64} {tx : Nat → Nat} : ∀ {I st : List Nat}, tc_Fo fs ss st I → (∀ i ∈ I, (tc_kd fs ss i).length = tc_tk (ki i)) → tc_wf st.length (I.map (tc_mn ki mu tx))
  | [], [], _, _ => rfl
  | [], _ :: _, h, _ => h.elim
  | j :: I, [], h, _ => h.elim
  | j :: I, i :: st, h, ha => by
    refine ⟨by simp, ?_⟩
    have h1 := tc_Fo_wf (ki := ki) (mu := mu) (tx := tx) h.2 (fun z hz => ha z (List.mem_cons_of_mem _ hz))
    have h2 := ha j List.mem_cons_self
    rw [← h.1] at h2
    rw [List.length_append, h2] at h1
    show tc_wf ((i :: st).length - 1 + tc_tk (ki j)) _
    rw [← h.1, List.length_cons, show st.length + 1 - 1 + tc_tk (ki i) = tc_tk (ki i) + st.length by omega]
    exact h1
/-- the roots of the terms -/
def tc_rte (te : Nat → Nat) : List (List Nat) → Prop
  | [] => True
  | ids :: R => ids.head? = some (te R.length) ∧ tc_rte te R
theorem tc_rte_eq {te te' : Nat → Nat} : ∀ {I : List (List Nat)}, (∀ i, i < I.length → te' i = te i) → tc_rte te I → tc_rte te' I
  | [], _, _ => trivial
  | ids :: R, he, h => ⟨by rw [he R.length (by simp)]; exact h.1, tc_rte_eq (fun i hi => he i (by rw [List.length_cons]; omega)) h.2⟩
abbrev tc_St : Type := (Nat → Bool) × (Nat → Nat) × (Nat → Int64) × (Nat → Option Nat) × (Nat → Option Nat) × (Nat → Nat)
/-- the model's store holds the terms Ts; I: their nodes' places -/
def tc_RI (I : List (List Nat)) (Ts : List (List tc_Nd)) (m : tc_St) (us : Nat) (te : Nat → Nat) (my : Nat) : Prop := match m with
  | (iu, ki, mu, fs, ss, tx) => Ts = I.map (fun ids => ids.map (tc_mn ki mu tx)) ∧ (∀ ids ∈ I, ∃ r, tc_Fo fs ss [r] ids) ∧ (∀ i ∈ I.flatten, i < 200 ∧ iu i = true ∧ (tc_kd fs ss i).length = tc_tk (ki i) ∧ (fs i = none → ss i = none)) ∧ (∀ i, i < 200 → iu i = true → i ∈ I.flatten) ∧ I.flatten.Nodup ∧ us = I.flatten.length ∧ my = I.length ∧ tc_rte te I ∧ ∀ t ∈ Ts, tc_okt t
def tc_RM (Ts : List (List tc_Nd)) (m : tc_St) (us : Nat) (te : Nat → Nat) (my : Nat) : Prop := ∃ I, tc_RI I Ts m us te my
theorem tc_nodup_len : ∀ (n : Nat) (l : List Nat), l.Nodup → (∀ i ∈ l, i < n) → l.length ≤ n
  | 0, [], _, _ => Nat.le_refl _
  | 0, a :: l, _, h => absurd (h a List.mem_cons_self) (Nat.not_lt_zero _)
  | n + 1, l, hd, h => by
    have h1 : (l.erase n).Nodup := hd.erase n
    have h2 : ∀ i ∈ l.erase n, i < n := by
      intro i hi
      have h3 := h i (List.mem_of_mem_erase hi)
      have h4 : i ≠ n := fun e => (List.Nodup.not_mem_erase hd) (e ▸ hi)
      omega
    have h3 := tc_nodup_len n _ h1 h2
    have h4 := List.length_erase_le (a := n) (l := l)
    by_cases hm : n ∈ l
    · rw [List.length_erase_of_mem hm] at h3
      omega
    · rw [List.erase_of_not_mem hm] at h3
      omega
theorem tc_RI_us {I : List (List Nat)} {Ts : List (List tc_Nd)} {iu : Nat → Bool} {ki : Nat → Nat} {mu : Nat → Int64} {fs ss : Nat → Option Nat} {tx : Nat → Nat} {us : Nat} {te : Nat → Nat} {my : Nat} (h : tc_RI I Ts (iu, ki, mu, fs, ss, tx) us te my) : us ≤ 200 ∧ my ≤ us ∧ my = Ts.length ∧ us = (tc_cat Ts).length := by
  obtain ⟨h1, h2, h3, h4, h5, h6, h7, h8, h9⟩ := h
  have a1 := tc_nodup_len 200 _ h5 (fun i hi => (h3 i hi).1)
  have key : ∀ J : List (List Nat), (∀ ids ∈ J, ∃ r, tc_Fo fs ss [r] ids) → J.length ≤ J.flatten.length := by
    intro J
    induction J with
    | nil => intro _; exact Nat.le_refl _
    | cons ids J ih =>
      intro hJ
      obtain ⟨r, hr⟩ := hJ ids List.mem_cons_self
      have b1 := tc_Fo_len hr
      have b2 := ih (fun z hz => hJ z (List.mem_cons_of_mem _ hz))
      rw [List.flatten_cons, List.length_append, List.length_cons]
      have : [r].length = 1 := rfl
      omega
  have a2 := key I h2
  have key2 : ∀ J : List (List Nat), (tc_cat (J.map (fun ids => ids.map (tc_mn ki mu tx)))).length = J.flatten.length := by
    intro J
    induction J with
    | nil => rfl
    | cons ids J ih =>
      show (tc_cat _ ++ ids.map _).length = _
      rw [List.length_append, ih, List.length_map, List.flatten_cons, List.length_append]
      omega
  refine ⟨by omega, by omega, by rw [h7, h1, List.length_map], by rw [h6, h1, key2]⟩
