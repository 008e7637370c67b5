/-! PURE 1: terms as lists of nodes in their order (a node: kind, number, bytes); wf n L: L is n terms, one behind the other. -/
abbrev tc_Nd : Type := Nat × Int64 × List Nat
def tc_tk (k : Nat) : Nat := if k = 2 then 2 else if k = 1 ∨ k = 3 ∨ k = 4 then 1 else 0
theorem tc_tk_le (k : Nat) : tc_tk k ≤ 2 := by
  unfold tc_tk
  split
  · exact Nat.le_refl _
  · split <;> omega
def tc_wf : Nat → List tc_Nd → Prop
  | n, [] => n = 0
  | n, x :: R => 0 < n ∧ tc_wf (n - 1 + tc_tk x.1) R
theorem tc_wf_nil {n : Nat} : tc_wf n [] ↔ n = 0 := Iff.rfl
theorem tc_wf_cons {n : Nat} {x : tc_Nd} {R : List tc_Nd} : tc_wf n (x :: R) ↔ 0 < n ∧ tc_wf (n - 1 + tc_tk x.1) R := Iff.rfl
theorem tc_wf_app : ∀ {A B : List tc_Nd} {a b : Nat}, tc_wf a A → tc_wf b B → tc_wf (a + b) (A ++ B)
  | [], B, a, b, hA, hB => by
    have : a = 0 := hA
    subst this
    rw [Nat.zero_add, List.nil_append]; exact hB
  | x :: A, B, a, b, hA, hB => by
    obtain ⟨h0, h1⟩ := hA
    have h2 := tc_wf_app h1 hB
    refine ⟨by omega, ?_⟩
    rw [show a + b - 1 + tc_tk x.1 = a - 1 + tc_tk x.1 + b by omega]
    exact h2
theorem tc_wf_split : ∀ {L : List tc_Nd} {a b : Nat}, tc_wf (a + b) L → ∃ A B, L = A ++ B ∧ tc_wf a A ∧ tc_wf b B
  | [], a, b, h => by
    have h : a + b = 0 := h
    exact ⟨[], [], rfl, (by omega : a = 0), (by omega : b = 0)⟩
  | x :: R, a, b, h => by
    by_cases ha : a = 0
    · subst ha
      exact ⟨[], x :: R, rfl, rfl, by rw [Nat.zero_add] at h; exact h⟩
    · obtain ⟨h0, h1⟩ := h
      rw [show a + b - 1 + tc_tk x.1 = (a - 1 + tc_tk x.1) + b by omega] at h1
      obtain ⟨A, B, hR, hA, hB⟩ := tc_wf_split h1
      exact ⟨x :: A, B, by rw [hR]; rfl, ⟨by omega, hA⟩, hB⟩
/-- a fold from the right with a stack: f gets a node and what its parts gave -/
def tc_ev {α : Type} (f : tc_Nd → List α → α) : List tc_Nd → List α
  | [] => []
  | x :: R => f x ((tc_ev f R).take (tc_tk x.1)) :: (tc_ev f R).drop (tc_tk x.1)
theorem tc_ev_len {α : Type} (f : tc_Nd → List α → α) : ∀ {L : List tc_Nd} {n : Nat}, tc_wf n L → (tc_ev f L).length = n
  | [], n, h => by
    have h : n = 0 := h
    rw [h]; rfl
  | x :: R, n, h => by
    obtain ⟨h0, h1⟩ := h
    have h2 := tc_ev_len f h1
    show ((tc_ev f R).drop (tc_tk x.1)).length + 1 = n
    rw [List.length_drop, h2]
    omega
theorem tc_ev_app {α : Type} (f : tc_Nd → List α → α) : ∀ {A : List tc_Nd} {n : Nat} (B : List tc_Nd), tc_wf n A → tc_ev f (A ++ B) = tc_ev f A ++ tc_ev f B
  | [], n, B, h => rfl
  | x :: R, n, B, h => by
    obtain ⟨h0, h1⟩ := h
    have h2 := tc_ev_app f B h1
    have h3 := tc_ev_len f h1
    show f x ((tc_ev f (R ++ B)).take (tc_tk x.1)) :: (tc_ev f (R ++ B)).drop (tc_tk x.1) = (f x ((tc_ev f R).take (tc_tk x.1)) :: (tc_ev f R).drop (tc_tk x.1)) ++ tc_ev f B
    rw [h2, List.take_append_of_le_length (by omega), List.drop_append_of_le_length (by omega)]
    rfl
/-- the value of one term -/
def tc_tv {α : Type} (f : tc_Nd → List α → α) (d : α) (L : List tc_Nd) : α := (tc_ev f L).headD d
theorem tc_ev_one {α : Type} (f : tc_Nd → List α → α) (d : α) {L : List tc_Nd} (h : tc_wf 1 L) : tc_ev f L = [tc_tv f d L] := by
  have h1 := tc_ev_len f h
  unfold tc_tv
  match hL : tc_ev f L, h1 with
  | [a], _ => rfl
/-- a term's parts -/
theorem tc_parts {x : tc_Nd} {R : List tc_Nd} (h : tc_wf 1 (x :: R)) : tc_wf (tc_tk x.1) R := by
  have := h.2
  rwa [show 1 - 1 + tc_tk x.1 = tc_tk x.1 by omega] at this
theorem tc_tv_0 {α : Type} (f : tc_Nd → List α → α) (d : α) {x : tc_Nd} (hx : tc_tk x.1 = 0) (R : List tc_Nd) : tc_tv f d (x :: R) = f x [] := by
  show f x ((tc_ev f R).take (tc_tk x.1)) = _
  rw [hx, List.take_zero]
theorem tc_tv_1 {α : Type} (f : tc_Nd → List α → α) (d : α) {x : tc_Nd} (hx : tc_tk x.1 = 1) {A : List tc_Nd} (hA : tc_wf 1 A) : tc_tv f d (x :: A) = f x [tc_tv f d A] := by
  show f x ((tc_ev f A).take (tc_tk x.1)) = _
  rw [hx, tc_ev_one f d hA]
  rfl
theorem tc_tv_2 {α : Type} (f : tc_Nd → List α → α) (d : α) {x : tc_Nd} (hx : tc_tk x.1 = 2) {A B : List tc_Nd} (hA : tc_wf 1 A) (hB : tc_wf 1 B) : tc_tv f d (x :: (A ++ B)) = f x [tc_tv f d A, tc_tv f d B] := by
  show f x ((tc_ev f (A ++ B)).take (tc_tk x.1)) = _
  rw [hx, tc_ev_app f B hA, tc_ev_one f d hA, tc_ev_one f d hB]
  rfl
/-- the first of some terms, apart from the rest -/
theorem tc_first {L : List tc_Nd} {n : Nat} (h : tc_wf n L) (hn : 0 < n) : ∃ A B, L = A ++ B ∧ tc_wf 1 A ∧ tc_wf (n - 1) B := by
  rw [show n = 1 + (n - 1) by omega] at h
  exact tc_wf_split h
theorem tc_ind {P : List tc_Nd → Prop} (h0 : ∀ x, tc_tk x.1 = 0 → P [x]) (h1 : ∀ x A, tc_tk x.1 = 1 → tc_wf 1 A → P A → P (x :: A))
    (h2 : ∀ x A B, tc_tk x.1 = 2 → tc_wf 1 A → tc_wf 1 B → P A → P B → P (x :: (A ++ B))) : ∀ (n : Nat) (L : List tc_Nd), L.length ≤ n → tc_wf 1 L → P L
  | 0, [], _, h => absurd h (by intro h; cases h)
  | 0, x :: R, hl, _ => absurd hl (by simp)
  | n + 1, [], _, h => absurd h (by intro h; cases h)
  | n + 1, x :: R, hl, h => by
    have hp := tc_parts h
    have hl' : R.length ≤ n := by simpa using hl
    rcases (show tc_tk x.1 = 0 ∨ tc_tk x.1 = 1 ∨ tc_tk x.1 = 2 by have := tc_tk_le x.1; omega) with q | q | q
    · rw [q] at hp
      match R, hp with
      | [], _ => exact h0 x q
      | y :: R', hp => exact absurd hp.1 (by omega)
    · rw [q] at hp
      exact h1 x R q hp (tc_ind h0 h1 h2 n R hl' hp)
    · rw [q] at hp
      obtain ⟨A, B, rfl, hA, hB⟩ := tc_wf_split (a := 1) (b := 1) hp
      rw [List.length_append] at hl'
      exact h2 x A B q hA hB (tc_ind h0 h1 h2 n A (by omega) hA) (tc_ind h0 h1 h2 n B (by omega) hB)
theorem tc_induct {P : List tc_Nd → Prop} {L : List tc_Nd} (h : tc_wf 1 L) (h0 : ∀ x, tc_tk x.1 = 0 → P [x]) (h1 : ∀ x A, tc_tk x.1 = 1 → tc_wf 1 A → P A → P (x :: A))
    (h2 : ∀ x A B, tc_tk x.1 = 2 → tc_wf 1 A → tc_wf 1 B → P A → P B → P (x :: (A ++ B))) : P L := tc_ind h0 h1 h2 L.length L (Nat.le_refl _) h
-- size, depth, what it lacks
def tc_fs (_ : tc_Nd) (vs : List Nat) : Nat := 1 + vs.sum
def tc_fd (_ : tc_Nd) (vs : List Nat) : Nat := 1 + vs.foldr max 0
def tc_fl (x : tc_Nd) (vs : List Nat) : Nat := if x.1 = 0 then x.2.1.toInt.toNat else if x.1 = 1 then vs.foldr max 0 - 1 else vs.foldr max 0
def tc_sz (L : List tc_Nd) : Nat := tc_tv tc_fs 0 L
def tc_dp (L : List tc_Nd) : Nat := tc_tv tc_fd 0 L
def tc_lk (L : List tc_Nd) : Nat := tc_tv tc_fl 0 L
theorem tc_sz_len {L : List tc_Nd} (h : tc_wf 1 L) : tc_sz L = L.length := by
  refine tc_induct (P := fun L => tc_sz L = L.length) h ?_ ?_ ?_
  · intro x hx
    rw [tc_sz, tc_tv_0 _ _ hx]; rfl
  · intro x A hx hA ih
    rw [tc_sz, tc_tv_1 _ _ hx hA]
    show 1 + [tc_sz A].sum = _
    rw [ih]; simp; omega
  · intro x A B hx hA hB ihA ihB
    rw [tc_sz, tc_tv_2 _ _ hx hA hB]
    show 1 + [tc_sz A, tc_sz B].sum = _
    rw [ihA, ihB]; simp; omega
/-- what stands at place k of some terms is a term of its own -/
theorem tc_at : ∀ {L : List tc_Nd} {n : Nat} (k : Nat), tc_wf n L → k < L.length → ∃ A B m, L.drop k = A ++ B ∧ tc_wf 1 A ∧ tc_wf m B
  | [], n, k, h, hk => absurd hk (by simp)
  | x :: R, n, 0, h, hk => by
    obtain ⟨A, B, e, hA, hB⟩ := tc_first h h.1
    exact ⟨A, B, n - 1, e, hA, hB⟩
  | x :: R, n, k + 1, h, hk => by
    obtain ⟨A, B, m, e, hA, hB⟩ := tc_at k h.2 (by simpa using hk)
    exact ⟨A, B, m, e, hA, hB⟩
theorem tc_wf_drop : ∀ {L : List tc_Nd} {n : Nat} (k : Nat), tc_wf n L → ∃ m, tc_wf m (L.drop k)
  | L, n, 0, h => ⟨n, h⟩
  | [], n, k + 1, h => ⟨n, h⟩
  | x :: R, n, k + 1, h => tc_wf_drop k h.2
/-! PURE 2: open places (of which node, level, lambdas around), and what every node gets of them. -/
abbrev tc_Q : Type := Option Nat × Nat × Nat
def tc_kid (i : Nat) (x : tc_Nd) (q : tc_Q) : List tc_Q := List.replicate (tc_tk x.1) (some i, q.2.1 + 1, q.2.2 + if x.1 = 1 then 1 else 0)
def tc_fw : Nat → List tc_Q → List tc_Nd → List tc_Q
  | _, _, [] => []
  | _, [], _ :: _ => []
  | i, q :: st, x :: R => q :: tc_fw (i + 1) (tc_kid i x q ++ st) R
def tc_pd : Nat → List tc_Q → List tc_Nd → List tc_Q
  | _, st, [] => st
  | _, [], _ :: _ => []
  | i, q :: st, x :: R => tc_pd (i + 1) (tc_kid i x q ++ st) R
theorem tc_fw_nil (i : Nat) (st : List tc_Q) : tc_fw i st [] = [] := by cases st <;> rfl
theorem tc_fw_no (i : Nat) (L : List tc_Nd) : tc_fw i [] L = [] := by cases L <;> rfl
theorem tc_fw_cons (i : Nat) (q : tc_Q) (st : List tc_Q) (x : tc_Nd) (R : List tc_Nd) : tc_fw i (q :: st) (x :: R) = q :: tc_fw (i + 1) (tc_kid i x q ++ st) R := rfl
theorem tc_pd_nil (i : Nat) (st : List tc_Q) : tc_pd i st [] = st := by cases st <;> rfl
theorem tc_pd_no (i : Nat) (L : List tc_Nd) : tc_pd i [] L = [] := by cases L <;> rfl
theorem tc_pd_cons (i : Nat) (q : tc_Q) (st : List tc_Q) (x : tc_Nd) (R : List tc_Nd) : tc_pd i (q :: st) (x :: R) = tc_pd (i + 1) (tc_kid i x q ++ st) R := rfl
theorem tc_kid_len (i : Nat) (x : tc_Nd) (q : tc_Q) : (tc_kid i x q).length = tc_tk x.1 := List.length_replicate
theorem tc_fw_app : ∀ (A B : List tc_Nd) (i : Nat) (st : List tc_Q), tc_fw i st (A ++ B) = tc_fw i st A ++ tc_fw (i + A.length) (tc_pd i st A) B
  | [], B, i, st => by rw [List.nil_append, tc_fw_nil, tc_pd_nil, List.nil_append]; rfl
  | x :: A, B, i, [] => by rw [tc_fw_no, tc_fw_no, tc_pd_no, tc_fw_no]; rfl
  | x :: A, B, i, q :: st => by
    rw [List.cons_append, tc_fw_cons, tc_fw_cons, tc_pd_cons, tc_fw_app A B, List.cons_append, List.length_cons]
    rw [show i + 1 + A.length = i + (A.length + 1) by omega]
theorem tc_pd_app : ∀ (A B : List tc_Nd) (i : Nat) (st : List tc_Q), tc_pd i st (A ++ B) = tc_pd (i + A.length) (tc_pd i st A) B
  | [], B, i, st => by rw [List.nil_append, tc_pd_nil]; rfl
  | x :: A, B, i, [] => by rw [tc_pd_no, tc_pd_no, tc_pd_no]
  | x :: A, B, i, q :: st => by
    rw [List.cons_append, tc_pd_cons, tc_pd_cons, tc_pd_app A B, List.length_cons]
    rw [show i + 1 + A.length = i + (A.length + 1) by omega]
/-- n terms use up the n first open places, and look at no other -/
theorem tc_pd_wf : ∀ {A : List tc_Nd} {n : Nat} (i : Nat) (s1 s2 : List tc_Q), tc_wf n A → s1.length = n → tc_pd i (s1 ++ s2) A = s2 ∧ tc_fw i (s1 ++ s2) A = tc_fw i s1 A
  | [], n, i, s1, s2, h, hl => by
    have h : n = 0 := h
    subst h
    rw [List.eq_nil_of_length_eq_zero hl, List.nil_append]
    exact ⟨tc_pd_nil i s2, by rw [tc_fw_nil, tc_fw_nil]⟩
  | x :: A, n, i, [], s2, h, hl => by
    have := h.1
    simp at hl
    omega
  | x :: A, n, i, q :: s1, s2, h, hl => by
    have h1 := tc_pd_wf (i + 1) (tc_kid i x q ++ s1) s2 h.2 (by rw [List.length_append, tc_kid_len]; simp at hl; omega)
    rw [List.cons_append, tc_pd_cons, tc_fw_cons, tc_fw_cons, ← List.append_assoc]
    exact ⟨h1.1, by rw [h1.2]⟩
theorem tc_fw_len : ∀ {A : List tc_Nd} {n : Nat} (i : Nat) (st : List tc_Q), tc_wf n A → st.length = n → (tc_fw i st A).length = A.length
  | [], n, i, st, h, hl => by rw [tc_fw_nil]; rfl
  | x :: A, n, i, [], h, hl => by
    have := h.1
    simp at hl
    omega
  | x :: A, n, i, q :: st, h, hl => by
    rw [tc_fw_cons, List.length_cons, List.length_cons, tc_fw_len (i + 1) (tc_kid i x q ++ st) h.2 (by rw [List.length_append, tc_kid_len]; simp at hl; omega)]
theorem tc_fw_2 {A B : List tc_Nd} {a : Nat} (i : Nat) (s1 s2 : List tc_Q) (hA : tc_wf a A) (h1 : s1.length = a) : tc_fw i (s1 ++ s2) (A ++ B) = tc_fw i s1 A ++ tc_fw (i + A.length) s2 B := by
  obtain ⟨e1, e2⟩ := tc_pd_wf i s1 s2 hA h1
  rw [tc_fw_app, e1, e2]
/-- a term of parts -/
theorem tc_fw_t1 {x : tc_Nd} {A : List tc_Nd} (hx : tc_tk x.1 = 1) (i : Nat) (q : tc_Q) : tc_fw i [q] (x :: A) = q :: tc_fw (i + 1) [(some i, q.2.1 + 1, q.2.2 + if x.1 = 1 then 1 else 0)] A := by
  rw [tc_fw_cons]
  unfold tc_kid
  rw [hx]
  rfl
theorem tc_fw_t2 {x : tc_Nd} {A B : List tc_Nd} (hx : tc_tk x.1 = 2) (hA : tc_wf 1 A) (i : Nat) (q : tc_Q) :
    tc_fw i [q] (x :: (A ++ B)) = q :: (tc_fw (i + 1) [(some i, q.2.1 + 1, q.2.2 + if x.1 = 1 then 1 else 0)] A ++ tc_fw (i + 1 + A.length) [(some i, q.2.1 + 1, q.2.2 + if x.1 = 1 then 1 else 0)] B) := by
  rw [tc_fw_cons]
  unfold tc_kid
  rw [hx]
  exact congrArg _ (tc_fw_2 (i + 1) [_] [_] hA rfl)
/-- levels never fall below those that stand open -/
theorem tc_fw_lev : ∀ (L : List tc_Nd) (i l : Nat) (st : List tc_Q), (∀ q ∈ st, l ≤ q.2.1) → ∀ q ∈ tc_fw i st L, l ≤ q.2.1
  | [], i, l, st, _, q, hq => by rw [tc_fw_nil] at hq; cases hq
  | x :: R, i, l, [], _, q, hq => by rw [tc_fw_no] at hq; cases hq
  | x :: R, i, l, q0 :: st, h, q, hq => by
    rw [tc_fw_cons] at hq
    rcases List.mem_cons.mp hq with rfl | hq
    · exact h _ List.mem_cons_self
    · refine tc_fw_lev R (i + 1) l _ (fun z hz => ?_) q hq
      rcases List.mem_append.mp hz with hz | hz
      · have := (List.mem_replicate.mp hz).2
        rw [this]
        exact Nat.le_succ_of_le (h _ List.mem_cons_self)
      · exact h z (List.mem_cons_of_mem _ hz)
theorem tc_fw_lc : ∀ (L : List tc_Nd) (i l : Nat) (st : List tc_Q), (∀ q ∈ st, l ≤ q.2.2) → ∀ q ∈ tc_fw i st L, l ≤ q.2.2
  | [], i, l, st, _, q, hq => by rw [tc_fw_nil] at hq; cases hq
  | x :: R, i, l, [], _, q, hq => by rw [tc_fw_no] at hq; cases hq
  | x :: R, i, l, q0 :: st, h, q, hq => by
    rw [tc_fw_cons] at hq
    rcases List.mem_cons.mp hq with rfl | hq
    · exact h _ List.mem_cons_self
    · refine tc_fw_lc R (i + 1) l _ (fun z hz => ?_) q hq
      rcases List.mem_append.mp hz with hz | hz
      · have := (List.mem_replicate.mp hz).2
        rw [this]
        exact Nat.le_trans (h _ List.mem_cons_self) (Nat.le_add_right _ _)
      · exact h z (List.mem_cons_of_mem _ hz)
/-- the greatest level in a term -/
def tc_mx (E : List tc_Q) : Nat := E.foldr (fun q r => max q.2.1 r) 0
theorem tc_mx_app (A B : List tc_Q) : tc_mx (A ++ B) = max (tc_mx A) (tc_mx B) := by
  induction A with
  | nil => exact (Nat.zero_max _).symm
  | cons q A ih =>
    show max q.2.1 (tc_mx (A ++ B)) = max (max q.2.1 (tc_mx A)) (tc_mx B)
    rw [ih, Nat.max_assoc]
theorem tc_dp_pos {L : List tc_Nd} (h : tc_wf 1 L) : 0 < tc_dp L := by
  match L, h with
  | x :: R, h =>
    show 0 < tc_fd x _
    unfold tc_fd
    omega
theorem tc_mx_dp {L : List tc_Nd} (h : tc_wf 1 L) : ∀ (i : Nat) (q : tc_Q), tc_mx (tc_fw i [q] L) = q.2.1 + tc_dp L - 1 := by
  refine tc_induct (P := fun L => ∀ (i : Nat) (q : tc_Q), tc_mx (tc_fw i [q] L) = q.2.1 + tc_dp L - 1) h ?_ ?_ ?_
  · intro x hx i q
    rw [tc_fw_cons, tc_fw_nil, tc_dp, tc_tv_0 _ _ hx]
    show max q.2.1 0 = q.2.1 + (1 + 0) - 1
    omega
  · intro x A hx hA ih i q
    rw [tc_fw_t1 hx, tc_dp, tc_tv_1 _ _ hx hA]
    show max q.2.1 (tc_mx _) = q.2.1 + (1 + max (tc_dp A) 0) - 1
    rw [ih]
    have := tc_dp_pos hA
    show max q.2.1 (q.2.1 + 1 + tc_dp A - 1) = _
    omega
  · intro x A B hx hA hB ihA ihB i q
    rw [tc_fw_t2 hx hA, tc_dp, tc_tv_2 _ _ hx hA hB]
    show max q.2.1 (tc_mx _) = q.2.1 + (1 + max (tc_dp A) (max (tc_dp B) 0)) - 1
    rw [tc_mx_app, ihA, ihB]
    have := tc_dp_pos hA
    have := tc_dp_pos hB
    show max q.2.1 (max (q.2.1 + 1 + tc_dp A - 1) (q.2.1 + 1 + tc_dp B - 1)) = _
    omega
/-- what the variables of a term lack, seen from so many lambdas outside -/
def tc_ml (c : Nat) : List tc_Nd → List tc_Q → Nat
  | x :: L, q :: E => max (if x.1 = 0 then x.2.1.toInt.toNat - (q.2.2 - c) else 0) (tc_ml c L E)
  | _, _ => 0
theorem tc_ml_app (c : Nat) : ∀ (A B : List tc_Nd) (E F : List tc_Q), E.length = A.length → tc_ml c (A ++ B) (E ++ F) = max (tc_ml c A E) (tc_ml c B F)
  | [], B, [], F, _ => (Nat.zero_max _).symm
  | [], B, q :: E, F, h => by simp at h
  | x :: A, B, [], F, h => by simp at h
  | x :: A, B, q :: E, F, h => by
    show max _ (tc_ml c (A ++ B) (E ++ F)) = max (max _ (tc_ml c A E)) (tc_ml c B F)
    rw [tc_ml_app c A B E F (by simpa using h), Nat.max_assoc]
theorem tc_ml_lk {L : List tc_Nd} (h : tc_wf 1 L) : ∀ (i c : Nat) (q : tc_Q), c ≤ q.2.2 → tc_ml c L (tc_fw i [q] L) = tc_lk L - (q.2.2 - c) := by
  refine tc_induct (P := fun L => ∀ (i c : Nat) (q : tc_Q), c ≤ q.2.2 → tc_ml c L (tc_fw i [q] L) = tc_lk L - (q.2.2 - c)) h ?_ ?_ ?_
  · intro x hx i c q hc
    rw [tc_fw_cons, tc_fw_nil, tc_lk, tc_tv_0 _ _ hx]
    show max (if x.1 = 0 then x.2.1.toInt.toNat - (q.2.2 - c) else 0) 0 = tc_fl x [] - (q.2.2 - c)
    unfold tc_fl
    by_cases h0 : x.1 = 0
    · rw [if_pos h0, if_pos h0, Nat.max_zero]
    · rw [if_neg h0, if_neg h0]
      split <;> simp
  · intro x A hx hA ih i c q hc
    rw [tc_fw_t1 hx, tc_lk, tc_tv_1 _ _ hx hA]
    have h0 : ¬ x.1 = 0 := fun q => by rw [q] at hx; exact absurd hx (by decide)
    show max (if x.1 = 0 then x.2.1.toInt.toNat - (q.2.2 - c) else 0) (tc_ml c A _) = tc_fl x [tc_lk A] - (q.2.2 - c)
    rw [if_neg h0, ih (i + 1) c _ (Nat.le_trans hc (Nat.le_add_right _ _))]
    unfold tc_fl
    rw [if_neg h0]
    show max 0 (tc_lk A - (q.2.2 + (if x.1 = 1 then 1 else 0) - c)) = _
    by_cases h1 : x.1 = 1
    · rw [if_pos h1, if_pos h1]
      show _ = max (tc_lk A) 0 - 1 - (q.2.2 - c)
      omega
    · rw [if_neg h1, if_neg h1]
      show _ = max (tc_lk A) 0 - (q.2.2 - c)
      omega
  · intro x A B hx hA hB ihA ihB i c q hc
    rw [tc_fw_t2 hx hA, tc_lk, tc_tv_2 _ _ hx hA hB]
    have h0 : ¬ x.1 = 0 := fun q => by rw [q] at hx; exact absurd hx (by decide)
    have h1 : ¬ x.1 = 1 := fun q => by rw [q] at hx; exact absurd hx (by decide)
    show max (if x.1 = 0 then x.2.1.toInt.toNat - (q.2.2 - c) else 0) (tc_ml c (A ++ B) _) = tc_fl x [tc_lk A, tc_lk B] - (q.2.2 - c)
    rw [if_neg h0, tc_ml_app c A B _ _ (tc_fw_len _ _ hA rfl), ihA (i + 1) c _ (Nat.le_trans hc (Nat.le_add_right _ _)), ihB (i + 1 + A.length) c _ (Nat.le_trans hc (Nat.le_add_right _ _))]
    unfold tc_fl
    rw [if_neg h0, if_neg h1, if_neg h1]
    show max 0 (max (tc_lk A - (q.2.2 + 0 - c)) (tc_lk B - (q.2.2 + 0 - c))) = max (tc_lk A) (max (tc_lk B) 0) - (q.2.2 - c)
    omega
/-! PURE 3: numbers: groups of seven bits, bytes of a long. -/
theorem tc_sar (x : Int64) {k : Nat} (hk : k < 64) : (x >>> ((nI k).toInt64 &&& 63)).toInt = x.toInt >>> k := by
  rw [wb_c k hk]
  show (x.toBitVec.sshiftRight ((lN k).toBitVec.smod 64).toNat).toInt = _
  rw [wb_tb, wb_sm k hk, BitVec.toNat_ofNat, Nat.mod_eq_of_lt (show k < 2 ^ 64 by omega), BitVec.toInt_sshiftRight]
  rfl
theorem tc_sard (x : Int64) {k : Nat} {p : Int} (hk : k < 64) (hp : ((2 ^ k : Nat) : Int) = p) : (x >>> ((nI k).toInt64 &&& 63)).toInt = x.toInt / p := by
  rw [tc_sar x hk, Int.shiftRight_eq_div_pow, hp]
theorem tc_l0 {y : Int64} : y = 0 ↔ y.toInt = 0 := ⟨fun h => by rw [h]; rfl, fun h => Int64.toInt_inj.mp (by rw [h]; rfl)⟩
theorem tc_lm1 {y : Int64} : y = (-1) ↔ y.toInt = -1 := ⟨fun h => by rw [h]; rfl, fun h => Int64.toInt_inj.mp (by rw [h]; rfl)⟩
theorem tc_sg1 (x : Int64) : (x >>> ((nI 6).toInt64 &&& 63) = 0 ∨ x >>> ((nI 6).toInt64 &&& 63) = (-1)) ↔ (-64 ≤ x.toInt ∧ x.toInt < 64) := by
  rw [tc_l0, tc_lm1, tc_sard x (k := 6) (p := 64) (by decide) (by decide)]
  omega
theorem tc_sg2 (x : Int64) : (x >>> ((nI 13).toInt64 &&& 63) = 0 ∨ x >>> ((nI 13).toInt64 &&& 63) = (-1)) ↔ (-8192 ≤ x.toInt ∧ x.toInt < 8192) := by
  rw [tc_l0, tc_lm1, tc_sard x (k := 13) (p := 8192) (by decide) (by decide)]
  omega
theorem tc_sg3 (x : Int64) : (x >>> ((nI 20).toInt64 &&& 63) = 0 ∨ x >>> ((nI 20).toInt64 &&& 63) = (-1)) ↔ (-1048576 ≤ x.toInt ∧ x.toInt < 1048576) := by
  rw [tc_l0, tc_lm1, tc_sard x (k := 20) (p := 1048576) (by decide) (by decide)]
  omega
theorem tc_sg4 (x : Int64) : (x >>> ((nI 27).toInt64 &&& 63) = 0 ∨ x >>> ((nI 27).toInt64 &&& 63) = (-1)) ↔ (-134217728 ≤ x.toInt ∧ x.toInt < 134217728) := by
  rw [tc_l0, tc_lm1, tc_sard x (k := 27) (p := 134217728) (by decide) (by decide)]
  omega
theorem tc_sg5 (x : Int64) : (x >>> ((nI 34).toInt64 &&& 63) = 0 ∨ x >>> ((nI 34).toInt64 &&& 63) = (-1)) ↔ (-17179869184 ≤ x.toInt ∧ x.toInt < 17179869184) := by
  rw [tc_l0, tc_lm1, tc_sard x (k := 34) (p := 17179869184) (by decide) (by decide)]
  omega
theorem tc_sg6 (x : Int64) : (x >>> ((nI 41).toInt64 &&& 63) = 0 ∨ x >>> ((nI 41).toInt64 &&& 63) = (-1)) ↔ (-2199023255552 ≤ x.toInt ∧ x.toInt < 2199023255552) := by
  rw [tc_l0, tc_lm1, tc_sard x (k := 41) (p := 2199023255552) (by decide) (by decide)]
  omega
theorem tc_sg7 (x : Int64) : (x >>> ((nI 48).toInt64 &&& 63) = 0 ∨ x >>> ((nI 48).toInt64 &&& 63) = (-1)) ↔ (-281474976710656 ≤ x.toInt ∧ x.toInt < 281474976710656) := by
  rw [tc_l0, tc_lm1, tc_sard x (k := 48) (p := 281474976710656) (by decide) (by decide)]
  omega
theorem tc_sg8 (x : Int64) : (x >>> ((nI 55).toInt64 &&& 63) = 0 ∨ x >>> ((nI 55).toInt64 &&& 63) = (-1)) ↔ (-36028797018963968 ≤ x.toInt ∧ x.toInt < 36028797018963968) := by
  rw [tc_l0, tc_lm1, tc_sard x (k := 55) (p := 36028797018963968) (by decide) (by decide)]
  omega
theorem tc_sg9 (x : Int64) : (x >>> ((nI 62).toInt64 &&& 63) = 0 ∨ x >>> ((nI 62).toInt64 &&& 63) = (-1)) ↔ (-4611686018427387904 ≤ x.toInt ∧ x.toInt < 4611686018427387904) := by
  rw [tc_l0, tc_lm1, tc_sard x (k := 62) (p := 4611686018427387904) (by decide) (by decide)]
  omega
/-- how many groups S has -/
def tc_gS (z : Int) : Nat := if -64 ≤ z ∧ z < 64 then 1 else if -8192 ≤ z ∧ z < 8192 then 2 else if -1048576 ≤ z ∧ z < 1048576 then 3 else if -134217728 ≤ z ∧ z < 134217728 then 4 else if -17179869184 ≤ z ∧ z < 17179869184 then 5 else if -2199023255552 ≤ z ∧ z < 2199023255552 then 6 else if -281474976710656 ≤ z ∧ z < 281474976710656 then 7 else if -36028797018963968 ≤ z ∧ z < 36028797018963968 then 8 else if -4611686018427387904 ≤ z ∧ z < 4611686018427387904 then 9 else 10
/-- how many groups U has -/
def tc_gU (v : Nat) : Nat := if v < 128 then 1 else if v < 16384 then 2 else if v < 2097152 then 3 else if v < 268435456 then 4 else 5
/-- byte i of a long, the lowest being 0 -/
def tc_by (x : Int64) (i : Nat) : Nat := uN x / 2 ^ (8 * i) % 256
theorem tc_l2i (y : Int64) : y.toInt32.toBitVec.toNat = uN y % 2 ^ 32 := by
  rw [Int64.toBitVec_toInt32, BitVec.signExtend_eq_setWidth_of_le _ (by decide), BitVec.toNat_setWidth]
  rfl
theorem tc_and255 (y : Int64) : y.toInt32 &&& nI 255 = nI (uN y % 256) := by
  rw [pk_and y.toInt32 8 (by decide), tc_l2i]
  congr 1
  omega
theorem tc_and127 (y : Int64) : y.toInt32 &&& nI 127 = nI (uN y % 128) := by
  rw [pk_and y.toInt32 7 (by decide), tc_l2i]
  congr 1
  omega
theorem tc_byteOf (x : Int64) {i : Nat} (hi : i < 8) : ((x.toUInt64 >>> ((nI (8 * i)).toInt64.toUInt64 &&& Int64.toUInt64 63)).toInt64).toInt32 &&& nI 255 = nI (tc_by x i) := by
  rw [tc_and255, uN_sk x (show 8 * i < 64 by omega)]
  rfl
theorem tc_by_lt (x : Int64) (i : Nat) : tc_by x i < 256 := Nat.mod_lt _ (by decide)
theorem tc_uN_int (x : Int64) : (uN x : Int) = x.toInt % 18446744073709551616 := by
  rw [uN_int x]
  have := uN_lt x
  split <;> omega
/-- group i of a long -/
def tc_g7 (x : Int64) (i : Nat) : Nat := (x.toInt / (2 ^ (7 * i) : Nat) % 128).toNat
theorem tc_g7_lt (x : Int64) (i : Nat) : tc_g7 x i < 128 := by
  unfold tc_g7
  omega
theorem tc_g7_ok (x : Int64) {i : Nat} (hi : 7 * i < 64) : (x >>> ((nI (7 * i)).toInt64 &&& 63)).toInt32 &&& nI 127 = nI (tc_g7 x i) := by
  rw [tc_and127]
  congr 1
  have h1 := tc_uN_int (x >>> ((nI (7 * i)).toInt64 &&& 63))
  rw [tc_sard x hi rfl] at h1
  unfold tc_g7
  omega
theorem tc_or128 {v : Nat} (h : v < 128) : nI v ||| nI 128 = nI (v + 128) := by
  have h1 : ∀ v, v < 128 → nI v ||| nI 128 = nI (v + 128) := by decide +kernel
  exact h1 v h
/-! PURE 4: kinds and their numbers. -/
def tc_num (k : Nat) : Bool := decide (k = 0 ∨ k = 6 ∨ k = 7 ∨ k = 9)
def tc_fitP (k : Nat) (x : Int64) : Prop := if k = 0 then 1 ≤ x ∧ x ≤ 200 else if k = 6 then 0 ≤ x ∧ x ≤ 31 else if k = 7 then True else if k = 8 then 0 ≤ x ∧ x ≤ 64 else if k = 9 then x = 0 ∨ x = 1 else x = 0
noncomputable def tc_fit (k : Nat) (x : Int64) : Bool := @decide (tc_fitP k x) (Classical.propDecidable _)
theorem tc_fit_t {k : Nat} {x : Int64} (h : tc_fitP k x) : tc_fit k x = true := by
  unfold tc_fit
  exact @decide_eq_true _ (Classical.propDecidable _) h
theorem tc_fit_f {k : Nat} {x : Int64} (h : ¬ tc_fitP k x) : tc_fit k x = false := by
  unfold tc_fit
  exact @decide_eq_false _ (Classical.propDecidable _) h
theorem tc_fit_iff {k : Nat} {x : Int64} : tc_fit k x = true ↔ tc_fitP k x := by
  by_cases h : tc_fitP k x
  · rw [tc_fit_t h]
    exact ⟨fun _ => h, fun _ => rfl⟩
  · rw [tc_fit_f h]
    exact ⟨fun q => Bool.noConfusion q, fun q => absurd q h⟩
theorem tc_div0 {v p : Nat} (hp : 0 < p) (hv : v / p < 9223372036854775808) (h : lN (v / p) = 0) : v < p := by
  have h1 : v / p = 0 := (pk_lEQ (show v / p < 2 ^ 63 by omega) (show 0 < 2 ^ 63 by decide)).mp h
  exact (Nat.div_eq_zero_iff.mp h1).resolve_left (by omega)
theorem tc_div0' {v p : Nat} (hp : 0 < p) (h : v < p) : lN (v / p) = 0 := by
  rw [Nat.div_eq_of_lt h]
  rfl
/-- byte j of g groups -/
def tc_grb (x : Int64) (g j : Nat) : Nat := if j + 1 < g then tc_g7 x j + 128 else tc_g7 x j
theorem tc_grb_lo {x : Int64} {g j : Nat} (h : j + 1 < g) : tc_grb x g j = tc_g7 x j + 128 := if_pos h
theorem tc_grb_hi {x : Int64} {g j : Nat} (h : ¬ j + 1 < g) : tc_grb x g j = tc_g7 x j := if_neg h
theorem tc_app_grb {x : Int64} {g i sz v : Nat} {bg : Nat → Nat} (h : ∀ j, j < i → bg (sz + j) = tc_grb x g j) (hv : v = tc_grb x g i) : ∀ j, j < i + 1 → va_up bg (sz + i) v (sz + j) = tc_grb x g j := by
  intro j hj
  by_cases e : j = i
  · rw [e, va_up_self, hv]
  · rw [va_up_ne _ _ (by omega)]
    exact h j (by omega)
/-- how many bytes a node has by itself -/
def tc_ol (k : Nat) (x : Int64) : Nat := if k = 0 then 1 + tc_gU x.toInt.toNat else if k = 7 then 1 + tc_gS x.toInt else if k = 8 then 2 + x.toInt.toNat else if k = 6 ∨ k = 9 then 2 else 1
theorem tc_ol_0 {v : Nat} (h : v < 2 ^ 30) : tc_ol 0 (lN v) = 1 + tc_gU v := by
  unfold tc_ol
  rw [if_pos rfl, pk_lT (by omega), Int.toNat_natCast]
theorem tc_ol_8 {v : Nat} (h : v < 2 ^ 30) : tc_ol 8 (lN v) = 2 + v := by
  unfold tc_ol
  rw [if_neg (by decide), if_neg (by decide), if_pos rfl, pk_lT (by omega), Int.toNat_natCast]
def tc_pr : Nat → Option Nat
  | 0 => none
  | n + 1 => some n
theorem tc_pr_pos {n : Nat} (h : 0 < n) : tc_pr n = some (n - 1) := by
  cases n with
  | zero => exact absurd h (Nat.lt_irrefl _)
  | succ n => rfl
theorem tc_pr_some {n t : Nat} (h : tc_pr n = some t) : n = t + 1 := by
  cases n with
  | zero => cases h
  | succ n => exact congrArg (· + 1) (Option.some.inj h)
theorem tc_pr_sub (k : Nat) : nI k - nI 1 = xk_oI (tc_pr k) := by
  cases k with
  | zero => rfl
  | succ n => exact nI_pred n
theorem tc_pr_dec (k : Nat) : nI k + Int32.ofInt (-1) = xk_oI (tc_pr k) := by
  cases k with
  | zero => rfl
  | succ n => exact pk_m1 n
/-- byte j of the words of node i -/
def tc_wb (wo : Nat → Int64) (i j : Nat) : Nat := tc_by (wo (i * 8 + j / 8)) (7 - j % 8)
theorem tc_tk3 (k : Nat) : tc_tk k = 0 ∨ tc_tk k = 1 ∨ tc_tk k = 2 := by have := tc_tk_le k; omega
/-- where the parts of node i stand -/
def tc_chs (k i : Nat) (si : Nat → Nat) : List Nat := if tc_tk k = 0 then [] else if tc_tk k = 1 then [i + 1] else [i + 1, i + (1 + si (i + 1))]
theorem tc_chs_0 {k i : Nat} {si : Nat → Nat} (h : tc_tk k = 0) : tc_chs k i si = [] := if_pos h
theorem tc_chs_1 {k i : Nat} {si : Nat → Nat} (h : tc_tk k = 1) : tc_chs k i si = [i + 1] := by
  unfold tc_chs
  rw [if_neg (by omega), if_pos h]
theorem tc_chs_2 {k i : Nat} {si : Nat → Nat} (h : tc_tk k = 2) : tc_chs k i si = [i + 1, i + (1 + si (i + 1))] := by
  unfold tc_chs
  rw [if_neg (by omega), if_neg (by omega)]
theorem tc_gU_le (v : Nat) : tc_gU v ≤ 5 := by
  unfold tc_gU
  repeat (split; omega)
  omega
theorem tc_gS_le (z : Int) : tc_gS z ≤ 10 := by
  unfold tc_gS
  repeat (split; omega)
  omega
theorem tc_ol_lt (k : Nat) (x : Int64) (v : Nat) (h : k = 0 ∨ k = 8 → x = lN v ∧ v < 2 ^ 30) : tc_ol k x < 2 ^ 30 + 100 := by
  unfold tc_ol
  have h1 := tc_gU_le x.toInt.toNat
  have h2 := tc_gS_le x.toInt
  split
  · omega
  · split
    · omega
    · split
      · rename_i q
        obtain ⟨e, hv⟩ := h (Or.inr q)
        rw [e, pk_lT (by omega), Int.toNat_natCast]
        omega
      · split <;> omega
theorem tc_se_n {k l0 l1 : Nat} {x : Int64} {vs : List Nat} (e0 : l0 = if k = 0 then x.toInt.toNat else 0) (f3 : l1 = max l0 (vs.foldr max 0)) (h : ¬ k = 1) (h0 : k = 0 → vs = [] := by first | assumption | (intro q; rw [q]; rfl)) : l1 = tc_fl (k, x, []) vs := by
  by_cases hk : k = 0
  · have q : tc_fl (k, x, []) vs = x.toInt.toNat := if_pos hk
    rw [q, f3, e0, if_pos hk, h0 hk]
    show max _ 0 = _
    omega
  · have q : tc_fl (k, x, []) vs = vs.foldr max 0 := (if_neg hk).trans (if_neg h)
    rw [q, f3, e0, if_neg hk]
    omega
theorem tc_se_0 {k l0 l1 : Nat} {x : Int64} {vs : List Nat} (e0 : l0 = if k = 0 then x.toInt.toNat else 0) (f3 : l1 = max l0 (vs.foldr max 0)) (h : k = 1) (hl : l1 = 0) : l1 = tc_fl (k, x, []) vs := by
  unfold tc_fl
  rw [if_neg (by show ¬ k = 0; omega), if_pos h]
  show _ = vs.foldr max 0 - 1
  omega
theorem tc_se_1 {k l0 l1 : Nat} {x : Int64} {vs : List Nat} (e0 : l0 = if k = 0 then x.toInt.toNat else 0) (f3 : l1 = max l0 (vs.foldr max 0)) (h : k = 1) : l1 - 1 = tc_fl (k, x, []) vs := by
  have h0 : l0 = 0 := by rw [e0, if_neg (by omega)]
  unfold tc_fl
  rw [if_neg (by show ¬ k = 0; omega), if_pos h]
  show _ = vs.foldr max 0 - 1
  omega
theorem tc_by_bit (x : Int64) (i t : Nat) : (tc_by x i).testBit t = (decide (t < 8) && (uN x).testBit (8 * i + t)) := by
  unfold tc_by
  rw [show (256 : Nat) = 2 ^ 8 by rfl, Nat.testBit_mod_two_pow, Nat.testBit_div_two_pow]
  rw [Nat.add_comm]
theorem tc_uN_bit (x : Int64) (n : Nat) : (uN x).testBit n = x.toBitVec.getLsbD n := rfl
theorem tc_mask_bit {s n : Nat} : (255 * 2 ^ s).testBit n = (decide (s ≤ n) && decide (n < s + 8)) := by
  rw [Nat.mul_comm, Nat.testBit_two_pow_mul]
  by_cases h : s ≤ n
  · rw [show (255 : Nat) = 2 ^ 8 - 1 by rfl, Nat.testBit_two_pow_sub_one]
    simp only [h, decide_true, Bool.true_and, ge_iff_le]
    congr 1
    simp
    omega
  · simp [h]
theorem tc_set_by (W : Int64) {b u t : Nat} (hb : b < 256) (hu : u < 8) (ht : t < 8) :
    tc_by ((W &&& (lN (255 * 2 ^ (8 * u)) ^^^ (-1))) ||| lN (b * 2 ^ (8 * u))) t = if t = u then b else tc_by W t := by
  apply Nat.eq_of_testBit_eq
  intro n
  rw [tc_by_bit, tc_uN_bit]
  by_cases hn : n < 8
  · have hm : 8 * t + n < 64 := by omega
    rw [Int64.toBitVec_or, Int64.toBitVec_and, Int64.toBitVec_xor, BitVec.getLsbD_or, BitVec.getLsbD_and, BitVec.getLsbD_xor]
    have h1 : (-1 : Int64).toBitVec.getLsbD (8 * t + n) = true := by
      have : (-1 : Int64).toBitVec = BitVec.allOnes 64 := by decide
      rw [this, BitVec.getLsbD_allOnes]
      simp [hm]
    have h2 : (lN (255 * 2 ^ (8 * u))).toBitVec.getLsbD (8 * t + n) = decide (t = u) := by
      rw [wb_tb, BitVec.getLsbD_ofNat, tc_mask_bit]
      simp only [hm, decide_true, Bool.true_and]
      by_cases e : t = u
      · subst e
        simp
        omega
      · simp [e]
        omega
    have h3 : (lN (b * 2 ^ (8 * u))).toBitVec.getLsbD (8 * t + n) = (decide (t = u) && b.testBit n) := by
      rw [wb_tb, BitVec.getLsbD_ofNat, Nat.mul_comm b, Nat.testBit_two_pow_mul]
      simp only [hm, decide_true, Bool.true_and]
      by_cases e : t = u
      · subst e
        simp
      · by_cases e2 : 8 * u ≤ 8 * t + n
        · have e3 : b.testBit (8 * t + n - 8 * u) = false := Nat.testBit_lt_two_pow (Nat.lt_of_lt_of_le hb (show 256 ≤ 2 ^ (8 * t + n - 8 * u) from Nat.pow_le_pow_right (n := 2) (by decide) (show 8 ≤ 8 * t + n - 8 * u by omega)))
          simp [e, e3]
        · simp [e, e2]
    rw [h1, h2, h3]
    by_cases e : t = u
    · rw [if_pos e]
      simp [e, hn]
    · rw [if_neg e, tc_by_bit, tc_uN_bit]
      simp [e, hn]
  · simp only [hn, decide_false, Bool.false_and]
    symm
    by_cases e : t = u
    · rw [if_pos e]
      exact Nat.testBit_lt_two_pow (Nat.lt_of_lt_of_le hb (show 256 ≤ 2 ^ n from Nat.pow_le_pow_right (n := 2) (by decide) (show 8 ≤ n by omega)))
    · rw [if_neg e]
      exact Nat.testBit_lt_two_pow (Nat.lt_of_lt_of_le (tc_by_lt W t) (show 256 ≤ 2 ^ n from Nat.pow_le_pow_right (n := 2) (by decide) (show 8 ≤ n by omega)))
theorem tc_setb (wo : Nat → Int64) (i j b : Nat) (hj : j < 64) (hb : b < 256) : ∀ q t, t < 64 → tc_wb (vp_updL wo (i * 8 + j / 8) ((wo (i * 8 + j / 8) &&& (lN (255 * 2 ^ (8 * (7 - j % 8))) ^^^ (-1))) ||| lN (b * 2 ^ (8 * (7 - j % 8))))) q t = if q = i ∧ t = j then b else tc_wb wo q t := by
  intro q t ht
  unfold tc_wb
  by_cases e : q * 8 + t / 8 = i * 8 + j / 8
  · have hq : q = i := by omega
    rw [e, pk_uLs, tc_set_by _ hb (by omega) (by omega)]
    by_cases e2 : t = j
    · rw [if_pos (by rw [e2]), if_pos ⟨hq, e2⟩]
    · rw [if_neg (by omega), if_neg (fun h => e2 h.2)]
  · rw [pk_uLn e, if_neg (fun h => e (by rw [h.1, h.2]))]
/-! PURE 5: a node's place in a term: its part, its parent. -/
def tc_q0 : tc_Q := (none, 1, 0)
def tc_E (L : List tc_Nd) : List tc_Q := tc_fw 0 [tc_q0] L
/-- the open places, before node k -/
def tc_st (L : List tc_Nd) (k : Nat) : List tc_Q := tc_pd 0 [tc_q0] (L.take k)
theorem tc_pd_len : ∀ (P R : List tc_Nd) (i : Nat) (st : List tc_Q), tc_wf st.length (P ++ R) → tc_wf (tc_pd i st P).length R
  | [], R, i, st, h => by rw [tc_pd_nil]; exact h
  | x :: P, R, i, [], h => absurd h.1 (by simp)
  | x :: P, R, i, q :: st, h => by
    rw [tc_pd_cons]
    refine tc_pd_len P R (i + 1) _ ?_
    rw [List.length_append, tc_kid_len]
    have h2 := h.2
    rw [List.length_cons, show st.length + 1 - 1 + tc_tk x.1 = tc_tk x.1 + st.length by omega] at h2
    exact h2
theorem tc_fw_lenp : ∀ (P R : List tc_Nd) (i : Nat) (st : List tc_Q), tc_wf st.length (P ++ R) → (tc_fw i st P).length = P.length
  | [], R, i, st, h => by rw [tc_fw_nil]; rfl
  | x :: P, R, i, [], h => absurd h.1 (by simp)
  | x :: P, R, i, q :: st, h => by
    rw [tc_fw_cons, List.length_cons, List.length_cons]
    refine congrArg (· + 1) (tc_fw_lenp P R (i + 1) _ ?_)
    rw [List.length_append, tc_kid_len]
    have h2 := h.2
    rw [List.length_cons, show st.length + 1 - 1 + tc_tk x.1 = tc_tk x.1 + st.length by omega] at h2
    exact h2
/-- levels fall from the top of the open places down -/
theorem tc_pd_srt : ∀ (P : List tc_Nd) (i : Nat) (st : List tc_Q), st.Pairwise (fun q r => r.2.1 ≤ q.2.1) → (tc_pd i st P).Pairwise (fun q r => r.2.1 ≤ q.2.1)
  | [], i, st, h => by rw [tc_pd_nil]; exact h
  | x :: P, i, [], h => by rw [tc_pd_no]; exact h
  | x :: P, i, q :: st, h => by
    rw [tc_pd_cons]
    refine tc_pd_srt P (i + 1) _ ?_
    obtain ⟨h1, h2⟩ := List.pairwise_cons.mp h
    refine List.pairwise_append.mpr ⟨?_, h2, ?_⟩
    · unfold tc_kid
      exact List.pairwise_replicate.mpr (Or.inr (Nat.le_refl _))
    · intro a ha b hb
      have := (List.mem_replicate.mp ha).2
      rw [this]
      exact Nat.le_succ_of_le (h1 b hb)
/-- node k of a term: the term that begins there, the open place that it takes, what stands behind -/
theorem tc_sub {L : List tc_Nd} (h : tc_wf 1 L) {k : Nat} (hk : k < L.length) : ∃ (A B : List tc_Nd) (q : tc_Q) (s2 : List tc_Q), L.drop k = A ++ B ∧ tc_wf 1 A ∧ tc_sz (L.drop k) = A.length ∧ tc_dp (L.drop k) = tc_dp A ∧ tc_lk (L.drop k) = tc_lk A ∧
    tc_st L k = q :: s2 ∧ (∀ r ∈ s2, r.2.1 ≤ q.2.1) ∧ tc_E L = tc_fw 0 [tc_q0] (L.take k) ++ (tc_fw k [q] A ++ tc_fw (k + A.length) s2 B) ∧ (tc_fw 0 [tc_q0] (L.take k)).length = k := by
  have hL : L.take k ++ L.drop k = L := List.take_append_drop k L
  have hw : tc_wf (tc_st L k).length (L.drop k) := tc_pd_len (L.take k) (L.drop k) 0 [tc_q0] (by rw [hL]; exact h)
  have hlen : (L.take k).length = k := by rw [List.length_take]; omega
  have hd0 : 0 < (L.drop k).length := by rw [List.length_drop]; omega
  have hpos : 0 < (tc_st L k).length := by
    match hd : L.drop k, hw, hd0 with
    | x :: R, hw, _ => exact hw.1
  obtain ⟨A, B, e, hA, hB⟩ := tc_first hw hpos
  match hst : tc_st L k, hpos with
  | q :: s2, _ =>
    refine ⟨A, B, q, s2, e, hA, ?_, ?_, ?_, rfl, ?_, ?_, ?_⟩
    · rw [tc_sz, tc_tv, e, tc_ev_app _ B hA, tc_ev_one _ 0 hA]
      exact tc_sz_len hA
    · rw [tc_dp, tc_tv, e, tc_ev_app _ B hA, tc_ev_one _ 0 hA]
      rfl
    · rw [tc_lk, tc_tv, e, tc_ev_app _ B hA, tc_ev_one _ 0 hA]
      rfl
    · have hs := tc_pd_srt (L.take k) 0 [tc_q0] (List.pairwise_singleton _ _)
      have hs : (tc_st L k).Pairwise (fun q r => r.2.1 ≤ q.2.1) := hs
      rw [hst] at hs
      exact (List.pairwise_cons.mp hs).1
    · have h1 : tc_E L = tc_fw 0 [tc_q0] (L.take k) ++ tc_fw (0 + (L.take k).length) (tc_st L k) (L.drop k) := by
        show tc_fw 0 [tc_q0] L = tc_fw 0 [tc_q0] (L.take k) ++ tc_fw (0 + (L.take k).length) (tc_pd 0 [tc_q0] (L.take k)) (L.drop k)
        rw [← tc_fw_app, hL]
      rw [h1, hlen, Nat.zero_add, hst, e]
      exact congrArg _ (tc_fw_2 k [q] s2 hA rfl)
    · rw [tc_fw_lenp (L.take k) (L.drop k) 0 [tc_q0] (by rw [hL]; exact h), hlen]
