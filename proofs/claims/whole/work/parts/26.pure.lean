/-! PURE 6: terms laid out in arrays, one behind the other. -/
def tc_fn (x : tc_Nd) (vs : List Nat) : Nat := tc_ol x.1 x.2.1 + vs.sum
def tc_ln (L : List tc_Nd) : Nat := tc_tv tc_fn 0 L
/-- a node as it may be -/
def tc_okn (x : tc_Nd) : Prop := x.1 ≤ 11 ∧ tc_fitP x.1 x.2.1 ∧ (x.1 = 8 → x.2.1 = lN x.2.2.length) ∧ (¬ x.1 = 8 → x.2.2 = []) ∧ x.2.2.length ≤ 64 ∧ ∀ b ∈ x.2.2, b < 256
abbrev tc_Ar : Type := (Nat → Nat) × (Nat → Int64) × (Nat → Int64) × (Nat → Nat) × (Nat → Nat) × (Nat → Nat) × (Nat → Nat)
/-- node k of the arrays is the first of L, with what is kept of it -/
def tc_nd (a : tc_Ar) (k : Nat) (x : tc_Nd) (R : List tc_Nd) : Prop := match a with
  | (kn, nu, wo, si, de, la, le) => kn k = x.1 ∧ nu k = x.2.1 ∧ (∀ j b, x.2.2[j]? = some b → tc_wb wo k j = b) ∧ si k = tc_sz (x :: R) ∧ de k = tc_dp (x :: R) ∧ la k = tc_lk (x :: R) ∧ le k = tc_ln (x :: R)
def tc_AR (a : tc_Ar) : Nat → List tc_Nd → Prop
  | _, [] => True
  | k, x :: R => tc_nd a k x R ∧ tc_AR a (k + 1) R
theorem tc_tv_app {α : Type} (f : tc_Nd → List α → α) (d : α) {A : List tc_Nd} {n : Nat} (h : tc_wf n A) (hn : 0 < n) (B : List tc_Nd) : tc_tv f d (A ++ B) = tc_tv f d A := by
  unfold tc_tv
  rw [tc_ev_app f B h]
  have hl := tc_ev_len f h
  match he : tc_ev f A with
  | [] => rw [he] at hl; simp at hl; omega
  | a :: r => rfl
theorem tc_AR_app {a : tc_Ar} : ∀ {A : List tc_Nd} {n : Nat} (k : Nat) (B : List tc_Nd), tc_wf n A → (tc_AR a k (A ++ B) ↔ tc_AR a k A ∧ tc_AR a (k + A.length) B)
  | [], n, k, B, h => ⟨fun q => ⟨trivial, q⟩, fun q => q.2⟩
  | x :: A, n, k, B, h => by
    have ih := tc_AR_app (a := a) (k + 1) B h.2
    have e : tc_nd a k x (A ++ B) ↔ tc_nd a k x A := by
      obtain ⟨kn, nu, wo, si, de, la, le⟩ := a
      have e1 : tc_sz (x :: (A ++ B)) = tc_sz (x :: A) := tc_tv_app _ _ h h.1 B
      have e2 : tc_dp (x :: (A ++ B)) = tc_dp (x :: A) := tc_tv_app _ _ h h.1 B
      have e3 : tc_lk (x :: (A ++ B)) = tc_lk (x :: A) := tc_tv_app _ _ h h.1 B
      have e4 : tc_ln (x :: (A ++ B)) = tc_ln (x :: A) := tc_tv_app _ _ h h.1 B
      unfold tc_nd
      simp only [e1, e2, e3, e4]
    show tc_nd a k x (A ++ B) ∧ tc_AR a (k + 1) (A ++ B) ↔ (tc_nd a k x A ∧ tc_AR a (k + 1) A) ∧ tc_AR a (k + (A.length + 1)) B
    rw [e, ih, show k + 1 + A.length = k + (A.length + 1) by omega]
    constructor
    · rintro ⟨h1, h2, h3⟩
      exact ⟨⟨h1, h2⟩, h3⟩
    · rintro ⟨⟨h1, h2⟩, h3⟩
      exact ⟨h1, h2, h3⟩
/-- the arrays b hold at j what the arrays a hold at i -/
def tc_eqn (a b : tc_Ar) (i j : Nat) : Prop := match a, b with
  | (kn, nu, wo, si, de, la, le), (kn', nu', wo', si', de', la', le') => kn' j = kn i ∧ nu' j = nu i ∧ (∀ t, t < 64 → tc_wb wo' j t = tc_wb wo i t) ∧ si' j = si i ∧ de' j = de i ∧ la' j = la i ∧ le' j = le i
theorem tc_eqn_rf (a : tc_Ar) (i : Nat) : tc_eqn a a i i := by
  obtain ⟨kn, nu, wo, si, de, la, le⟩ := a
  exact ⟨rfl, rfl, fun _ _ => rfl, rfl, rfl, rfl, rfl⟩
theorem tc_AR_eq {a b : tc_Ar} : ∀ {L : List tc_Nd} (i j : Nat), (∀ x ∈ L, tc_okn x) → (∀ t, t < L.length → tc_eqn a b (i + t) (j + t)) → tc_AR a i L → tc_AR b j L
  | [], i, j, _, _, _ => trivial
  | x :: R, i, j, hx, he, h => by
    refine ⟨?_, tc_AR_eq (i + 1) (j + 1) (fun y hy => hx y (List.mem_cons_of_mem _ hy)) (fun t ht => ?_) h.2⟩
    · have h0 := he 0 (by simp)
      have h1 := h.1
      have h2 := hx x List.mem_cons_self
      obtain ⟨kn, nu, wo, si, de, la, le⟩ := a
      obtain ⟨kn', nu', wo', si', de', la', le'⟩ := b
      obtain ⟨q1, q2, q3, q4, q5, q6, q7⟩ := h0
      obtain ⟨r1, r2, r3, r4, r5, r6, r7⟩ := h1
      refine ⟨q1.trans r1, q2.trans r2, fun t b hb => ?_, q4.trans r4, q5.trans r5, q6.trans r6, q7.trans r7⟩
      have ht : t < x.2.2.length := (List.getElem?_eq_some_iff.mp hb).1
      exact (q3 t (by have := h2.2.2.2.2.1; omega)).trans (r3 t b hb)
    · have := he (t + 1) (by simpa using ht)
      rw [show i + 1 + t = i + (t + 1) by omega, show j + 1 + t = j + (t + 1) by omega]
      exact this
theorem tc_AR_at {a : tc_Ar} : ∀ {L : List tc_Nd} (i k : Nat) (x : tc_Nd) (R : List tc_Nd), L.drop k = x :: R → tc_AR a i L → tc_nd a (i + k) x R
  | [], i, k, x, R, h, _ => by simp at h
  | y :: L, i, 0, x, R, h, q => by
    have h : y :: L = x :: R := h
    cases h
    exact q.1
  | y :: L, i, k + 1, x, R, h, q => by
    have := tc_AR_at (i + 1) k x R h q.2
    rwa [show i + 1 + k = i + (k + 1) by omega] at this
/-- what the parts of a node gave, read off the arrays -/
theorem tc_chs_ev {kn : Nat → Nat} {nu wo : Nat → Int64} {si de la le : Nat → Nat} {R : List tc_Nd} {m k i : Nat} (h : tc_AR (kn, nu, wo, si, de, la, le) (i + 1) R) (hw : tc_wf m R) (hm : tc_tk k ≤ m) :
    (tc_chs k i si).map si = (tc_ev tc_fs R).take (tc_tk k) ∧ (tc_chs k i si).map de = (tc_ev tc_fd R).take (tc_tk k) ∧ (tc_chs k i si).map la = (tc_ev tc_fl R).take (tc_tk k) ∧ (tc_chs k i si).map le = (tc_ev tc_fn R).take (tc_tk k) := by
  rcases tc_tk3 k with q | q | q
  · rw [tc_chs_0 q, q]
    exact ⟨rfl, rfl, rfl, rfl⟩
  · rw [tc_chs_1 q, q]
    rw [q] at hm
    have l1 := tc_ev_len tc_fs hw
    have l2 := tc_ev_len tc_fd hw
    have l3 := tc_ev_len tc_fl hw
    have l4 := tc_ev_len tc_fn hw
    match R, h, hw with
    | [], h, hw => have : m = 0 := hw; omega
    | x :: R', h, hw =>
      obtain ⟨h1, h2, h3, h4, h5, h6, h7⟩ := h.1
      exact ⟨congrArg (fun z => [z]) h4, congrArg (fun z => [z]) h5, congrArg (fun z => [z]) h6, congrArg (fun z => [z]) h7⟩
  · rw [tc_chs_2 q, q]
    rw [q] at hm
    obtain ⟨A, B, rfl, hA, hB⟩ := tc_first hw (by omega)
    obtain ⟨hA', hB'⟩ := (tc_AR_app (i + 1) B hA).mp h
    have hs : si (i + 1) = A.length := by
      match A, hA, hA' with
      | x :: A', hA, hA' =>
        rw [← tc_sz_len hA]
        exact hA'.1.2.2.2.1
    obtain ⟨B1, B2, rfl, hB1, hB2⟩ := tc_first hB (by omega)
    obtain ⟨hB1', -⟩ := (tc_AR_app _ B2 hB1).mp hB'
    rw [← hs, show i + 1 + si (i + 1) = i + (1 + si (i + 1)) by omega] at hB1'
    have key : ∀ (f : tc_Nd → List Nat → Nat) (g : Nat → Nat), g (i + 1) = tc_tv f 0 A → g (i + (1 + si (i + 1))) = tc_tv f 0 B1 → [g (i + 1), g (i + (1 + si (i + 1)))] = (tc_ev f (A ++ (B1 ++ B2))).take 2 := by
      intro f g e1 e2
      rw [tc_ev_app f _ hA, tc_ev_app f _ hB1, tc_ev_one f 0 hA, tc_ev_one f 0 hB1, e1, e2]
      rfl
    have at1 : ∀ {A : List tc_Nd} {j : Nat}, tc_wf 1 A → tc_AR (kn, nu, wo, si, de, la, le) j A → si j = tc_sz A ∧ de j = tc_dp A ∧ la j = tc_lk A ∧ le j = tc_ln A := by
      intro A j hA h
      match A, hA, h with
      | x :: A', hA, h => exact ⟨h.1.2.2.2.1, h.1.2.2.2.2.1, h.1.2.2.2.2.2.1, h.1.2.2.2.2.2.2⟩
    obtain ⟨a1, a2, a3, a4⟩ := at1 hA hA'
    obtain ⟨b1, b2, b3, b4⟩ := at1 hB1 hB1'
    exact ⟨key tc_fs si a1 b1, key tc_fd de a2 b2, key tc_fl la a3 b3, key tc_fn le a4 b4⟩
/-- what settle makes is what is to be kept -/
theorem tc_settled {kn : Nat → Nat} {nu wo : Nat → Int64} {si de la le : Nat → Nat} {R : List tc_Nd} {m k i : Nat} {n : Int64} (bs : List Nat) (h : tc_AR (kn, nu, wo, si, de, la, le) (i + 1) R) (hw : tc_wf m R) (hm : tc_tk k ≤ m) :
    tc_fs (k, n, []) ((tc_chs k i si).map si) = tc_sz ((k, n, bs) :: R) ∧ tc_fd (k, n, []) ((tc_chs k i si).map de) = tc_dp ((k, n, bs) :: R) ∧ tc_fl (k, n, []) ((tc_chs k i si).map la) = tc_lk ((k, n, bs) :: R) ∧ tc_ol k n + ((tc_chs k i si).map le).sum = tc_ln ((k, n, bs) :: R) := by
  obtain ⟨e1, e2, e3, e4⟩ := tc_chs_ev h hw hm
  rw [e1, e2, e3, e4]
  exact ⟨rfl, rfl, rfl, rfl⟩
-- the stack's terms, the last first
def tc_cat : List (List tc_Nd) → List tc_Nd
  | [] => []
  | t :: R => tc_cat R ++ t
def tc_rts (ro : Nat → Nat) : List (List tc_Nd) → Prop
  | [] => True
  | _ :: R => ro R.length = (tc_cat R).length ∧ tc_rts ro R
def tc_okt (t : List tc_Nd) : Prop := tc_wf 1 t ∧ tc_dp t ≤ 60 ∧ ∀ x ∈ t, tc_okn x
def tc_RS (Ts : List (List tc_Nd)) (a : tc_Ar) (ro : Nat → Nat) (tm nd : Nat) : Prop := (∀ t ∈ Ts, tc_okt t) ∧ tm = Ts.length ∧ nd = (tc_cat Ts).length ∧ nd ≤ 200 ∧ tc_rts ro Ts ∧ tc_AR a 0 (tc_cat Ts)
theorem tc_cat_wf : ∀ {Ts : List (List tc_Nd)}, (∀ t ∈ Ts, tc_okt t) → tc_wf Ts.length (tc_cat Ts)
  | [], _ => rfl
  | t :: R, h => tc_wf_app (tc_cat_wf (fun u hu => h u (List.mem_cons_of_mem _ hu))) (h t List.mem_cons_self).1
theorem tc_cat_ok : ∀ {Ts : List (List tc_Nd)}, (∀ t ∈ Ts, tc_okt t) → ∀ x ∈ tc_cat Ts, tc_okn x
  | [], _, x, hx => by cases hx
  | t :: R, h, x, hx => by
    rcases List.mem_append.mp hx with q | q
    · exact tc_cat_ok (fun u hu => h u (List.mem_cons_of_mem _ hu)) x q
    · exact (h t List.mem_cons_self).2.2 x q
theorem tc_wf_pos {L : List tc_Nd} {n : Nat} (h : tc_wf n L) : n ≤ L.length := by
  have key : ∀ (L : List tc_Nd) (n : Nat), tc_wf n L → n ≤ L.length := by
    intro L
    induction L with
    | nil => intro n h; have : n = 0 := h; omega
    | cons x R ih =>
      intro n h
      have := ih _ h.2
      rw [List.length_cons]
      omega
  exact key L n h
theorem tc_rts_eq {ro ro' : Nat → Nat} : ∀ {Ts : List (List tc_Nd)}, (∀ i, i < Ts.length → ro' i = ro i) → tc_rts ro Ts → tc_rts ro' Ts
  | [], _, _ => trivial
  | t :: R, he, h => ⟨(he R.length (by simp)).trans h.1, tc_rts_eq (fun i hi => he i (by rw [List.length_cons]; omega)) h.2⟩
/-- the last term of the stack -/
theorem tc_top {t : List tc_Nd} {R : List (List tc_Nd)} {kn : Nat → Nat} {nu wo : Nat → Int64} {si de la le ro : Nat → Nat} {tm nd : Nat} (h : tc_RS (t :: R) (kn, nu, wo, si, de, la, le) ro tm nd) :
    tm = R.length + 1 ∧ ro (tm - 1) = (tc_cat R).length ∧ nd = (tc_cat R).length + t.length ∧ nd ≤ 200 ∧ 0 < t.length ∧ R.length ≤ (tc_cat R).length ∧ tc_AR (kn, nu, wo, si, de, la, le) 0 (tc_cat R) ∧ tc_AR (kn, nu, wo, si, de, la, le) (tc_cat R).length t ∧ si (tc_cat R).length = t.length ∧ de (tc_cat R).length = tc_dp t ∧ la (tc_cat R).length = tc_lk t ∧ le (tc_cat R).length = tc_ln t := by
  obtain ⟨h1, h2, h3, h4, h5, h6⟩ := h
  have hR : ∀ u ∈ R, tc_okt u := fun u hu => h1 u (List.mem_cons_of_mem _ hu)
  have ht := h1 t List.mem_cons_self
  have hw := tc_cat_wf hR
  have h6 : tc_AR (kn, nu, wo, si, de, la, le) 0 (tc_cat R ++ t) := h6
  have h3 : nd = (tc_cat R ++ t).length := h3
  rw [List.length_append] at h3
  obtain ⟨a1, a2⟩ := (tc_AR_app 0 t hw).mp h6
  rw [Nat.zero_add] at a2
  have h2 : tm = R.length + 1 := h2
  have hp := tc_wf_pos ht.1
  have hq := tc_wf_pos hw
  refine ⟨h2, ?_, h3, h4, hp, hq, a1, a2, ?_⟩
  · rw [h2]
    exact h5.1
  · match t, ht, a2 with
    | x :: t', ht, a2 =>
      refine ⟨?_, a2.1.2.2.2.2.1, a2.1.2.2.2.2.2.1, a2.1.2.2.2.2.2.2⟩
      rw [← tc_sz_len ht.1]
      exact a2.1.2.2.2.1
theorem tc_RS_tm {Ts : List (List tc_Nd)} {a : tc_Ar} {ro : Nat → Nat} {tm nd : Nat} (h : tc_RS Ts a ro tm nd) : tm ≤ 200 ∧ tm ≤ nd := by
  obtain ⟨h1, h2, h3, h4, h5, h6⟩ := h
  have := tc_wf_pos (tc_cat_wf h1)
  omega
