/-! PURE 23: a term copied in the store. -/
theorem tc_E_pd {L : List tc_Nd} (h : tc_wf 1 L) {n : Nat} (hn : n < L.length) {q : tc_Q} {s : List tc_Q} (hpd : tc_pd 0 [tc_q0] (L.take n) = q :: s) : (tc_E L)[n]? = some q := by
  obtain ⟨x, hx⟩ : ∃ x, L[n]? = some x := ⟨_, List.getElem?_eq_getElem hn⟩
  have hd := tc_drop1 hx
  have e1 : tc_E L = tc_fw 0 [tc_q0] (L.take n) ++ tc_fw (0 + (L.take n).length) (tc_pd 0 [tc_q0] (L.take n)) (L.drop n) := by
    show tc_fw 0 [tc_q0] L = _
    rw [← tc_fw_app, List.take_append_drop]
  have e2 : (tc_fw 0 [tc_q0] (L.take n)).length = n := by
    rw [tc_fw_lenp (L.take n) (L.drop n) 0 [tc_q0] (by rw [List.take_append_drop]; exact h), List.length_take]
    omega
  rw [e1, hpd, List.getElem?_append_right (by omega), e2, Nat.sub_self, hd]
  rfl
theorem tc_chd {fs ss : Nat → Option Nat} {ki : Nat → Nat} {mu : Nat → Int64} {tx : Nat → Nat} {r : Nat} {ids : List Nat} (h : tc_Hg fs ss ki r ids) : ∀ n, n ≤ ids.length → ∃ st : List (Nat × tc_Q), tc_Fo fs ss (st.map (fun z => z.1)) (ids.drop n) ∧ st.map (fun z => z.2) = tc_pd 0 [tc_q0] ((ids.take n).map (tc_mn ki mu tx)) ∧ (∀ z ∈ st, (z.2.1 = none ∧ n = 0) ∨ ∃ p ip, z.2.1 = some p ∧ p < n ∧ ids[p]? = some ip ∧ z.1 ∈ tc_kd fs ss ip) ∧ ∀ j e i, j < n → (tc_E (ids.map (tc_mn ki mu tx)))[j]? = some e → ids[j]? = some i → (e.1 = none ∧ j = 0) ∨ ∃ p ip, e.1 = some p ∧ p < j ∧ ids[p]? = some ip ∧ i ∈ tc_kd fs ss ip
  | 0, _ => ⟨[(r, tc_q0)], h.1, rfl, fun z hz => Or.inl ⟨by rw [List.mem_singleton.mp hz]; rfl, rfl⟩, fun j e i hj => absurd hj (Nat.not_lt_zero _)⟩
  | n + 1, hn => by
    obtain ⟨st, h1, h2, h3, h4⟩ := tc_chd (mu := mu) (tx := tx) h n (by omega)
    obtain ⟨i, hi⟩ : ∃ i, ids[n]? = some i := ⟨_, List.getElem?_eq_getElem (by omega)⟩
    have hd : ids.drop n = i :: ids.drop (n + 1) := tc_drop1 hi
    have ht : ids.take (n + 1) = ids.take n ++ [i] := by rw [List.take_add_one, hi]; rfl
    have htl : (ids.take n).length = n := by rw [List.length_take]; omega
    rw [hd] at h1
    match st, h1, h2, h3 with
    | (c, q) :: st', h1, h2, h3 =>
      have hci : c = i := h1.1
      subst hci
      have hkl := h.2.2.2.1 c (List.mem_of_getElem? hi)
      have h2' : q :: st'.map (fun z => z.2) = tc_pd 0 [tc_q0] ((ids.take n).map (tc_mn ki mu tx)) := h2
      have hE : (tc_E (ids.map (tc_mn ki mu tx)))[n]? = some q := tc_E_pd (tc_Hg_wf h) (by rw [List.length_map]; omega) (by rw [← List.map_take]; exact h2'.symm)
      have hq := h3 (c, q) List.mem_cons_self
      refine ⟨(tc_kd fs ss c).map (fun d => (d, tc_qk n (tc_mn ki mu tx c) q)) ++ st', ?_, ?_, ?_, ?_⟩
      · rw [List.map_append, List.map_map, show ((fun z : Nat × tc_Q => z.1) ∘ fun d => (d, tc_qk n (tc_mn ki mu tx c) q)) = id from rfl, List.map_id]
        exact h1.2
      · rw [ht, tc_go_pd h2', htl, List.map_append, List.map_map]
        congr 1
        rw [← hkl]
        generalize tc_kd fs ss c = l
        induction l with
        | nil => rfl
        | cons a l ih => rw [List.map_cons, ih, List.length_cons, List.replicate_succ]; rfl
      · intro z hz
        rcases List.mem_append.mp hz with hz1 | hz1
        · obtain ⟨d, hd1, rfl⟩ := List.mem_map.mp hz1
          exact Or.inr ⟨n, c, rfl, by omega, hi, hd1⟩
        · rcases h3 z (List.mem_cons_of_mem _ hz1) with ⟨a1, a2⟩ | ⟨p, ip, a1, a2, a3⟩
          · rw [a2, List.take_zero, List.map_nil, tc_pd_nil] at h2'
            injection h2' with _ e
            rw [List.map_eq_nil_iff.mp e] at hz1
            cases hz1
          · exact Or.inr ⟨p, ip, a1, by omega, a3⟩
      · intro j e k hj he hk
        rcases Nat.lt_or_ge j n with y | y
        · exact h4 j e k y he hk
        · obtain rfl : j = n := by omega
          rw [hE] at he
          rw [hi] at hk
          obtain rfl : q = e := by simpa using he
          obtain rfl : c = k := by simpa using hk
          rcases hq with a | a
          · exact Or.inl a
          · exact Or.inr a
theorem tc_chE {fs ss : Nat → Option Nat} {ki : Nat → Nat} {mu : Nat → Int64} {tx : Nat → Nat} {r : Nat} {ids : List Nat} (h : tc_Hg fs ss ki r ids) {j i : Nat} {e : tc_Q} (he : (tc_E (ids.map (tc_mn ki mu tx)))[j]? = some e) (hi : ids[j]? = some i) : (e.1 = none ∧ j = 0) ∨ ∃ p ip, e.1 = some p ∧ p < j ∧ ids[p]? = some ip ∧ i ∈ tc_kd fs ss ip := by
  obtain ⟨_, _, _, _, z⟩ := tc_chd (mu := mu) (tx := tx) h ids.length (Nat.le_refl _)
  exact z j e i (List.getElem?_eq_some_iff.mp hi).1 he hi
theorem tc_Fo_perm {fs ss : Nat → Option Nat} : ∀ {I st : List Nat}, tc_Fo fs ss st I → I.Perm (st ++ I.flatMap (tc_kd fs ss))
  | [], [], _ => List.Perm.refl _
  | [], _ :: _, h => h.elim
  | j :: I, [], h => h.elim
  | j :: I, i :: st, h => by
    have h1 := tc_Fo_perm h.2
    rw [← h.1, List.flatMap_cons, List.cons_append]
    refine List.Perm.cons _ (h1.trans ?_)
    rw [List.append_assoc, ← List.append_assoc st]
    refine (List.perm_append_comm_assoc _ _ _).trans ?_
    rw [List.append_assoc]
theorem tc_pw {α : Type} {S : α → α → Prop} (hs : ∀ a b, S a b → S b a) : ∀ {l : List α}, l.Pairwise S → ∀ a ∈ l, ∀ b ∈ l, a ≠ b → S a b
  | [], _, a, ha, _, _, _ => by cases ha
  | c :: l, h, a, ha, b, hb, hab => by
    obtain ⟨h1, h2⟩ := List.pairwise_cons.mp h
    rcases List.mem_cons.mp ha with q1 | q1
    · rcases List.mem_cons.mp hb with q2 | q2
      · exact absurd (q1.trans q2.symm) hab
      · exact q1 ▸ h1 b q2
    · rcases List.mem_cons.mp hb with q2 | q2
      · exact q2 ▸ hs _ _ (h1 a q1)
      · exact tc_pw hs h2 a q1 b q2 hab
theorem tc_gidx : ∀ {l : List Nat} {c : Nat}, c ∈ l → l[l.idxOf c]? = some c
  | [], _, h => by cases h
  | a :: l, c, h => by
    rw [List.idxOf_cons]
    by_cases e : a = c
    · simp [e]
    · have hb : (a == c) = false := by simpa using e
      rw [hb]
      show (a :: l)[l.idxOf c + 1]? = _
      rw [List.getElem?_cons_succ]
      exact tc_gidx ((List.mem_cons.mp h).resolve_left (fun q => e q.symm))
/-- a node is of one other node alone -/
theorem tc_one {fs ss : Nat → Option Nat} {r : Nat} {ids : List Nat} (h : tc_Fo fs ss [r] ids) (hn : ids.Nodup) : (∀ a ∈ ids, (tc_kd fs ss a).Nodup) ∧ (∀ a ∈ ids, ∀ b ∈ ids, ∀ c, c ∈ tc_kd fs ss a → c ∈ tc_kd fs ss b → a = b) ∧ ∀ a ∈ ids, r ∉ tc_kd fs ss a := by
  have h1 := (tc_Fo_perm h).nodup_iff.mp hn
  obtain ⟨h2, h3⟩ := List.nodup_cons.mp (show (r :: ids.flatMap (tc_kd fs ss)).Nodup from h1)
  obtain ⟨h4, h5⟩ := List.pairwise_flatMap.mp h3
  refine ⟨h4, fun a ha b hb c hca hcb => ?_, fun a ha hr => h2 (List.mem_flatMap.mpr ⟨a, ha, hr⟩)⟩
  apply Classical.byContradiction
  intro hab
  exact tc_pw (fun a b hS x hx y hy e => hS y hy x hx e.symm) h5 a ha b hb hab c hca c hcb rfl
theorem tc_after {fs ss : Nat → Option Nat} {ki : Nat → Nat} {r : Nat} {ids : List Nat} (h : tc_Hg fs ss ki r ids) (hn : ids.Nodup) {k i c : Nat} (hi : ids[k]? = some i) (hc : c ∈ tc_kd fs ss i) : k < ids.idxOf c := by
  have him := List.mem_of_getElem? hi
  have hcm : c ∈ ids := (tc_Fo_mem h.1).2 i him c hc
  obtain ⟨h1, h2, h3⟩ := tc_one h.1 hn
  have hj : ids[ids.idxOf c]? = some c := tc_gidx hcm
  have hjl := (List.getElem?_eq_some_iff.mp hj).1
  obtain ⟨e, he⟩ := tc_E_at (tc_Hg_wf (mu := fun _ => 0) (tx := fun _ => 0) h) (k := ids.idxOf c) (by rw [List.length_map]; exact hjl)
  rcases tc_chE h he hj with ⟨_, a⟩ | ⟨p, ip, a1, a2, a3, a4⟩
  · obtain ⟨F, hF, _⟩ := tc_Fo_hd h.1
    have : c = r := by
      rw [a, hF] at hj
      simpa using hj.symm
    exact absurd (this ▸ hc) (h3 i him)
  · have hip := h2 ip (List.mem_of_getElem? a3) i him c a4 hc
    subst hip
    have hpk : p = k := by
      have q1 := (List.getElem?_eq_some_iff.mp a3)
      obtain ⟨b1, b2⟩ := q1
      obtain ⟨d1, d2⟩ := List.getElem?_eq_some_iff.mp hi
      exact (List.getElem_inj hn).mp (b2.trans d2.symm)
    omega
def tc_im (ids cs : List Nat) (v : Option Nat) : Option Nat := v.bind (fun n => cs[ids.idxOf n]?)
theorem tc_idx {ids : List Nat} (hn : ids.Nodup) {k n : Nat} (hk : ids[k]? = some n) : ids.idxOf n = k := by
  have hm := List.mem_of_getElem? hk
  have h1 := tc_gidx hm
  obtain ⟨b1, b2⟩ := List.getElem?_eq_some_iff.mp h1
  obtain ⟨d1, d2⟩ := List.getElem?_eq_some_iff.mp hk
  exact (List.getElem_inj hn).mp (b2.trans d2.symm)
theorem tc_im_n {ids cs : List Nat} {n m : Nat} (hn : ids.Nodup) (hk : ids[cs.length]? = some n) : tc_im ids (cs ++ [m]) (some n) = some m := by
  show (cs ++ [m])[ids.idxOf n]? = some m
  rw [tc_idx hn hk, List.getElem?_append_right (Nat.le_refl _), Nat.sub_self]
  rfl
theorem tc_im_ne {ids cs : List Nat} {n m : Nat} {v : Option Nat} (hk : ids[cs.length]? = some n) (hv : v ≠ some n) : tc_im ids (cs ++ [m]) v = tc_im ids cs v := by
  match v with
  | none => rfl
  | some w =>
    show (cs ++ [m])[ids.idxOf w]? = cs[ids.idxOf w]?
    have hne : ids.idxOf w ≠ cs.length := fun e => hv (by
      have hl := (List.getElem?_eq_some_iff.mp hk).1
      have hw : w ∈ ids := List.idxOf_lt_length_iff.mp (by omega)
      have := tc_gidx hw
      rw [e, hk] at this
      simpa using this.symm)
    rcases Nat.lt_or_ge (ids.idxOf w) cs.length with y | y
    · rw [List.getElem?_append_left y]
    · rw [List.getElem?_eq_none (by rw [List.length_append, List.length_singleton]; omega), List.getElem?_eq_none y]
def tc_TW (ids cs : List Nat) (m0 m1 : tc_St) : Prop := match m0, m1 with
  | (iu, ki, mu, fs, ss, tx), (iug, kig, mug, fsg, ssg, txg) => cs.Nodup ∧ (∀ c ∈ cs, c < 200 ∧ iu c = false ∧ iug c = true) ∧ (∀ i, i ∉ cs → iug i = iu i ∧ kig i = ki i ∧ mug i = mu i ∧ fsg i = fs i ∧ ssg i = ss i ∧ ∀ j, j < 64 → txg (64 * i + j) = tx (64 * i + j)) ∧ ∀ (p c i : Nat), cs[p]? = some c → ids[p]? = some i → kig c = ki i ∧ mug c = mu i ∧ (ki i = 8 → ∀ j, j < 64 → txg (64 * c + j) = tx (64 * i + j)) ∧ fsg c = tc_im ids cs (fs i) ∧ ssg c = tc_im ids cs (ss i)
theorem tc_TW_step {ids cs : List Nat} {iu iug : Nat → Bool} {ki kig : Nat → Nat} {mu mug : Nat → Int64} {fs ss fsg ssg fs' ss' : Nat → Option Nat} {tx txg txh : Nat → Nat} {n m : Nat} (h : tc_TW ids cs (iu, ki, mu, fs, ss, tx) (iug, kig, mug, fsg, ssg, txg)) (hk : ids[cs.length]? = some n) (hnc : n ∉ cs) (hm : m < 200) (hmu : iug m = false)
    (ht1 : ∀ i, i ≠ m → ∀ j, j < 64 → txh (64 * i + j) = txg (64 * i + j)) (ht2 : ki n = 8 → ∀ j, j < 64 → txh (64 * m + j) = txg (64 * n + j))
    (hF : ∀ i, i ∉ cs → i ≠ m → fs' i = fsg i ∧ ss' i = ssg i) (hm0 : fs' m = tc_im ids (cs ++ [m]) (fs n) ∧ ss' m = tc_im ids (cs ++ [m]) (ss n)) (hc : ∀ (p c i : Nat), cs[p]? = some c → ids[p]? = some i → fs' c = tc_im ids (cs ++ [m]) (fs i) ∧ ss' c = tc_im ids (cs ++ [m]) (ss i)) :
    tc_TW ids (cs ++ [m]) (iu, ki, mu, fs, ss, tx) (va_up iug m true, va_up kig m (kig n), vp_updL mug m (mug n), fs', ss', txh) := by
  obtain ⟨a1, a2, a3, a4⟩ := h
  have hmc : m ∉ cs := fun q => by
    have := (a2 m q).2.2
    rw [hmu] at this
    cases this
  obtain ⟨n1, n2, n3, n4, n5, n6⟩ := a3 n hnc
  refine ⟨?_, ?_, ?_, ?_⟩
  · refine List.nodup_append.mpr ⟨a1, by simp, fun a ha b hb => ?_⟩
    rw [List.mem_singleton.mp hb]
    exact fun e => hmc (e ▸ ha)
  · intro c hcm
    rcases List.mem_append.mp hcm with q | q
    · obtain ⟨b1, b2, b3⟩ := a2 c q
      exact ⟨b1, b2, by rw [va_up_ne _ _ (show c ≠ m from fun e => hmc (e ▸ q))]; exact b3⟩
    · rw [List.mem_singleton.mp q]
      exact ⟨hm, by rw [← (a3 m hmc).1]; exact hmu, va_up_self _ _ _⟩
  · intro i hi
    have hi1 : i ∉ cs := fun q => hi (List.mem_append_left _ q)
    have hi2 : i ≠ m := fun q => hi (List.mem_append_right _ (by rw [q]; simp))
    obtain ⟨b1, b2, b3, b4, b5, b6⟩ := a3 i hi1
    exact ⟨by rw [va_up_ne _ _ hi2]; exact b1, by rw [va_up_ne _ _ hi2]; exact b2, by rw [pk_uLn hi2]; exact b3, by rw [(hF i hi1 hi2).1]; exact b4, by rw [(hF i hi1 hi2).2]; exact b5, fun j hj => (ht1 i hi2 j hj).trans (b6 j hj)⟩
  · intro p c i hp hi
    rcases Nat.lt_or_ge p cs.length with y | y
    · rw [List.getElem?_append_left y] at hp
      have hcm : c ≠ m := fun e => hmc (e ▸ List.mem_of_getElem? hp)
      obtain ⟨b1, b2, b3, b4, b5⟩ := a4 p c i hp hi
      exact ⟨by rw [va_up_ne _ _ hcm]; exact b1, by rw [pk_uLn hcm]; exact b2, fun h8 j hj => (ht1 c hcm j hj).trans (b3 h8 j hj), (hc p c i hp hi).1, (hc p c i hp hi).2⟩
    · rw [List.getElem?_append_right y] at hp
      have hp0 : p - cs.length = 0 := by
        have := (List.getElem?_eq_some_iff.mp hp).1
        rw [List.length_singleton] at this
        omega
      rw [hp0] at hp
      obtain rfl : m = c := by simpa using hp
      obtain rfl : p = cs.length := by omega
      obtain rfl : n = i := by rw [hk] at hi; simpa using hi
      exact ⟨by rw [va_up_self]; exact n2, by rw [pk_uLs]; exact n3, fun h8 j hj => (ht2 h8 j hj).trans (n6 j hj), hm0.1, hm0.2⟩
theorem tc_im_self {fs ss : Nat → Option Nat} {ki : Nat → Nat} {r : Nat} {ids cs : List Nat} {n m : Nat} (h : tc_Hg fs ss ki r ids) (hn : ids.Nodup) (hk : ids[cs.length]? = some n) : tc_im ids (cs ++ [m]) (fs n) = none ∧ tc_im ids (cs ++ [m]) (ss n) = none := by
  have key : ∀ v : Option Nat, (∀ w, v = some w → w ∈ tc_kd fs ss n) → tc_im ids (cs ++ [m]) v = none := by
    intro v hv
    match v, hv with
    | none, _ => rfl
    | some w, hv =>
      have := tc_after h hn hk (hv w rfl)
      show (cs ++ [m])[ids.idxOf w]? = none
      exact List.getElem?_eq_none (by rw [List.length_append, List.length_singleton]; omega)
  exact ⟨key _ (fun w hw => by unfold tc_kd; rw [hw]; exact List.mem_append_left _ (by simp)), key _ (fun w hw => by unfold tc_kd; rw [hw]; exact List.mem_append_right _ (by simp))⟩
theorem tc_TW_0 (ids : List Nat) (m : tc_St) : tc_TW ids [] m m := by
  obtain ⟨iu, ki, mu, fs, ss, tx⟩ := m
  exact ⟨List.Pairwise.nil, (fun c hc => by cases hc), fun i _ => ⟨rfl, rfl, rfl, rfl, rfl, fun _ _ => rfl⟩, fun p c i hp => by simp at hp⟩
theorem tc_lk_keep {ids cs : List Nat} {X x : Nat → Option Nat} {m n o : Nat} (h : ∀ (p c i : Nat), cs[p]? = some c → ids[p]? = some i → X c = tc_im ids cs (x i)) (hm : m ∉ cs) (hk : ids[cs.length]? = some n) (hx : ∀ (p i : Nat), ids[p]? = some i → x i ≠ some n) : ∀ (p c i : Nat), cs[p]? = some c → ids[p]? = some i → va_up (va_up X m none) o (va_up X m none o) c = tc_im ids (cs ++ [m]) (x i) := by
  intro p c i hp hi
  have hcm : c ≠ m := fun e => hm (e ▸ List.mem_of_getElem? hp)
  rw [tc_im_ne hk (hx p i hi), ← h p c i hp hi]
  by_cases e : c = o
  · rw [← e, va_up_self, va_up_ne _ _ hcm]
  · rw [va_up_ne _ _ e, va_up_ne _ _ hcm]
theorem tc_lk_set {ids cs : List Nat} {X x : Nat → Option Nat} {m n o q iq : Nat} (h : ∀ (p c i : Nat), cs[p]? = some c → ids[p]? = some i → X c = tc_im ids cs (x i)) (hm : m ∉ cs) (hk : ids[cs.length]? = some n) (hn : ids.Nodup) (hcn : cs.Nodup) (ho : cs[q]? = some o) (hq : ids[q]? = some iq) (hxq : x iq = some n) (hx : ∀ (p i : Nat), ids[p]? = some i → x i = some n → i = iq) : ∀ (p c i : Nat), cs[p]? = some c → ids[p]? = some i → va_up (va_up X m none) o (some m) c = tc_im ids (cs ++ [m]) (x i) := by
  intro p c i hp hi
  have hcm : c ≠ m := fun e => hm (e ▸ List.mem_of_getElem? hp)
  have h1 := tc_idx hcn hp
  have h2 := tc_idx hcn ho
  have h3 := tc_idx hn hi
  have h4 := tc_idx hn hq
  by_cases e : c = o
  · have hpq : p = q := by rw [← h1, ← h2, e]
    have hii : i = iq := by rw [hpq, hq] at hi; simpa using hi.symm
    rw [e, va_up_self, hii, hxq, tc_im_n hn hk]
  · have hne : x i ≠ some n := fun z => e (by
      have hii := hx p i hi z
      have hpq : p = q := by rw [← h3, ← h4, hii]
      rw [hpq, ho] at hp
      simpa using hp.symm)
    rw [va_up_ne _ _ e, va_up_ne _ _ hcm, tc_im_ne hk hne, ← h p c i hp hi]
theorem tc_TW_cs {ids cs : List Nat} {iu iug : Nat → Bool} {ki kig : Nat → Nat} {mu mug : Nat → Int64} {fs ss fsg ssg : Nat → Option Nat} {tx txg : Nat → Nat} {i : Nat} (h : tc_TW ids cs (iu, ki, mu, fs, ss, tx) (iug, kig, mug, fsg, ssg, txg)) (hi : iu i = true) : i ∉ cs := fun q => by
  have := (h.2.1 i q).2.1
  rw [hi] at this
  cases this
theorem tc_kd_mem {fs ss : Nat → Option Nat} {i n : Nat} : n ∈ tc_kd fs ss i ↔ fs i = some n ∨ ss i = some n := by
  unfold tc_kd
  rw [List.mem_append, Option.mem_toList, Option.mem_toList]
theorem tc_kd_two {fs ss : Nat → Option Nat} {i n : Nat} (h : (tc_kd fs ss i).Nodup) (h1 : fs i = some n) : ss i ≠ some n := fun h2 => by
  unfold tc_kd at h
  rw [h1, h2] at h
  simp at h
/-- the next node, with the node that it is of -/
theorem tc_TW_first {ids cs : List Nat} {iu iug : Nat → Bool} {ki kig : Nat → Nat} {mu mug : Nat → Int64} {fs ss fsg ssg : Nat → Option Nat} {tx txg txh : Nat → Nat} {r n m o q iq : Nat} (h : tc_TW ids cs (iu, ki, mu, fs, ss, tx) (iug, kig, mug, fsg, ssg, txg)) (hg : tc_Hg fs ss ki r ids) (hn : ids.Nodup) (hk : ids[cs.length]? = some n) (hnc : n ∉ cs) (hm : m < 200) (hmu : iug m = false)
    (ht1 : ∀ i, i ≠ m → ∀ j, j < 64 → txh (64 * i + j) = txg (64 * i + j)) (ht2 : ki n = 8 → ∀ j, j < 64 → txh (64 * m + j) = txg (64 * n + j)) (ho : cs[q]? = some o) (hq : ids[q]? = some iq) (hf : fs iq = some n) :
    tc_TW ids (cs ++ [m]) (iu, ki, mu, fs, ss, tx) (va_up iug m true, va_up kig m (kig n), vp_updL mug m (mug n), va_up (va_up fsg m none) o (some m), va_up (va_up ssg m none) o (va_up ssg m none o), txh) := by
  have hmc : m ∉ cs := fun q => by
    have := (h.2.1 m q).2.2
    rw [hmu] at this
    cases this
  have hom : m ≠ o := fun e => hmc (e ▸ List.mem_of_getElem? ho)
  obtain ⟨u1, u2, u3⟩ := tc_one hg.1 hn
  have hiq := List.mem_of_getElem? hq
  have z := tc_im_self (m := m) hg hn hk
  refine tc_TW_step h hk hnc hm hmu ht1 ht2 (fun i hi him => ?_) ⟨by rw [va_up_ne _ _ hom, va_up_self, z.1], by rw [va_up_ne _ _ hom, va_up_self, z.2]⟩ (fun p c i hp hi => ⟨?_, ?_⟩)
  · have hio : i ≠ o := fun e => hi (e ▸ List.mem_of_getElem? ho)
    rw [va_up_ne _ _ hio, va_up_ne _ _ hio, va_up_ne _ _ him, va_up_ne _ _ him]
    exact ⟨rfl, rfl⟩
  · exact tc_lk_set (fun p c i hp hi => (h.2.2.2 p c i hp hi).2.2.2.1) hmc hk hn h.1 ho hq hf (fun p i hi hi2 => u2 i (List.mem_of_getElem? hi) iq hiq n (tc_kd_mem.mpr (Or.inl hi2)) (tc_kd_mem.mpr (Or.inl hf))) p c i hp hi
  · refine tc_lk_keep (fun p c i hp hi => (h.2.2.2 p c i hp hi).2.2.2.2) hmc hk (fun p i hi hi2 => ?_) p c i hp hi
    have e := u2 i (List.mem_of_getElem? hi) iq hiq n (tc_kd_mem.mpr (Or.inr hi2)) (tc_kd_mem.mpr (Or.inl hf))
    rw [e] at hi2
    exact tc_kd_two (u1 iq hiq) hf hi2
theorem tc_TW_second {ids cs : List Nat} {iu iug : Nat → Bool} {ki kig : Nat → Nat} {mu mug : Nat → Int64} {fs ss fsg ssg : Nat → Option Nat} {tx txg txh : Nat → Nat} {r n m o q iq : Nat} (h : tc_TW ids cs (iu, ki, mu, fs, ss, tx) (iug, kig, mug, fsg, ssg, txg)) (hg : tc_Hg fs ss ki r ids) (hn : ids.Nodup) (hk : ids[cs.length]? = some n) (hnc : n ∉ cs) (hm : m < 200) (hmu : iug m = false)
    (ht1 : ∀ i, i ≠ m → ∀ j, j < 64 → txh (64 * i + j) = txg (64 * i + j)) (ht2 : ki n = 8 → ∀ j, j < 64 → txh (64 * m + j) = txg (64 * n + j)) (ho : cs[q]? = some o) (hq : ids[q]? = some iq) (hkd : n ∈ tc_kd fs ss iq) (hf : fs iq ≠ some n) :
    tc_TW ids (cs ++ [m]) (iu, ki, mu, fs, ss, tx) (va_up iug m true, va_up kig m (kig n), vp_updL mug m (mug n), va_up (va_up fsg m none) o (va_up fsg m none o), va_up (va_up ssg m none) o (some m), txh) := by
  have hmc : m ∉ cs := fun q => by
    have := (h.2.1 m q).2.2
    rw [hmu] at this
    cases this
  have hs : ss iq = some n := (tc_kd_mem.mp hkd).resolve_left hf
  have hom : m ≠ o := fun e => hmc (e ▸ List.mem_of_getElem? ho)
  obtain ⟨u1, u2, u3⟩ := tc_one hg.1 hn
  have hiq := List.mem_of_getElem? hq
  have z := tc_im_self (m := m) hg hn hk
  refine tc_TW_step h hk hnc hm hmu ht1 ht2 (fun i hi him => ?_) ⟨by rw [va_up_ne _ _ hom, va_up_self, z.1], by rw [va_up_ne _ _ hom, va_up_self, z.2]⟩ (fun p c i hp hi => ⟨?_, ?_⟩)
  · have hio : i ≠ o := fun e => hi (e ▸ List.mem_of_getElem? ho)
    rw [va_up_ne _ _ hio, va_up_ne _ _ hio, va_up_ne _ _ him, va_up_ne _ _ him]
    exact ⟨rfl, rfl⟩
  · refine tc_lk_keep (fun p c i hp hi => (h.2.2.2 p c i hp hi).2.2.2.1) hmc hk (fun p i hi hi2 => ?_) p c i hp hi
    have e := u2 i (List.mem_of_getElem? hi) iq hiq n (tc_kd_mem.mpr (Or.inl hi2)) hkd
    rw [e] at hi2
    exact hf hi2
  · exact tc_lk_set (fun p c i hp hi => (h.2.2.2 p c i hp hi).2.2.2.2) hmc hk hn h.1 ho hq hs (fun p i hi hi2 => u2 i (List.mem_of_getElem? hi) iq hiq n (tc_kd_mem.mpr (Or.inr hi2)) hkd) p c i hp hi
theorem tc_TW_root {ids cs : List Nat} {iu iug : Nat → Bool} {ki kig : Nat → Nat} {mu mug : Nat → Int64} {fs ss fsg ssg : Nat → Option Nat} {tx txg txh : Nat → Nat} {r n m : Nat} (h : tc_TW ids cs (iu, ki, mu, fs, ss, tx) (iug, kig, mug, fsg, ssg, txg)) (hg : tc_Hg fs ss ki r ids) (hn : ids.Nodup) (hk : ids[cs.length]? = some n) (h0 : cs.length = 0) (hm : m < 200) (hmu : iug m = false)
    (ht1 : ∀ i, i ≠ m → ∀ j, j < 64 → txh (64 * i + j) = txg (64 * i + j)) (ht2 : ki n = 8 → ∀ j, j < 64 → txh (64 * m + j) = txg (64 * n + j)) :
    tc_TW ids (cs ++ [m]) (iu, ki, mu, fs, ss, tx) (va_up iug m true, va_up kig m (kig n), vp_updL mug m (mug n), va_up fsg m none, va_up ssg m none, txh) := by
  obtain rfl : cs = [] := List.eq_nil_of_length_eq_zero h0
  have z := tc_im_self (cs := []) (m := m) hg hn hk
  exact tc_TW_step (cs := []) h hk (fun q => by cases q) hm hmu ht1 ht2 (fun i hi him => ⟨va_up_ne _ _ him, va_up_ne _ _ him⟩) ⟨by rw [va_up_self, z.1], by rw [va_up_self, z.2]⟩ (fun p c i hp => by simp at hp)
theorem tc_TW_free {ids cs : List Nat} {I : List (List Nat)} {Ts : List (List tc_Nd)} {iu iug : Nat → Bool} {ki kig : Nat → Nat} {mu mug : Nat → Int64} {fs ss fsg ssg : Nat → Option Nat} {tx txg : Nat → Nat} {us : Nat} {te : Nat → Nat} {my : Nat} (hI : tc_RI I Ts (iu, ki, mu, fs, ss, tx) us te my) (h : tc_TW ids cs (iu, ki, mu, fs, ss, tx) (iug, kig, mug, fsg, ssg, txg)) (hl : us + cs.length < 200) : ∃ k, k < 200 ∧ iug k = false := by
  apply Classical.byContradiction
  intro hn
  have ha : ∀ i, i < 200 → iug i = true := by
    intro i hi
    cases hb : iug i with
    | true => rfl
    | false => exact absurd ⟨i, hi, hb⟩ hn
  have := tc_sub_len (List.range 200) (I.flatten ++ cs) List.nodup_range (fun x hx => by
    have hx := List.mem_range.mp hx
    by_cases q : x ∈ cs
    · exact List.mem_append_right _ q
    · refine List.mem_append_left _ (hI.2.2.2.1 x hx ?_)
      rw [← (h.2.2.1 x q).1]
      exact ha x hx)
  rw [List.length_range, List.length_append, ← hI.2.2.2.2.2.1] at this
  omega
theorem tc_Fo_map {fs ss fs' ss' : Nat → Option Nat} {φ : Nat → Nat} : ∀ {I st : List Nat}, tc_Fo fs ss st I → (∀ i ∈ I, tc_kd fs' ss' (φ i) = (tc_kd fs ss i).map φ) → tc_Fo fs' ss' (st.map φ) (I.map φ)
  | [], [], _, _ => trivial
  | [], _ :: _, h, _ => h.elim
  | j :: I, [], h, _ => h.elim
  | j :: I, i :: st, h, hk => by
    have h1 := tc_Fo_map h.2 (fun z hz => hk z (List.mem_cons_of_mem _ hz))
    refine ⟨by rw [h.1], ?_⟩
    show tc_Fo fs' ss' (tc_kd fs' ss' (φ i) ++ st.map φ) (I.map φ)
    rw [hk i (by rw [h.1]; exact List.mem_cons_self), ← List.map_append]
    exact h1
theorem tc_TW_RM {ids cs : List Nat} {I : List (List Nat)} {R : List (List tc_Nd)} {iu iug : Nat → Bool} {ki kig : Nat → Nat} {mu mug : Nat → Int64} {fs ss fsg ssg : Nat → Option Nat} {tx txg : Nat → Nat} {us : Nat} {te : Nat → Nat} {my c0 : Nat} (hI : tc_RI (ids :: I) (ids.map (tc_mn ki mu tx) :: R) (iu, ki, mu, fs, ss, tx) us te my) (h : tc_TW ids cs (iu, ki, mu, fs, ss, tx) (iug, kig, mug, fsg, ssg, txg)) (hg : tc_Hg fs ss ki (te (my - 1)) ids) (hl : cs.length = ids.length) (hc0 : cs[0]? = some c0) : tc_RM (ids.map (tc_mn ki mu tx) :: ids.map (tc_mn ki mu tx) :: R) (iug, kig, mug, fsg, ssg, txg) (us + ids.length) (va_up te my c0) (my + 1) := by
  have hokn := tc_RI_okn hI
  obtain ⟨a1, a2, a3, a4, a5, a6, a7, a8, a9⟩ := hI
  have hnd : ids.Nodup := (List.nodup_append.mp (show (ids ++ I.flatten).Nodup from a5)).1
  have hout : ∀ i ∈ (ids :: I).flatten, i ∉ cs := fun i hi => tc_TW_cs h (a3 i hi).2.1
  obtain ⟨b1, b2, b3, b4⟩ := h
  obtain ⟨φ, hφ⟩ : ∃ φ : Nat → Nat, φ = fun n => (cs[ids.idxOf n]?).getD 0 := ⟨_, rfl⟩
  have hφp : ∀ (p c i : Nat), cs[p]? = some c → ids[p]? = some i → φ i = c := fun p c i hp hi => by
    rw [hφ]
    show (cs[ids.idxOf i]?).getD 0 = c
    rw [tc_idx hnd hi, hp]
    rfl
  have hcs : cs = ids.map φ := by
    refine tc_ext_k (by rw [List.length_map, hl]) (fun p hp => ?_)
    obtain ⟨i, hi⟩ : ∃ i, ids[p]? = some i := ⟨_, List.getElem?_eq_getElem (by omega)⟩
    obtain ⟨c, hc⟩ : ∃ c, cs[p]? = some c := ⟨_, List.getElem?_eq_getElem hp⟩
    rw [List.getElem?_map, hi, hc]
    exact congrArg some (hφp p c i hc hi).symm
  have him : ∀ v : Option Nat, (∀ w, v = some w → w ∈ ids) → tc_im ids cs v = v.map φ := by
    intro v hv
    match v, hv with
    | none, _ => rfl
    | some w, hv =>
      have h1 := tc_gidx (hv w rfl)
      obtain ⟨c, hc⟩ : ∃ c, cs[ids.idxOf w]? = some c := ⟨_, List.getElem?_eq_getElem (by have := (List.getElem?_eq_some_iff.mp h1).1; omega)⟩
      show cs[ids.idxOf w]? = some (φ w)
      rw [hφp _ c w hc h1, hc]
  have hat : ∀ i ∈ ids, ∃ p, ids[p]? = some i ∧ cs[p]? = some (φ i) := fun i hi => by
    have h1 := tc_gidx hi
    obtain ⟨c, hc⟩ : ∃ c, cs[ids.idxOf i]? = some c := ⟨_, List.getElem?_eq_getElem (by have := (List.getElem?_eq_some_iff.mp h1).1; omega)⟩
    exact ⟨_, h1, by rw [hφp _ c i hc h1]; exact hc⟩
  have hkin := (tc_Fo_mem hg.1).2
  have hkd : ∀ i ∈ ids, fsg (φ i) = (fs i).map φ ∧ ssg (φ i) = (ss i).map φ ∧ tc_kd fsg ssg (φ i) = (tc_kd fs ss i).map φ ∧ kig (φ i) = ki i ∧ tc_mn kig mug txg (φ i) = tc_mn ki mu tx i := fun i hi => by
    obtain ⟨p, hp1, hp2⟩ := hat i hi
    obtain ⟨d1, d2, d3, d4, d5⟩ := b4 p _ i hp2 hp1
    rw [him _ (fun w hw => hkin i hi w (tc_kd_mem.mpr (Or.inl hw)))] at d4
    rw [him _ (fun w hw => hkin i hi w (tc_kd_mem.mpr (Or.inr hw)))] at d5
    refine ⟨d4, d5, ?_, d1, ?_⟩
    · unfold tc_kd
      rw [d4, d5, List.map_append]
      cases fs i <;> cases ss i <;> rfl
    · unfold tc_mn
      rw [d1, d2]
      by_cases h8 : ki i = 8
      · obtain ⟨cn, e1, e2, e3, e4⟩ := tc_mn_cnt (hokn i (List.mem_append_left _ hi)) h8
        rw [if_pos h8, if_pos h8, e3]
        congr 2
        refine List.map_congr_left (fun j hj => ?_)
        have := List.mem_range.mp hj
        rw [d3 h8 j (by omega)]
      · rw [if_neg h8, if_neg h8]
  have hold : ∀ i ∈ (ids :: I).flatten, tc_mn kig mug txg i = tc_mn ki mu tx i := fun i hi => by
    obtain ⟨d0, d1, d2, d3, d4, d5⟩ := b3 i (hout i hi)
    unfold tc_mn
    rw [d1, d2]
    by_cases h8 : ki i = 8
    · obtain ⟨cn, e1, e2, e3, e4⟩ := tc_mn_cnt (hokn i hi) h8
      rw [if_pos h8, if_pos h8, e3]
      congr 2
      refine List.map_congr_left (fun j hj => ?_)
      have := List.mem_range.mp hj
      rw [d5 j (by omega)]
    · rw [if_neg h8, if_neg h8]
  have hmcs : cs.map (tc_mn kig mug txg) = ids.map (tc_mn ki mu tx) := by
    rw [hcs, List.map_map]
    exact List.map_congr_left (fun i hi => (hkd i hi).2.2.2.2)
  have hfl : (cs :: ids :: I).flatten = cs ++ (ids :: I).flatten := List.flatten_cons
  refine ⟨cs :: ids :: I, ?_, ?_, ?_, ?_, ?_, ?_, ?_, ⟨?_, tc_rte_eq (fun i hi => ?_) a8⟩, ?_⟩
  · rw [List.map_cons, hmcs, a1]
    congr 1
    exact List.map_congr_left (fun l hd => List.map_congr_left (fun i hi => (hold i (List.mem_flatten.mpr ⟨l, hd, hi⟩)).symm))
  · intro l hd
    rcases List.mem_cons.mp hd with e | e
    · have z := tc_Fo_map (φ := φ) hg.1 (fun i hi => (hkd i hi).2.2.1)
      exact ⟨_, by rw [e, hcs]; exact z⟩
    · obtain ⟨r, hr⟩ := a2 l e
      exact ⟨r, tc_Fo_eq (fun i hi => by
        have := b3 i (hout i (List.mem_flatten.mpr ⟨l, e, hi⟩))
        exact ⟨this.2.2.2.1, this.2.2.2.2.1⟩) hr⟩
  · intro i hi
    rw [hfl] at hi
    rcases List.mem_append.mp hi with q | q
    · have hb := b2 i q
      rw [hcs] at q
      obtain ⟨j, hj, rfl⟩ := List.mem_map.mp q
      obtain ⟨d1, d2, d3, d4, _⟩ := hkd j hj
      obtain ⟨c1, c2, c3, c4⟩ := a3 j (List.mem_append_left _ hj)
      exact ⟨hb.1, hb.2.2, by rw [d3, List.length_map, d4]; exact c3, fun z => by
        rw [d1] at z
        rw [d2]
        have hz : fs j = none := by simpa using z
        rw [c4 hz]
        rfl⟩
    · obtain ⟨c1, c2, c3, c4⟩ := a3 i q
      obtain ⟨d0, d1, d2, d3, d4, d5⟩ := b3 i (hout i q)
      exact ⟨c1, by rw [d0]; exact c2, by unfold tc_kd; rw [d3, d4, d1]; exact c3, by rw [d3, d4]; exact c4⟩
  · intro i hi hu
    rw [hfl]
    by_cases q : i ∈ cs
    · exact List.mem_append_left _ q
    · rw [(b3 i q).1] at hu
      exact List.mem_append_right _ (a4 i hi hu)
  · rw [hfl]
    exact List.nodup_append.mpr ⟨b1, a5, fun x hx y hy e => hout y hy (e ▸ hx)⟩
  · rw [hfl, List.length_append, ← a6, hl]
    omega
  · rw [a7]; rfl
  · rw [show (ids :: I).length = my from a7.symm, va_up_self]
    match cs, hc0 with
    | a :: cs', hc0 => exact hc0
  · rw [va_up_ne _ _ (by have : (ids :: I).length = my := a7.symm; omega)]
  · intro t ht
    rcases List.mem_cons.mp ht with e | e
    · rw [e]; exact a9 _ List.mem_cons_self
    · exact a9 t e
theorem tc_cp1 {m n j : Nat} {txg txh : Nat → Nat} (hmn : n ≠ m) (hj : j < 64) (f : ∀ q, txh q = if 64 * m ≤ q ∧ q < 64 * m + j then txg (64 * n + (q - 64 * m)) else txg q) : ∀ q, va_up txh (64 * m + j) (txh (64 * n + j)) q = if 64 * m ≤ q ∧ q < 64 * m + (j + 1) then txg (64 * n + (q - 64 * m)) else txg q := by
  intro q
  by_cases e : q = 64 * m + j
  · rw [e, va_up_self, f, if_neg (by omega), if_pos (by omega), show 64 * m + j - 64 * m = j by omega]
  · rw [va_up_ne _ _ e, f]
    by_cases y : 64 * m ≤ q ∧ q < 64 * m + j
    · rw [if_pos y, if_pos (by omega)]
    · rw [if_neg y, if_neg (by omega)]
theorem tc_cp2 {m n j : Nat} {txg txh : Nat → Nat} (hj : j ≤ 64) (f : ∀ q, txh q = if 64 * m ≤ q ∧ q < 64 * m + j then txg (64 * n + (q - 64 * m)) else txg q) : ∀ i, i ≠ m → ∀ t, t < 64 → txh (64 * i + t) = txg (64 * i + t) := by
  intro i hi t ht
  rw [f, if_neg (by omega)]
theorem tc_cp3 {m n j : Nat} {txg txh : Nat → Nat} (hj : j = 64) (f : ∀ q, txh q = if 64 * m ≤ q ∧ q < 64 * m + j then txg (64 * n + (q - 64 * m)) else txg q) : ∀ t, t < 64 → txh (64 * m + t) = txg (64 * n + t) := by
  intro t ht
  rw [f, if_pos (by omega), show 64 * m + t - 64 * m = t by omega]
theorem tc_co1 {cs : List Nat} {cog : Nat → Nat} {m : Nat} (e : ∀ (j c : Nat), cs[j]? = some c → cog j = c) : ∀ (j c : Nat), (cs ++ [m])[j]? = some c → va_up cog cs.length m j = c := by
  intro j c hj
  rcases Nat.lt_or_ge j cs.length with y | y
  · rw [List.getElem?_append_left y] at hj
    rw [va_up_ne _ _ (by omega)]
    exact e j c hj
  · rw [List.getElem?_append_right y] at hj
    have hj0 : j - cs.length = 0 := by
      have := (List.getElem?_eq_some_iff.mp hj).1
      rw [List.length_singleton] at this
      omega
    rw [hj0] at hj
    rw [show j = cs.length by omega, va_up_self]
    simpa using hj
