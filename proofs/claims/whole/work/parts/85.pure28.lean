/-! PURE 28: a term read into the store. -/
/-- the open places: of the last node first -/
def tc_lz {α : Type} (lc : Nat → Nat) (v : Nat → α) : Nat → List α
  | 0 => []
  | n + 1 => List.replicate (lc n) (v n) ++ tc_lz lc v n
theorem tc_lz_eq {α : Type} {lc lc' : Nat → Nat} {v v' : Nat → α} : ∀ (n : Nat), (∀ i, i < n → lc' i = lc i ∧ v' i = v i) → tc_lz lc' v' n = tc_lz lc v n
  | 0, _ => rfl
  | n + 1, h => by
    show List.replicate (lc' n) (v' n) ++ tc_lz lc' v' n = List.replicate (lc n) (v n) ++ tc_lz lc v n
    rw [(h n (Nat.lt_succ_self n)).1, (h n (Nat.lt_succ_self n)).2, tc_lz_eq n (fun i hi => h i (by omega))]
theorem tc_lz_down {α : Type} {lc : Nat → Nat} {v : Nat → α} {j : Nat} : ∀ (n : Nat), j ≤ n → (∀ i, j ≤ i → i < n → lc i = 0) → tc_lz lc v n = tc_lz lc v j
  | 0, h, _ => by rw [show j = 0 by omega]
  | n + 1, h, hz => by
    rcases Nat.lt_or_ge n j with q | q
    · rw [show j = n + 1 by omega]
    · show List.replicate (lc n) (v n) ++ tc_lz lc v n = _
      rw [hz n q (by omega), List.replicate_zero, List.nil_append]
      exact tc_lz_down n q (fun i h1 h2 => hz i h1 (by omega))
theorem tc_lz_none {α : Type} {lc : Nat → Nat} {v : Nat → α} {n : Nat} (hz : ∀ i, i < n → lc i = 0) : tc_lz lc v n = [] := tc_lz_down (j := 0) n (Nat.zero_le _) (fun i _ h => hz i h)
theorem tc_lz_open {α : Type} {lc : Nat → Nat} {v : Nat → α} {n j : Nat} (hj : j < n) (hz : ∀ i, j < i → i < n → lc i = 0) (h0 : 0 < lc j) : tc_lz lc v n = v j :: (List.replicate (lc j - 1) (v j) ++ tc_lz lc v j) := by
  rw [tc_lz_down (j := j + 1) n hj (fun i h1 h2 => hz i h1 h2)]
  show List.replicate (lc j) (v j) ++ tc_lz lc v j = _
  obtain ⟨k, hk⟩ : ∃ k, lc j = k + 1 := ⟨lc j - 1, by omega⟩
  rw [hk]
  rfl
theorem tc_lz_step {α : Type} {lc : Nat → Nat} {v v' : Nat → α} {n j t : Nat} (hj : j < n) (hz : ∀ i, j < i → i < n → lc i = 0) (hv : ∀ i, i < n → v' i = v i) : tc_lz (va_up (va_up lc n t) j (lc j - 1)) v' (n + 1) = List.replicate t (v' n) ++ (List.replicate (lc j - 1) (v j) ++ tc_lz lc v j) := by
  show List.replicate (va_up (va_up lc n t) j (lc j - 1) n) (v' n) ++ tc_lz (va_up (va_up lc n t) j (lc j - 1)) v' n = _
  rw [va_up_ne _ _ (show n ≠ j by omega), va_up_self]
  congr 1
  rw [tc_lz_down (j := j + 1) n hj (fun i h1 h2 => by rw [va_up_ne _ _ (show i ≠ j by omega), va_up_ne _ _ (show i ≠ n by omega)]; exact hz i h1 h2)]
  show List.replicate (va_up (va_up lc n t) j (lc j - 1) j) (v' j) ++ tc_lz (va_up (va_up lc n t) j (lc j - 1)) v' j = _
  rw [va_up_self, hv j hj]
  congr 1
  exact tc_lz_eq j (fun i hi => ⟨by rw [va_up_ne _ _ (show i ≠ j by omega), va_up_ne _ _ (show i ≠ n by omega)], hv i (by omega)⟩)
theorem tc_lz_mem {α : Type} {lc : Nat → Nat} {v : Nat → α} {z : α} : ∀ {n : Nat}, z ∈ tc_lz lc v n → ∃ i, i < n ∧ z = v i
  | 0, h => by cases h
  | n + 1, h => by
    rcases List.mem_append.mp (show z ∈ List.replicate (lc n) (v n) ++ tc_lz lc v n from h) with q | q
    · exact ⟨n, Nat.lt_succ_self n, (List.mem_replicate.mp q).2⟩
    · obtain ⟨i, h1, h2⟩ := tc_lz_mem q
      exact ⟨i, by omega, h2⟩
theorem tc_lz_len {α β : Type} {lc : Nat → Nat} {v : Nat → α} {w : Nat → β} : ∀ (n : Nat), (tc_lz lc v n).length = (tc_lz lc w n).length
  | 0 => rfl
  | n + 1 => by
    show (List.replicate (lc n) (v n) ++ tc_lz lc v n).length = (List.replicate (lc n) (w n) ++ tc_lz lc w n).length
    rw [List.length_append, List.length_append, List.length_replicate, List.length_replicate, tc_lz_len n]
/-- of the roots rs that come into the places P: those of i -/
def tc_pik (i : Nat) : List Nat → List Nat → List Nat
  | [], _ => []
  | _ :: _, [] => []
  | o :: P, r :: rs => if o = i then r :: tc_pik i P rs else tc_pik i P rs
theorem tc_pik_no {i : Nat} : ∀ {P rs : List Nat}, i ∉ P → tc_pik i P rs = []
  | [], _, _ => rfl
  | _ :: _, [], _ => rfl
  | o :: P, r :: rs, h => by
    show (if o = i then _ else _) = _
    rw [if_neg (fun e => h (by rw [e]; exact List.mem_cons_self))]
    exact tc_pik_no (fun q => h (List.mem_cons_of_mem _ q))
theorem tc_pik_eq {i : Nat} {P : List Nat} : ∀ {n : Nat} {rs : List Nat}, n ≤ rs.length → tc_pik i (List.replicate n i ++ P) rs = rs.take n ++ tc_pik i P (rs.drop n)
  | 0, rs, _ => by simp
  | n + 1, [], h => by simp at h
  | n + 1, r :: rs, h => by
    show (if i = i then r :: tc_pik i (List.replicate n i ++ P) rs else tc_pik i (List.replicate n i ++ P) rs) = _
    rw [if_pos rfl, tc_pik_eq (by simpa using h)]
    rfl
theorem tc_pik_ne {i m : Nat} {P : List Nat} (hm : m ≠ i) : ∀ {n : Nat} {rs : List Nat}, n ≤ rs.length → tc_pik i (List.replicate n m ++ P) rs = tc_pik i P (rs.drop n)
  | 0, rs, _ => by simp
  | n + 1, [], h => by simp at h
  | n + 1, r :: rs, h => by
    show (if m = i then r :: tc_pik i (List.replicate n m ++ P) rs else tc_pik i (List.replicate n m ++ P) rs) = _
    rw [if_neg hm, tc_pik_ne hm (by simpa using h)]
    rfl
/-- ids: the first nodes of one term with the root r; P: the nodes that lack a child, in the order of the places -/
def tc_Pt (fs ss : Nat → Option Nat) (r : Nat) (ids P : List Nat) : Prop := ∀ (fs' ss' : Nat → Option Nat) (rs R : List Nat), rs.length = P.length → (∀ i ∈ ids, tc_kd fs' ss' i = tc_kd fs ss i ++ tc_pik i P rs) → tc_Fo fs' ss' rs R → tc_Fo fs' ss' [r] (ids ++ R)
theorem tc_Pt_1 {fs ss : Nat → Option Nat} {r t : Nat} (h : tc_kd fs ss r = []) : tc_Pt fs ss r [r] (List.replicate t r) := by
  intro fs' ss' rs R hl hk hF
  rw [List.length_replicate] at hl
  have h1 := hk r List.mem_cons_self
  have h2 := tc_pik_eq (i := r) (P := []) (n := t) (rs := rs) (by omega)
  rw [List.append_nil, List.take_of_length_le (by omega), show tc_pik r [] (rs.drop t) = [] from rfl, List.append_nil] at h2
  rw [h, h2, List.nil_append] at h1
  refine ⟨rfl, ?_⟩
  show tc_Fo fs' ss' (tc_kd fs' ss' r ++ []) R
  rw [h1, List.append_nil]
  exact hF
theorem tc_Pt_s {fs ss fs1 ss1 : Nat → Option Nat} {r m o t : Nat} {ids P : List Nat} (h : tc_Pt fs ss r ids (o :: P)) (hm : m ∉ ids) (ho : o ∈ ids) (hP : ∀ z ∈ P, z ∈ ids) (h1 : tc_kd fs1 ss1 o = tc_kd fs ss o ++ [m]) (h2 : tc_kd fs1 ss1 m = []) (h3 : ∀ i ∈ ids, i ≠ o → tc_kd fs1 ss1 i = tc_kd fs ss i) : tc_Pt fs1 ss1 r (ids ++ [m]) (List.replicate t m ++ P) := by
  intro fs' ss' rs R hl hk hF
  rw [List.length_append, List.length_replicate] at hl
  have hmP : m ∉ P := fun q => hm (hP m q)
  have e1 := h fs' ss' (m :: rs.drop t) (m :: R) (by rw [List.length_cons, List.length_cons, List.length_drop]; omega) (fun i hi => by
    have e2 := hk i (List.mem_append_left _ hi)
    rw [tc_pik_ne (show m ≠ i from fun e => hm (e ▸ hi)) (by omega)] at e2
    show _ = _ ++ (if o = i then m :: tc_pik i P (rs.drop t) else tc_pik i P (rs.drop t))
    by_cases q : o = i
    · rw [if_pos q, e2, ← q, h1, List.append_assoc]
      rfl
    · rw [if_neg q, e2, h3 i hi (fun e => q e.symm)]) (by
    refine ⟨rfl, ?_⟩
    have e2 := hk m (List.mem_append_right _ List.mem_cons_self)
    rw [tc_pik_eq (by omega), tc_pik_no hmP, h2, List.append_nil, List.nil_append] at e2
    rw [e2, List.take_append_drop]
    exact hF)
  rw [List.append_assoc]
  exact e1
theorem tc_Pt_e {fs ss : Nat → Option Nat} {r : Nat} {ids : List Nat} (h : tc_Pt fs ss r ids []) : tc_Fo fs ss [r] ids := by
  have := h fs ss [] [] rfl (fun i _ => by rw [show tc_pik i [] [] = [] from rfl, List.append_nil]) trivial
  rwa [List.append_nil] at this
/-- the nodes L, read up to the open places -/
def tc_Rp (L : List tc_Nd) : Prop := tc_wfc L (tc_pd 0 [tc_q0] L).length ∧ (∀ e ∈ tc_fw 0 [tc_q0] L, e.2.1 ≤ 60) ∧ (∀ y ∈ L, tc_okn y) ∧ ∀ z ∈ tc_pd 0 [tc_q0] L, z.2.2 ≤ z.2.1 ∧ z.2.1 ≤ 61
theorem tc_Rp_0 : tc_Rp [] := ⟨fun R h => h, (fun e he => by cases he), (fun y hy => by cases hy), fun z hz => by
  rw [List.mem_singleton.mp (show z ∈ [tc_q0] from hz)]
  exact ⟨by decide, by decide⟩⟩
theorem tc_Rp_s {B : Nat → Nat} {n p nw us : Nat} {L : List tc_Nd} {x : tc_Nd} {q : tc_Q} {st : List tc_Q} (h : tc_Rp L) (hp : tc_pd 0 [tc_q0] L = q :: st) (hr : tc_rN B n p q.2.1 q.2.2 us = .inr (x, nw)) (hB : ∀ j, B j < 256) : tc_Rp (L ++ [x]) ∧ tc_pd 0 [tc_q0] (L ++ [x]) = tc_kid L.length x q ++ st := by
  obtain ⟨h1, h2, h3, h4⟩ := h
  have hinv := tc_rN_inv hr
  have hpd : tc_pd 0 [tc_q0] (L ++ [x]) = tc_kid L.length x q ++ st := by rw [tc_pd_app, hp, tc_pd_cons, tc_pd_nil, Nat.zero_add]
  rw [hp] at h1 h4
  refine ⟨⟨?_, tc_lv60 h2 hp hinv.2.2.1, tc_mem1 h3 (tc_rE_ok hinv.2.2.2.2 hinv.2.1 hB), ?_⟩, hpd⟩
  · rw [hpd, List.length_append, tc_kid_len]
    exact tc_wfc_step h1
  · rw [hpd]
    intro z hz
    match hqs : tc_kid L.length x q ++ st, hz with
    | q' :: st', hz => exact tc_kid_b hqs (h4 q List.mem_cons_self).1 hinv.2.2.1 (fun z hz => h4 z (List.mem_cons_of_mem _ hz)) z hz
/-- L, read into the nodes ids of the store -/
def tc_Rd (L : List tc_Nd) (ids : List Nat) (m0 m1 : tc_St) (re dq bo lc : Nat → Nat) : Prop := tc_PF ids m0 m1 ∧ (∀ j c, ids[j]? = some c → re j = c) ∧ tc_Rp L ∧ tc_pd 0 [tc_q0] L = tc_lz lc (fun n => (some n, dq n + 1, bo n)) ids.length ∧ match m1 with
  | (_, ki, mu, fs, ss, tx) => ids.map (tc_mn ki mu tx) = L ∧ (∀ j c, ids[j]? = some c → (tc_kd fs ss c).length + lc j = tc_tk (ki c) ∧ (fs c = none → ss c = none) ∧ ∀ v ∈ tc_kd fs ss c, v ∈ ids) ∧ tc_Pt fs ss (re 0) ids (tc_lz lc re ids.length)
theorem tc_mn_up {ki kg : Nat → Nat} {mu mug : Nat → Int64} {tx txg : Nat → Nat} {i : Nat} (hk : kg i = ki i) (hm : mug i = mu i) (ht : ∀ t, t < 64 → txg (64 * i + t) % 256 = tx (64 * i + t) % 256) (hok : tc_okn (tc_mn ki mu tx i)) : tc_mn kg mug txg i = tc_mn ki mu tx i := by
  unfold tc_mn
  rw [hk, hm]
  by_cases h8 : ki i = 8
  · obtain ⟨cn, e1, e2, e3, e4⟩ := tc_mn_cnt hok h8
    rw [if_pos h8, if_pos h8, e3]
    congr 2
    refine List.map_congr_left (fun j hj => ?_)
    have := List.mem_range.mp hj
    exact ht j (by omega)
  · rw [if_neg h8, if_neg h8]
theorem tc_Rd_1 {m0 : tc_St} {iu : Nat → Bool} {ki : Nat → Nat} {mu mug : Nat → Int64} {fs ss fsg ssg : Nat → Option Nat} {tx txg re dq bo lc lcg : Nat → Nat} {B : Nat → Nat} {n p us nw m : Nat} {x : tc_Nd} (h0 : m0 = (iu, ki, mu, fs, ss, tx)) (g1 : tc_rN B n p 1 0 us = .inr (x, nw)) (hB : ∀ j, B j < 256) (g2 : m < 200 ∧ iu m = false) (g3 : tc_mn (va_up ki m x.1) mug txg m = x) (g4 : ∀ i, i ≠ m → mug i = mu i) (g5 : ∀ i, i ≠ m → ∀ t, t < 64 → txg (64 * i + t) % 256 = tx (64 * i + t) % 256) (g6 : fsg = va_up fs m none ∧ ssg = va_up ss m none ∧ lcg = va_up lc 0 (tc_tk x.1)) : tc_Rd [x] [m] m0 (va_up iu m true, va_up ki m x.1, mug, fsg, ssg, txg) (va_up re 0 m) (va_up dq 0 1) (va_up bo 0 (0 + if x.1 = 1 then 1 else 0)) lcg := by
  obtain ⟨e1, e2, e3⟩ := g6
  have hkd : tc_kd fsg ssg m = [] := by unfold tc_kd; rw [e1, e2, va_up_self, va_up_self]; rfl
  have hre : ∀ j c, [m][j]? = some c → j = 0 ∧ m = c := fun j c hj => by
    have h1 := (List.getElem?_eq_some_iff.mp hj).1
    have h2 : j = 0 := by simpa using h1
    rw [h2] at hj
    exact ⟨h2, by simpa using hj⟩
  obtain ⟨s1, s2⟩ := tc_Rp_s tc_Rp_0 (show tc_pd 0 [tc_q0] [] = tc_q0 :: [] from rfl) g1 hB
  refine ⟨?_, ?_, s1, ?_, ?_, ?_, ?_⟩
  · rw [h0]
    exact tc_PF_new (tc_PF_0 (iu, ki, mu, fs, ss, tx)) g2.1 g2.2 (fun i _ hi => ⟨va_up_ne _ _ hi, g4 i hi, by rw [e1, va_up_ne _ _ hi], by rw [e2, va_up_ne _ _ hi], g5 i hi⟩)
  · intro j c hj
    obtain ⟨r1, r2⟩ := hre j c hj
    rw [r1, va_up_self, r2]
  · rw [show ([x] : List tc_Nd) = [] ++ [x] from rfl, s2, e3]
    show List.replicate (tc_tk x.1) _ ++ [] = List.replicate (va_up lc 0 (tc_tk x.1) 0) _ ++ []
    rw [va_up_self]
    congr 2
  · rw [List.map_cons, g3]; rfl
  · intro j c hj
    obtain ⟨r1, r2⟩ := hre j c hj
    rw [← r2, r1, hkd, e3, va_up_self, va_up_self]
    exact ⟨by simp, fun _ => by rw [e2, va_up_self], fun v hv => by cases hv⟩
  · show tc_Pt _ _ (va_up re 0 m 0) [m] (List.replicate (lcg 0) (va_up re 0 m 0) ++ [])
    rw [va_up_self, List.append_nil]
    exact tc_Pt_1 hkd
theorem tc_kd_add {fs ss fsg ssg : Nat → Option Nat} {o m k t : Nat} (hom : o ≠ m) (hn : fs o = none → ss o = none) (hl : (tc_kd fs ss o).length + k = t) (ht : t ≤ 2) (hk : 0 < k) (h : (fs o = none ∧ fsg = va_up (va_up fs m none) o (some m) ∧ ssg = va_up ss m none) ∨ (fs o ≠ none ∧ fsg = va_up fs m none ∧ ssg = va_up (va_up ss m none) o (some m))) : tc_kd fsg ssg o = tc_kd fs ss o ++ [m] ∧ tc_kd fsg ssg m = [] ∧ (∀ i, i ≠ m → i ≠ o → fsg i = fs i ∧ ssg i = ss i) ∧ (fsg o = none → ssg o = none) ∧ ssg m = none := by
  have hmo : m ≠ o := fun e => hom e.symm
  rcases h with ⟨a, rfl, rfl⟩ | ⟨a, rfl, rfl⟩
  · refine ⟨?_, ?_, fun i h1 h2 => ⟨by rw [va_up_ne _ _ h2, va_up_ne _ _ h1], by rw [va_up_ne _ _ h1]⟩, ?_, va_up_self _ _ _⟩
    · unfold tc_kd
      rw [va_up_self, va_up_ne _ _ hom, hn a, a]
      rfl
    · unfold tc_kd
      rw [va_up_ne _ _ hmo, va_up_self, va_up_self]
      rfl
    · rw [va_up_self]
      intro z
      cases z
  · obtain ⟨f, hf⟩ : ∃ f, fs o = some f := by
      match hz : fs o with
      | none => exact absurd hz a
      | some f => exact ⟨f, rfl⟩
    have hs : ss o = none := by
      match hz : ss o with
      | none => rfl
      | some s =>
        unfold tc_kd at hl
        rw [hf, hz] at hl
        have : (1 + 1 : Nat) + k = t := hl
        omega
    refine ⟨?_, ?_, fun i h1 h2 => ⟨by rw [va_up_ne _ _ h1], by rw [va_up_ne _ _ h2, va_up_ne _ _ h1]⟩, ?_, ?_⟩
    · unfold tc_kd
      rw [va_up_self, va_up_ne _ _ hom, hf, hs]
      rfl
    · unfold tc_kd
      rw [va_up_self, va_up_ne _ _ hmo, va_up_self]
      rfl
    · rw [va_up_ne _ _ hom, hf]
      intro z
      cases z
    · rw [va_up_ne _ _ hmo, va_up_self]
theorem tc_Rd_pd {L : List tc_Nd} {ids : List Nat} {m0 m1 : tc_St} {re dq bo lc : Nat → Nat} {j : Nat} (h : tc_Rd L ids m0 m1 re dq bo lc) (hj : j < ids.length) (hz : ∀ i, j < i → i < ids.length → lc i = 0) (h0 : 0 < lc j) : tc_pd 0 [tc_q0] L = (some j, dq j + 1, bo j) :: (List.replicate (lc j - 1) (some j, dq j + 1, bo j) ++ tc_lz lc (fun n => (some n, dq n + 1, bo n)) j) := by
  rw [h.2.2.2.1]
  exact tc_lz_open hj hz h0
theorem tc_nd_inj {ids : List Nat} (hn : ids.Nodup) {i j c : Nat} (hi : ids[i]? = some c) (hj : ids[j]? = some c) : i = j := (tc_idx hn hi).symm.trans (tc_idx hn hj)
theorem tc_Rd_s {m0 : tc_St} {L : List tc_Nd} {ids : List Nat} {iu : Nat → Bool} {ki : Nat → Nat} {mu mug : Nat → Int64} {fs ss fsg ssg : Nat → Option Nat} {tx txg re dq bo lc lcg : Nat → Nat} {B : Nat → Nat} {n p us nw m j rd : Nat} {x : tc_Nd} (h : tc_Rd L ids m0 (iu, ki, mu, fs, ss, tx) re dq bo lc) (hrd : rd = ids.length) (hj : j < ids.length) (hz : ∀ i, j < i → i < ids.length → lc i = 0) (h0 : 0 < lc j) (g1 : tc_rN B n p (dq j + 1) (bo j) us = .inr (x, nw)) (hB : ∀ j, B j < 256) (g2 : m < 200 ∧ iu m = false) (g3 : tc_mn (va_up ki m x.1) mug txg m = x) (g4 : ∀ i, i ≠ m → mug i = mu i) (g5 : ∀ i, i ≠ m → ∀ t, t < 64 → txg (64 * i + t) % 256 = tx (64 * i + t) % 256) (g7 : ∃ o, ids[j]? = some o ∧ lcg = va_up (va_up lc rd (tc_tk x.1)) j (lc j - 1) ∧ ((fs o = none ∧ fsg = va_up (va_up fs m none) o (some m) ∧ ssg = va_up ss m none) ∨ (fs o ≠ none ∧ fsg = va_up fs m none ∧ ssg = va_up (va_up ss m none) o (some m)))) : tc_Rd (L ++ [x]) (ids ++ [m]) m0 (va_up iu m true, va_up ki m x.1, mug, fsg, ssg, txg) (va_up re rd m) (va_up dq rd (dq j + 1)) (va_up bo rd (bo j + if x.1 = 1 then 1 else 0)) lcg := by
  subst hrd
  have hpd := tc_Rd_pd h hj hz h0
  obtain ⟨a1, a2, a3, a4, a5, a6, a7⟩ := h
  obtain ⟨o, o1, o2, o3⟩ := g7
  obtain ⟨s1, s2⟩ := tc_Rp_s a3 hpd g1 hB
  have hll : L.length = ids.length := by rw [← a5, List.length_map]
  have hmem : ∀ c ∈ ids, iu c = true := by
    obtain ⟨iu0, ki0, mu0, fs0, ss0, tx0⟩ := m0
    exact fun c hc => (a1.2.1 c hc).2.2
  have hnd : ids.Nodup := by
    obtain ⟨iu0, ki0, mu0, fs0, ss0, tx0⟩ := m0
    exact a1.1
  have hmn : m ∉ ids := fun q => by
    have := hmem m q
    rw [g2.2] at this
    cases this
  have hoi : o ∈ ids := List.mem_of_getElem? o1
  have hom : o ≠ m := fun e => hmn (e ▸ hoi)
  obtain ⟨b1, b2, b3⟩ := a6 j o o1
  obtain ⟨k1, k2, k3, k4, k5⟩ := tc_kd_add hom b2 b1 (tc_tk_le _) h0 o3
  have hkne : ∀ i ∈ ids, i ≠ o → tc_kd fsg ssg i = tc_kd fs ss i := fun i hi hio => by
    have := k3 i (fun e => hmn (e ▸ hi)) hio
    unfold tc_kd
    rw [this.1, this.2]
  have hre : ∀ i, i < ids.length → va_up re ids.length m i = re i := fun i hi => va_up_ne _ _ (by omega)
  have hz1 := tc_lz_step (t := tc_tk x.1) (v := re) (v' := va_up re ids.length m) hj hz hre
  have hz2 := tc_lz_step (t := tc_tk x.1) (v := fun n => ((some n, dq n + 1, bo n) : tc_Q)) (v' := fun n => (some n, va_up dq ids.length (dq j + 1) n + 1, va_up bo ids.length (bo j + if x.1 = 1 then 1 else 0) n)) hj hz (fun i hi => by
    show (some i, va_up dq ids.length (dq j + 1) i + 1, va_up bo ids.length _ i) = _
    rw [va_up_ne _ _ (show i ≠ ids.length by omega), va_up_ne _ _ (show i ≠ ids.length by omega)])
  refine ⟨?_, tc_co1 a2, s1, ?_, ?_, ?_, ?_⟩
  · refine tc_PF_new a1 g2.1 g2.2 (fun i hi him => ?_)
    have hio : i ≠ o := fun e => hi (e ▸ hoi)
    exact ⟨va_up_ne _ _ him, g4 i him, (k3 i him hio).1, (k3 i him hio).2, g5 i him⟩
  · rw [s2, List.length_append, List.length_singleton, o2, hz2, hll]
    show List.replicate (tc_tk x.1) _ ++ _ = List.replicate (tc_tk x.1) (some ids.length, va_up dq ids.length (dq j + 1) ids.length + 1, va_up bo ids.length _ ids.length) ++ _
    rw [va_up_self, va_up_self]
  · rw [List.map_append, List.map_cons, g3, ← a5]
    congr 1
    refine List.map_congr_left (fun i hi => ?_)
    have him : i ≠ m := fun e => hmn (e ▸ hi)
    exact tc_mn_up (va_up_ne _ _ him) (g4 i him) (g5 i him) (a3.2.2.1 _ (by rw [← a5]; exact List.mem_map_of_mem hi))
  · intro j' c hc
    rcases Nat.lt_or_ge j' ids.length with y | y
    · rw [List.getElem?_append_left y] at hc
      have hci : c ∈ ids := List.mem_of_getElem? hc
      have hcm : c ≠ m := fun e => hmn (e ▸ hci)
      obtain ⟨c1, c2, c3⟩ := a6 j' c hc
      rw [va_up_ne _ _ hcm, o2]
      by_cases e : c = o
      · have ej : j' = j := tc_nd_inj hnd hc (e ▸ o1)
        rw [ej, va_up_self, e, k1, List.length_append, List.length_singleton, ← b1]
        refine ⟨by omega, k4, fun v hv => ?_⟩
        rcases List.mem_append.mp hv with z | z
        · exact List.mem_append_left _ (b3 v z)
        · exact List.mem_append_right _ z
      · have ej : j' ≠ j := fun q => e (by rw [q, o1] at hc; exact (Option.some.inj hc).symm)
        rw [va_up_ne _ _ ej, va_up_ne _ _ (show j' ≠ ids.length by omega), hkne c hci e, (k3 c hcm e).1, (k3 c hcm e).2]
        exact ⟨c1, c2, fun v hv => List.mem_append_left _ (c3 v hv)⟩
    · rw [List.getElem?_append_right y] at hc
      have hj0 : j' - ids.length = 0 := by
        have := (List.getElem?_eq_some_iff.mp hc).1
        rw [List.length_singleton] at this
        omega
      rw [hj0] at hc
      have hc : m = c := by simpa using hc
      rw [← hc, show j' = ids.length by omega, k2, va_up_self, o2, va_up_ne _ _ (show ids.length ≠ j by omega), va_up_self]
      exact ⟨by simp, fun _ => k5, fun v hv => by cases hv⟩
  · rw [va_up_ne _ _ (show 0 ≠ ids.length by omega), List.length_append, List.length_singleton, o2, hz1, va_up_self]
    have hP := tc_lz_open (v := re) hj hz h0
    rw [hP, a2 j o o1] at a7
    rw [a2 j o o1]
    refine tc_Pt_s a7 hmn hoi (fun z hz => ?_) k1 k2 hkne
    rcases List.mem_append.mp hz with q | q
    · rw [(List.mem_replicate.mp q).2]
      exact hoi
    · obtain ⟨i, i1, i2⟩ := tc_lz_mem q
      obtain ⟨c, hc⟩ : ∃ c, ids[i]? = some c := ⟨_, List.getElem?_eq_getElem (by omega)⟩
      rw [i2, a2 i c hc]
      exact List.mem_of_getElem? hc
theorem tc_Rd_ln {L : List tc_Nd} {ids : List Nat} {m0 m1 : tc_St} {re dq bo lc : Nat → Nat} (h : tc_Rd L ids m0 m1 re dq bo lc) : L.length = ids.length := by
  obtain ⟨iu, ki, mu, fs, ss, tx⟩ := m1
  rw [← h.2.2.2.2.1, List.length_map]
theorem tc_Rd_RM {m0 : tc_St} {Ts : List (List tc_Nd)} {L : List tc_Nd} {ids : List Nat} {iug : Nat → Bool} {kig : Nat → Nat} {mug : Nat → Int64} {fsg ssg : Nat → Option Nat} {txg re dq bo lc : Nat → Nat} {us : Nat} {te : Nat → Nat} {my : Nat} (h : tc_Rd L ids m0 (iug, kig, mug, fsg, ssg, txg) re dq bo lc) (hz : ∀ i, i < ids.length → lc i = 0) (hn : 0 < ids.length) (hR : tc_RM Ts m0 us te my) : tc_RM (L :: Ts) (iug, kig, mug, fsg, ssg, txg) (us + ids.length) (va_up te my (re 0)) (my + 1) := by
  obtain ⟨iu, ki, mu, fs, ss, tx⟩ := m0
  obtain ⟨I, hI⟩ := hR
  have hokn := tc_RI_okn hI
  obtain ⟨a1, a2, a3, a4, a5, a6, a7, a8, a9⟩ := hI
  obtain ⟨⟨b1, b2, b3⟩, r1, r2, r3, r4, r5, r6⟩ := h
  have hout : ∀ i ∈ I.flatten, i ∉ ids := fun i hi q => by
    have h1 := (a3 i hi).2.1
    rw [(b2 i q).2.1] at h1
    cases h1
  have hfl : (ids :: I).flatten = ids ++ I.flatten := List.flatten_cons
  have hl0 : tc_lz lc re ids.length = [] := tc_lz_none hz
  have hp0 : tc_pd 0 [tc_q0] L = [] := r3.trans (tc_lz_none hz)
  rw [hl0] at r6
  refine ⟨ids :: I, ?_, ?_, ?_, ?_, ?_, ?_, ?_, ⟨?_, tc_rte_eq (fun i hi => ?_) a8⟩, ?_⟩
  · rw [List.map_cons, r4, a1]
    congr 1
    exact List.map_congr_left (fun l hd => List.map_congr_left (fun i hi => by
      have hi2 := List.mem_flatten.mpr ⟨l, hd, hi⟩
      obtain ⟨d0, d1, d2, d3, d4, d5⟩ := b3 i (hout i hi2)
      exact (tc_mn_up d1 d2 d5 (hokn i hi2)).symm))
  · intro l hd
    rcases List.mem_cons.mp hd with e | e
    · rw [e]
      exact ⟨_, tc_Pt_e r6⟩
    · obtain ⟨r, hr⟩ := a2 l e
      exact ⟨r, tc_Fo_eq (fun i hi => by
        have := b3 i (hout i (List.mem_flatten.mpr ⟨l, e, hi⟩))
        exact ⟨this.2.2.2.1, this.2.2.2.2.1⟩) hr⟩
  · intro i hi
    rw [hfl] at hi
    rcases List.mem_append.mp hi with q | q
    · obtain ⟨d1, d2, d3⟩ := b2 i q
      have hx := tc_gidx q
      obtain ⟨e1, e2, e3⟩ := r5 _ i hx
      rw [hz _ (List.getElem?_eq_some_iff.mp hx).1] at e1
      exact ⟨d1, d3, e1, e2⟩
    · obtain ⟨c1, c2, c3, c4⟩ := a3 i q
      obtain ⟨d0, d1, d2, d3, d4, d5⟩ := b3 i (hout i q)
      exact ⟨c1, by rw [d0]; exact c2, by unfold tc_kd; rw [d3, d4, d1]; exact c3, by rw [d3, d4]; exact c4⟩
  · intro i hi hu
    rw [hfl]
    by_cases q : i ∈ ids
    · exact List.mem_append_left _ q
    · rw [(b3 i q).1] at hu
      exact List.mem_append_right _ (a4 i hi hu)
  · rw [hfl]
    exact List.nodup_append.mpr ⟨b1, a5, fun x hx y hy e => hout y hy (e ▸ hx)⟩
  · rw [hfl, List.length_append, ← a6]
    omega
  · rw [a7]; rfl
  · rw [show I.length = my from a7.symm, va_up_self]
    match ids, hn, r1 with
    | a :: cs', _, r1 => exact congrArg some (r1 0 a rfl).symm
  · rw [va_up_ne _ _ (by omega)]
  · intro t ht
    rcases List.mem_cons.mp ht with e | e
    · rw [e]
      obtain ⟨w1, w2, w3, w4⟩ := r2
      rw [hp0] at w1
      exact tc_read_okt w1 w2 w3
    · exact a9 t e
theorem tc_PF_RM {m0 : tc_St} {Ts : List (List tc_Nd)} {js : List Nat} {iug iuh : Nat → Bool} {kig : Nat → Nat} {mug : Nat → Int64} {fsg ssg : Nat → Option Nat} {txg : Nat → Nat} {us : Nat} {te : Nat → Nat} {my : Nat} (h : tc_PF js m0 (iug, kig, mug, fsg, ssg, txg)) (h1 : ∀ i, i ∈ js → iuh i = false) (h2 : ∀ i, i ∉ js → iuh i = iug i) (hR : tc_RM Ts m0 us te my) : tc_RM Ts (iuh, kig, mug, fsg, ssg, txg) us te my := by
  obtain ⟨iu, ki, mu, fs, ss, tx⟩ := m0
  obtain ⟨I, hI⟩ := hR
  have hokn := tc_RI_okn hI
  obtain ⟨a1, a2, a3, a4, a5, a6, a7, a8, a9⟩ := hI
  obtain ⟨b1, b2, b3⟩ := h
  have hout : ∀ i ∈ I.flatten, i ∉ js := fun i hi q => by
    have h1 := (a3 i hi).2.1
    rw [(b2 i q).2.1] at h1
    cases h1
  refine ⟨I, ?_, ?_, ?_, ?_, a5, a6, a7, a8, a9⟩
  · rw [a1]
    exact List.map_congr_left (fun l hd => List.map_congr_left (fun i hi => by
      have hi2 := List.mem_flatten.mpr ⟨l, hd, hi⟩
      obtain ⟨d0, d1, d2, d3, d4, d5⟩ := b3 i (hout i hi2)
      exact (tc_mn_up d1 d2 d5 (hokn i hi2)).symm))
  · intro l e
    obtain ⟨r, hr⟩ := a2 l e
    exact ⟨r, tc_Fo_eq (fun i hi => by
      have := b3 i (hout i (List.mem_flatten.mpr ⟨l, e, hi⟩))
      exact ⟨this.2.2.2.1, this.2.2.2.2.1⟩) hr⟩
  · intro i q
    obtain ⟨c1, c2, c3, c4⟩ := a3 i q
    obtain ⟨d0, d1, d2, d3, d4, d5⟩ := b3 i (hout i q)
    exact ⟨c1, by rw [h2 i (hout i q), d0]; exact c2, by unfold tc_kd; rw [d3, d4, d1]; exact c3, by rw [d3, d4]; exact c4⟩
  · intro i hi hu
    by_cases q : i ∈ js
    · rw [h1 i q] at hu
      cases hu
    · rw [h2 i q, (b3 i q).1] at hu
      exact a4 i hi hu
theorem tc_PF_len {m0 m1 : tc_St} {js : List Nat} (h : tc_PF js m0 m1) : js.length ≤ 200 ∧ ∀ c ∈ js, c < 200 := by
  obtain ⟨iu, ki, mu, fs, ss, tx⟩ := m0
  obtain ⟨iug, kig, mug, fsg, ssg, txg⟩ := m1
  exact ⟨tc_nodup_len 200 js h.1 (fun c hc => (h.2.1 c hc).1), fun c hc => (h.2.1 c hc).1⟩
theorem tc_PF_free {m0 : tc_St} {Ts : List (List tc_Nd)} {ids : List Nat} {iug : Nat → Bool} {kig : Nat → Nat} {mug : Nat → Int64} {fsg ssg : Nat → Option Nat} {txg : Nat → Nat} {us : Nat} {te : Nat → Nat} {my : Nat} (h : tc_PF ids m0 (iug, kig, mug, fsg, ssg, txg)) (hR : tc_RM Ts m0 us te my) (hl : us + ids.length < 200) : ∃ k, k < 200 ∧ iug k = false := by
  obtain ⟨iu, ki, mu, fs, ss, tx⟩ := m0
  obtain ⟨I, hI⟩ := hR
  obtain ⟨a1, a2, a3, a4, a5, a6, a7, a8, a9⟩ := hI
  obtain ⟨b1, b2, b3⟩ := h
  apply Classical.byContradiction
  intro hno
  have ha : ∀ k, k < 200 → iug k = true := fun k hk => by
    cases hq : iug k with
    | true => rfl
    | false => exact absurd ⟨k, hk, hq⟩ hno
  have := tc_sub_len (List.range 200) (ids ++ I.flatten) List.nodup_range (fun x hx => by
    have hx := List.mem_range.mp hx
    by_cases q : x ∈ ids
    · exact List.mem_append_left _ q
    · refine List.mem_append_right _ (a4 x hx ?_)
      rw [← (b3 x q).1]
      exact ha x hx)
  rw [List.length_range, List.length_append, ← a6] at this
  omega
theorem tc_PF_us {m0 : tc_St} {Ts : List (List tc_Nd)} {ids : List Nat} {m1 : tc_St} {us : Nat} {te : Nat → Nat} {my : Nat} (h : tc_PF ids m0 m1) (hR : tc_RM Ts m0 us te my) : us + ids.length ≤ 200 := by
  obtain ⟨iu, ki, mu, fs, ss, tx⟩ := m0
  obtain ⟨iug, kig, mug, fsg, ssg, txg⟩ := m1
  obtain ⟨I, hI⟩ := hR
  obtain ⟨a1, a2, a3, a4, a5, a6, a7, a8, a9⟩ := hI
  obtain ⟨b1, b2, b3⟩ := h
  have := tc_nodup_len 200 (ids ++ I.flatten) (List.nodup_append.mpr ⟨b1, a5, fun x hx y hy e => by
    have h1 := (a3 y hy).2.1
    rw [← e, (b2 x hx).2.1] at h1
    cases h1⟩) (fun i hi => by
    rcases List.mem_append.mp hi with q | q
    · exact (b2 i q).1
    · exact (a3 i q).1)
  rw [List.length_append, ← a6] at this
  omega
theorem tc_Rd_at {L : List tc_Nd} {ids : List Nat} {m0 : tc_St} {iu : Nat → Bool} {ki : Nat → Nat} {mu : Nat → Int64} {fs ss : Nat → Option Nat} {tx re dq bo lc : Nat → Nat} {j : Nat} (h : tc_Rd L ids m0 (iu, ki, mu, fs, ss, tx) re dq bo lc) (hj : j < ids.length) : ∃ o, ids[j]? = some o ∧ (∀ v, fs o = some v → v < 200) ∧ o < 200 ∧ lc j ≤ 2 := by
  obtain ⟨a1, a2, a3, a4, a5, a6, a7⟩ := h
  obtain ⟨o, ho⟩ : ∃ o, ids[j]? = some o := ⟨_, List.getElem?_eq_getElem hj⟩
  obtain ⟨b1, b2, b3⟩ := a6 j o ho
  have hl := (tc_PF_len a1).2
  have ht := tc_tk_le (ki o)
  exact ⟨o, ho, fun v hv => hl v (b3 v (tc_kd_mem.mpr (Or.inl hv))), hl o (List.mem_of_getElem? ho), by omega⟩
theorem tc_Rd_q {L : List tc_Nd} {ids : List Nat} {m0 m1 : tc_St} {re dq bo lc : Nat → Nat} {j : Nat} (h : tc_Rd L ids m0 m1 re dq bo lc) (hj : j < ids.length) (hz : ∀ i, j < i → i < ids.length → lc i = 0) (h0 : 0 < lc j) : dq j + 1 ≤ 61 ∧ bo j ≤ dq j + 1 := by
  have h1 := h.2.2.1.2.2.2 (some j, dq j + 1, bo j) (by rw [tc_Rd_pd h hj hz h0]; exact List.mem_cons_self)
  exact ⟨h1.2, h1.1⟩
theorem tc_rL_pd {B : Nat → Nat} {n nd p nw : Nat} {L : List tc_Nd} {x : tc_Nd} {q : tc_Q} {st : List tc_Q} (hp : tc_pd 0 [tc_q0] L = q :: st) (hl : L.length < 202) (g : tc_rN B n p q.2.1 q.2.2 (nd + L.length) = .inr (x, nw)) : tc_rL B n nd (202 - L.length) p (tc_pd 0 [tc_q0] L) L = tc_rL B n nd (202 - (L ++ [x]).length) nw (tc_pd 0 [tc_q0] (L ++ [x])) (L ++ [x]) := by
  rw [hp, tc_rL_s (by omega) g, tc_pd_app, hp, tc_pd_cons, tc_pd_nil, Nat.zero_add, List.length_append, List.length_singleton, show 202 - L.length - 1 = 202 - (L.length + 1) by omega]
theorem tc_lc0 {x : Nat} (h : x ≤ 2) : nI x = 0 ↔ x = 0 := by
  have : x = 0 ∨ x = 1 ∨ x = 2 := by omega
  rcases this with rfl | rfl | rfl <;> decide
theorem tc_Rd_lc {L : List tc_Nd} {ids : List Nat} {m0 : tc_St} {iu : Nat → Bool} {ki : Nat → Nat} {mu : Nat → Int64} {fs ss : Nat → Option Nat} {tx re dq bo lc : Nat → Nat} (h : tc_Rd L ids m0 (iu, ki, mu, fs, ss, tx) re dq bo lc) : ∀ i, i < ids.length → lc i ≤ 2 := fun i hi => by
  obtain ⟨o, h1, h2, h3, h4⟩ := tc_Rd_at h hi
  exact h4
