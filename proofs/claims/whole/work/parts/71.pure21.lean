/-! PURE 21: a node more in the store. -/
theorem tc_sub_len : ∀ (l1 l2 : List Nat), l1.Nodup → (∀ x ∈ l1, x ∈ l2) → l1.length ≤ l2.length
  | [], _, _, _ => Nat.zero_le _
  | a :: l1, l2, hd, hs => by
    have h1 := tc_sub_len l1 (l2.erase a) (List.nodup_cons.mp hd).2 (fun x hx => by
      have hne : x ≠ a := fun e => (List.nodup_cons.mp hd).1 (e ▸ hx)
      exact (List.mem_erase_of_ne hne).mpr (hs x (List.mem_cons_of_mem _ hx)))
    have h2 := hs a List.mem_cons_self
    rw [List.length_erase_of_mem h2] at h1
    have h3 := List.length_pos_of_mem h2
    rw [List.length_cons]
    omega
theorem tc_RM_free {Ts : List (List tc_Nd)} {iu : Nat → Bool} {ki : Nat → Nat} {mu : Nat → Int64} {fs ss : Nat → Option Nat} {tx : Nat → Nat} {us : Nat} {te : Nat → Nat} {my : Nat} (h : tc_RM Ts (iu, ki, mu, fs, ss, tx) us te my) (h0 : us < 200) : ∃ k, k < 200 ∧ iu k = false := by
  obtain ⟨I, h⟩ := h
  obtain ⟨h1, h2, h3, h4, h5, h6, h7, h8, h9⟩ := h
  apply Classical.byContradiction
  intro hn
  have ha : ∀ i, i < 200 → iu i = true := by
    intro i hi
    cases hb : iu i with
    | true => rfl
    | false => exact absurd ⟨i, hi, hb⟩ hn
  have := tc_sub_len (List.range 200) I.flatten List.nodup_range (fun x hx => h4 x (List.mem_range.mp hx) (ha x (List.mem_range.mp hx)))
  rw [List.length_range] at this
  omega
noncomputable def tc_nk (kd : Int32) (x : Int64) : Option Nat := if 0 ≤ kd.toInt ∧ kd.toInt ≤ 11 ∧ kd.toInt ≠ 8 ∧ tc_fit kd.toInt.toNat x = true then some kd.toInt.toNat else none
theorem tc_nk_lo {kd : Int32} {x : Int64} (h : kd < 0) : tc_nk kd x = none := by
  refine if_neg (fun q => ?_)
  have := Int32.lt_iff_toInt_lt.mp h
  have : (0 : Int32).toInt = 0 := rfl
  omega
theorem tc_nk_no {k : Nat} {x : Int64} (hk : k < 2 ^ 31) (h : 11 < k ∨ k = 8 ∨ tc_fit k x = false) : tc_nk (nI k) x = none := by
  refine if_neg (fun q => ?_)
  rw [nI_toInt hk, Int.toNat_natCast] at q
  rcases h with h | h | h
  · omega
  · omega
  · rw [h] at q
    exact absurd q.2.2.2 (by decide)
theorem tc_nk_in {k : Nat} {x : Int64} (hk : k ≤ 11) (h8 : ¬ k = 8) (h : tc_fit k x = true) : tc_nk (nI k) x = some k := by
  unfold tc_nk
  rw [nI_toInt (by omega), Int.toNat_natCast, if_pos ⟨by omega, by omega, by omega, h⟩]
def tc_dm (Ts : List (List tc_Nd)) (n : Nat) : Nat := ((Ts.take n).map tc_dp).foldr max 0
theorem tc_dm_s {Ts : List (List tc_Nd)} {k : Nat} {t : List tc_Nd} (h : Ts[k]? = some t) : tc_dm Ts (k + 1) = max (tc_dm Ts k) (tc_dp t) := by
  unfold tc_dm
  have h1 : Ts.take (k + 1) = Ts.take k ++ [t] := by
    rw [List.take_add_one, h]
    rfl
  rw [h1, List.map_append]
  have key : ∀ (l : List Nat) (d : Nat), (l ++ [d]).foldr max 0 = max (l.foldr max 0) d := by
    intro l d
    induction l with
    | nil => show max d 0 = max 0 d; omega
    | cons a l ih => show max a ((l ++ [d]).foldr max 0) = max (max a (l.foldr max 0)) d; rw [ih]; omega
  exact key _ _
theorem tc_rte_at {te : Nat → Nat} : ∀ {I : List (List Nat)} {k : Nat} {ids : List Nat}, tc_rte te I → I[k]? = some ids → ids.head? = some (te (I.length - 1 - k))
  | [], k, ids, _, hk => by simp at hk
  | a :: R, 0, ids, h, hk => by
    obtain rfl : a = ids := by simpa using hk
    rw [h.1]
    rfl
  | a :: R, k + 1, ids, h, hk => by
    have := tc_rte_at (k := k) h.2 (by simpa using hk)
    rw [this, List.length_cons, show R.length + 1 - 1 - (k + 1) = R.length - 1 - k by omega]
theorem tc_RM_nth {Ts : List (List tc_Nd)} {iu : Nat → Bool} {ki : Nat → Nat} {mu : Nat → Int64} {fs ss : Nat → Option Nat} {tx : Nat → Nat} {us : Nat} {te : Nat → Nat} {my : Nat} (h : tc_RM Ts (iu, ki, mu, fs, ss, tx) us te my) {k : Nat} (h0 : k < my) : ∃ ids, Ts[k]? = some (ids.map (tc_mn ki mu tx)) ∧ tc_Hg fs ss ki (te (my - 1 - k)) ids ∧ tc_okt (ids.map (tc_mn ki mu tx)) := by
  obtain ⟨I, h⟩ := h
  have h1 := h.1
  have h7 := h.2.2.2.2.2.2.1
  have h8 := h.2.2.2.2.2.2.2.1
  obtain ⟨ids, hi⟩ : ∃ ids, I[k]? = some ids := ⟨_, List.getElem?_eq_getElem (by omega)⟩
  have hT : Ts[k]? = some (ids.map (tc_mn ki mu tx)) := by rw [h1, List.getElem?_map, hi]; rfl
  exact ⟨ids, hT, tc_RI_Hg h (List.mem_of_getElem? hi) (by rw [tc_rte_at h8 hi, h7]), h.2.2.2.2.2.2.2.2 _ (List.mem_of_getElem? hT)⟩
theorem tc_rte_tl {te : Nat → Nat} : ∀ {P J : List (List Nat)}, tc_rte te (P ++ J) → tc_rte te J
  | [], _, h => h
  | _ :: P, _, h => tc_rte_tl (P := P) h.2
theorem tc_mn_ne {ki : Nat → Nat} {mu : Nat → Int64} {tx : Nat → Nat} {n k i : Nat} {x : Int64} (h : i ≠ n) : tc_mn (va_up ki n k) (vp_updL mu n x) tx i = tc_mn ki mu tx i := by
  unfold tc_mn
  rw [va_up_ne _ _ h, pk_uLn h]
theorem tc_mn_self {ki : Nat → Nat} {mu : Nat → Int64} {tx : Nat → Nat} {n k : Nat} {x : Int64} (hk : k ≠ 8 ∨ x = 0) : tc_mn (va_up ki n k) (vp_updL mu n x) tx n = (k, x, []) := by
  unfold tc_mn
  rw [va_up_self, pk_uLs]
  split
  · rename_i h
    rcases hk with q | q
    · exact absurd h q
    · rw [q]; rfl
  · rfl
theorem tc_RI_new {P J : List (List Nat)} {Ts : List (List tc_Nd)} {iu : Nat → Bool} {ki : Nat → Nat} {mu : Nat → Int64} {fs ss fs' ss' : Nat → Option Nat} {tx : Nat → Nat} {us : Nat} {te te' : Nat → Nat} {my my' n k : Nat} {x : Int64} {F : List Nat} (h : tc_RI (P ++ J) Ts (iu, ki, mu, fs, ss, tx) us te my) (hn : n < 200) (hu : iu n = false) (hk : k ≠ 8 ∨ x = 0) (hF : F.Perm P.flatten) (hfo : tc_Fo fs' ss' [n] (n :: F)) (hfs : ∀ i, i ≠ n → fs' i = fs i ∧ ss' i = ss i) (hns : fs' n = none → ss' n = none) (hkl : (tc_kd fs' ss' n).length = tc_tk k) (hok : tc_okt ((k, x, []) :: F.map (tc_mn ki mu tx))) (ht : te' J.length = n) (hte : ∀ i, i < J.length → te' i = te i) (hmy : my' = J.length + 1) :
    tc_RI ((n :: F) :: J) (((k, x, []) :: F.map (tc_mn ki mu tx)) :: Ts.drop P.length) (va_up iu n true, va_up ki n k, vp_updL mu n x, fs', ss', tx) (us + 1) te' my' := by
  obtain ⟨h1, h2, h3, h4, h5, h6, h7, h8, h9⟩ := h
  have hnot : n ∉ (P ++ J).flatten := fun hm => by
    have := (h3 n hm).2.1
    rw [hu] at this
    cases this
  have hfl : (P ++ J).flatten = P.flatten ++ J.flatten := List.flatten_append
  have hinF : ∀ i ∈ F, i ∈ (P ++ J).flatten := fun i hi => by rw [hfl]; exact List.mem_append_left _ (hF.mem_iff.mp hi)
  have hinJ : ∀ ids ∈ J, ∀ i ∈ ids, i ∈ (P ++ J).flatten := fun ids hd i hi => by rw [hfl]; exact List.mem_append_right _ (List.mem_flatten.mpr ⟨ids, hd, hi⟩)
  have hne : ∀ i ∈ (P ++ J).flatten, i ≠ n := fun i hi e => hnot (e ▸ hi)
  have hmF : ((n :: F).map (tc_mn (va_up ki n k) (vp_updL mu n x) tx)) = (k, x, []) :: F.map (tc_mn ki mu tx) := by
    rw [List.map_cons, tc_mn_self hk]
    congr 1
    exact List.map_congr_left (fun i hi => tc_mn_ne (hne i (hinF i hi)))
  have hdrop : Ts.drop P.length = J.map (fun ids => ids.map (tc_mn (va_up ki n k) (vp_updL mu n x) tx)) := by
    rw [h1, List.map_append, List.drop_append_of_le_length (by simp), List.drop_of_length_le (by simp), List.nil_append]
    exact List.map_congr_left (fun ids hd => List.map_congr_left (fun i hi => (tc_mn_ne (hne i (hinJ ids hd i hi))).symm))
  have hkd : ∀ i, i ≠ n → tc_kd fs' ss' i = tc_kd fs ss i := fun i hi => by unfold tc_kd; rw [(hfs i hi).1, (hfs i hi).2]
  have hcons : ((n :: F) :: J).flatten = n :: (F ++ J.flatten) := by rw [List.flatten_cons, List.cons_append]
  have hperm : (F ++ J.flatten).Perm (P ++ J).flatten := by rw [hfl]; exact hF.append_right _
  refine ⟨?_, ?_, ?_, ?_, ?_, ?_, ?_, ?_, ?_⟩
  · rw [List.map_cons, hmF, hdrop]
  · intro ids hd
    rcases List.mem_cons.mp hd with rfl | hd
    · exact ⟨n, hfo⟩
    · obtain ⟨r, hr⟩ := h2 ids (List.mem_append_right _ hd)
      exact ⟨r, tc_Fo_eq (fun i hi => hfs i (hne i (hinJ ids hd i hi))) hr⟩
  · intro i hi
    rw [hcons] at hi
    rcases List.mem_cons.mp hi with rfl | hi
    · exact ⟨hn, va_up_self _ _ _, by rw [va_up_self]; exact hkl, hns⟩
    · have hi2 := hperm.mem_iff.mp hi
      obtain ⟨a1, a2, a3, a4⟩ := h3 i hi2
      have hin := hne i hi2
      exact ⟨a1, by rw [va_up_ne _ _ hin]; exact a2, by rw [va_up_ne _ _ hin, hkd i hin]; exact a3, by rw [(hfs i hin).1, (hfs i hin).2]; exact a4⟩
  · intro i hi hiu
    rw [hcons]
    by_cases e : i = n
    · rw [e]; exact List.mem_cons_self
    · rw [va_up_ne _ _ e] at hiu
      exact List.mem_cons_of_mem _ (hperm.mem_iff.mpr (h4 i hi hiu))
  · rw [hcons]
    exact List.nodup_cons.mpr ⟨fun hm => hnot (hperm.mem_iff.mp hm), hperm.nodup_iff.mpr h5⟩
  · rw [hcons, List.length_cons, hperm.length_eq, ← h6]
  · rw [hmy]; rfl
  · exact ⟨by rw [ht]; rfl, tc_rte_eq hte (tc_rte_tl h8)⟩
  · intro t htm
    rcases List.mem_cons.mp htm with rfl | htm
    · exact hok
    · exact h9 t (List.mem_of_mem_drop htm)
theorem tc_RM_put0 {Ts : List (List tc_Nd)} {iu : Nat → Bool} {ki : Nat → Nat} {mu : Nat → Int64} {fs ss : Nat → Option Nat} {tx : Nat → Nat} {us : Nat} {te : Nat → Nat} {my n k : Nat} {x : Int64} (h : tc_RM Ts (iu, ki, mu, fs, ss, tx) us te my) (hn : n < 200) (hu : iu n = false) (hk : k ≠ 8 ∨ x = 0) (hx : tc_okn (k, x, [])) (ht : tc_tk k = 0) : tc_RM ([(k, x, [])] :: Ts) (va_up iu n true, va_up ki n k, vp_updL mu n x, va_up fs n none, va_up ss n none, tx) (us + 1) (va_up te my n) (my + 1) := by
  have hmy := (tc_RM_us h).2.2.1
  obtain ⟨I, h⟩ := h
  have h7 := h.2.2.2.2.2.2.1
  have hkd : tc_kd (va_up fs n none) (va_up ss n none) n = [] := by unfold tc_kd; rw [va_up_self, va_up_self]; rfl
  have := tc_RI_new (P := []) (J := I) (F := []) (te' := va_up te my n) (my' := my + 1) h hn hu hk (List.Perm.refl _) (fs' := va_up fs n none) (ss' := va_up ss n none) ⟨rfl, by rw [hkd]; trivial⟩ (fun i hi => ⟨va_up_ne _ _ hi, va_up_ne _ _ hi⟩) (fun _ => va_up_self _ _ _) (by rw [hkd, ht]; rfl) ⟨⟨by decide, by show tc_wf (1 - 1 + tc_tk k) []; rw [ht]; rfl⟩, by show tc_dp [(k, x, [])] ≤ 60; rw [tc_dp0 (x := (k, x, [])) ht]; decide, fun y hy => by rcases List.mem_cons.mp hy with rfl | hy; exact hx; cases hy⟩ (by rw [h7]; exact va_up_self _ _ _) (fun i hi => va_up_ne _ _ (by omega)) (by rw [h7])
  exact ⟨_, this⟩
theorem tc_RM_put1 {t : List tc_Nd} {R : List (List tc_Nd)} {iu : Nat → Bool} {ki : Nat → Nat} {mu : Nat → Int64} {fs ss : Nat → Option Nat} {tx : Nat → Nat} {us : Nat} {te : Nat → Nat} {my n k : Nat} {x : Int64} (h : tc_RM (t :: R) (iu, ki, mu, fs, ss, tx) us te my) (hn : n < 200) (hu : iu n = false) (hk : k ≠ 8 ∨ x = 0) (hx : tc_okn (k, x, [])) (ht : tc_tk k = 1) (hd : tc_dp t < 60) : tc_RM ((((k, x, []) : tc_Nd) :: t) :: R) (va_up iu n true, va_up ki n k, vp_updL mu n x, va_up (va_up fs n none) n (some (te (my - 1))), va_up ss n none, tx) (us + 1) (va_up te (my - 1) n) (my - 1 + 1) := by
  obtain ⟨ids, I, R', e, hI, hg, hmy⟩ := tc_RM_top h (by have := (tc_RM_us h).2.2.1; rw [List.length_cons] at this; omega)
  injection e with e1 e2
  subst e1 e2
  have hok : tc_okt (ids.map (tc_mn ki mu tx)) := hI.2.2.2.2.2.2.2.2 _ List.mem_cons_self
  have hin : ∀ i ∈ ids, i ≠ n := fun i hi e => by
    have := (hI.2.2.1 i (List.mem_append_left _ hi)).2.1
    rw [e, hu] at this
    cases this
  have hkd : tc_kd (va_up (va_up fs n none) n (some (te (my - 1)))) (va_up ss n none) n = [te (my - 1)] := by unfold tc_kd; rw [va_up_self, va_up_self]; rfl
  have := tc_RI_new (P := [ids]) (J := I) (F := ids) (te' := va_up te (my - 1) n) (my' := my - 1 + 1) hI hn hu hk (by simp) (fs' := va_up (va_up fs n none) n (some (te (my - 1)))) (ss' := va_up ss n none) ⟨rfl, by rw [hkd]; exact tc_Fo_eq (fun i hi => ⟨by rw [va_up_ne _ _ (hin i hi), va_up_ne _ _ (hin i hi)], va_up_ne _ _ (hin i hi)⟩) hg.1⟩ (fun i hi => ⟨by rw [va_up_ne _ _ hi, va_up_ne _ _ hi], va_up_ne _ _ hi⟩) (fun _ => va_up_self _ _ _) (by rw [hkd, ht]; rfl) ⟨⟨by decide, by show tc_wf (1 - 1 + tc_tk k) _; rw [ht]; exact hok.1⟩, by rw [tc_dp1 (x := (k, x, [])) ht hok.1]; omega, fun y hy => by rcases List.mem_cons.mp hy with rfl | hy; exact hx; exact hok.2.2 y hy⟩ (by rw [show I.length = my - 1 by omega]; exact va_up_self _ _ _) (fun i hi => va_up_ne _ _ (by omega)) (by omega)
  exact ⟨_, this⟩
theorem tc_RM_put2 {t t1 : List tc_Nd} {R : List (List tc_Nd)} {iu : Nat → Bool} {ki : Nat → Nat} {mu : Nat → Int64} {fs ss : Nat → Option Nat} {tx : Nat → Nat} {us : Nat} {te : Nat → Nat} {my n k : Nat} {x : Int64} (h : tc_RM (t :: t1 :: R) (iu, ki, mu, fs, ss, tx) us te my) (hn : n < 200) (hu : iu n = false) (hk : k ≠ 8 ∨ x = 0) (hx : tc_okn (k, x, [])) (ht : tc_tk k = 2) (hd : tc_dp t < 60) (hd1 : tc_dp t1 < 60) : tc_RM ((((k, x, []) : tc_Nd) :: (t1 ++ t)) :: R) (va_up iu n true, va_up ki n k, vp_updL mu n x, va_up (va_up fs n none) n (some (te (my - 1 - 1))), va_up (va_up ss n none) n (some (te (my - 1))), tx) (us + 1) (va_up te (my - 1 - 1) n) (my - 1 - 1 + 1) := by
  obtain ⟨ids, I, R', e, hI, hg, hmy⟩ := tc_RM_top h (by have := (tc_RM_us h).2.2.1; rw [List.length_cons] at this; omega)
  injection e with e1 e2
  subst e1
  have hT : (t1 :: R) = I.map (fun ids => ids.map (tc_mn ki mu tx)) := by
    have z := hI.1
    rw [List.map_cons] at z
    injection z with _ z
    rw [e2, z]
  match I, hT with
  | ids1 :: J, hT =>
    rw [List.map_cons] at hT
    injection hT with a1 a2
    subst a1
    rw [← e2] at hI
    have hok : tc_okt (ids.map (tc_mn ki mu tx)) := hI.2.2.2.2.2.2.2.2 _ List.mem_cons_self
    have hok1 : tc_okt (ids1.map (tc_mn ki mu tx)) := hI.2.2.2.2.2.2.2.2 _ (List.mem_cons_of_mem _ List.mem_cons_self)
    have hg1 : tc_Hg fs ss ki (te (my - 1 - 1)) ids1 := tc_RI_Hg hI (List.mem_cons_of_mem _ List.mem_cons_self) (by have z := tc_rte_at (k := 1) hI.2.2.2.2.2.2.2.1 rfl; rw [z, hmy]; rfl)
    have hin : ∀ i ∈ ids1 ++ ids, i ≠ n := fun i hi e => by
      have := (hI.2.2.1 i (by
        rcases List.mem_append.mp hi with q | q
        · exact List.mem_append_right _ (List.mem_append_left _ q)
        · exact List.mem_append_left _ q)).2.1
      rw [e, hu] at this
      cases this
    have hkd : tc_kd (va_up (va_up fs n none) n (some (te (my - 1 - 1)))) (va_up (va_up ss n none) n (some (te (my - 1)))) n = [te (my - 1 - 1)] ++ [te (my - 1)] := by unfold tc_kd; rw [va_up_self, va_up_self]; rfl
    have hFo : tc_Fo fs ss ([te (my - 1 - 1)] ++ [te (my - 1)]) (ids1 ++ ids) := tc_Fo_app hg1.1 hg.1
    have := tc_RI_new (P := [ids, ids1]) (J := J) (F := ids1 ++ ids) (te' := va_up te (my - 1 - 1) n) (my' := my - 1 - 1 + 1) hI hn hu hk (by rw [show [ids, ids1].flatten = ids ++ ids1 by simp]; exact List.perm_append_comm) (fs' := va_up (va_up fs n none) n (some (te (my - 1 - 1)))) (ss' := va_up (va_up ss n none) n (some (te (my - 1)))) ⟨rfl, by rw [hkd, List.append_nil]; exact tc_Fo_eq (fun i hi => ⟨by rw [va_up_ne _ _ (hin i hi), va_up_ne _ _ (hin i hi)], by rw [va_up_ne _ _ (hin i hi), va_up_ne _ _ (hin i hi)]⟩) hFo⟩ (fun i hi => ⟨by rw [va_up_ne _ _ hi, va_up_ne _ _ hi], by rw [va_up_ne _ _ hi, va_up_ne _ _ hi]⟩) (fun z => by rw [va_up_self] at z; cases z) (by rw [hkd, ht]; rfl) (by
        rw [List.map_append]
        exact ⟨⟨by decide, by show tc_wf (1 - 1 + tc_tk k) _; rw [ht]; have z := tc_wf_app hok1.1 hok.1; exact z⟩, by rw [tc_dp2 (x := (k, x, [])) ht hok1.1 hok.1]; omega, fun y hy => by
          rcases List.mem_cons.mp hy with rfl | hy
          · exact hx
          · rcases List.mem_append.mp hy with hy | hy
            · exact hok1.2.2 y hy
            · exact hok.2.2 y hy⟩) (by rw [show J.length = my - 1 - 1 by rw [hmy]; rfl]; exact va_up_self _ _ _) (fun i hi => va_up_ne _ _ (by rw [hmy]; show i ≠ J.length; omega)) (by rw [hmy]; rfl)
    rw [List.map_append] at this
    exact ⟨_, this⟩
theorem tc_fa_o {k : Nat} {x : Int64} (h7 : ¬ k = 7) (h0 : ¬ k = 0) (h6 : ¬ k = 6) (h9 : ¬ k = 9) (h8 : ¬ k = 8) : tc_fitP k x ↔ x = 0 := by
  unfold tc_fitP
  rw [if_neg h0, if_neg h6, if_neg h7, if_neg h8, if_neg h9]
theorem tc_fa_7 {k : Nat} {x : Int64} (h : k = 7) : tc_fitP k x := by subst h; exact trivial
theorem tc_fa_9 {k : Nat} {x : Int64} (h : k = 9) : tc_fitP k x ↔ (x = 0 ∨ x = 1) := by subst h; exact Iff.rfl
theorem tc_fa_6 {k : Nat} {x : Int64} (h : k = 6) : tc_fitP k x ↔ (0 ≤ x ∧ x ≤ 31) := by subst h; exact Iff.rfl
theorem tc_fa_0 {k : Nat} {x : Int64} (h : k = 0) : tc_fitP k x ↔ (1 ≤ x ∧ x ≤ 200) := by subst h; exact Iff.rfl
theorem tc_dm_1 {t : List tc_Nd} {R : List (List tc_Nd)} : tc_dm (t :: R) 1 = tc_dp t := by
  show max (tc_dp t) 0 = _
  omega
theorem tc_dm_2 {t t1 : List tc_Nd} {R : List (List tc_Nd)} : tc_dm (t :: t1 :: R) 2 = max (tc_dp t) (tc_dp t1) := by
  show max (tc_dp t) (max (tc_dp t1) 0) = _
  omega
theorem tc_len1 {α : Type} {l : List α} (h : 1 ≤ l.length) : ∃ a R, l = a :: R := by
  match l, h with
  | a :: R, _ => exact ⟨a, R, rfl⟩
theorem tc_len2 {α : Type} {l : List α} (h : 2 ≤ l.length) : ∃ a b R, l = a :: b :: R := by
  match l, h with
  | a :: b :: R, _ => exact ⟨a, b, R, rfl⟩
  | [a], h => exact absurd h (by simp)
theorem tc_RM_okt {Ts : List (List tc_Nd)} {m : tc_St} {us : Nat} {te : Nat → Nat} {my : Nat} (h : tc_RM Ts m us te my) : ∀ t ∈ Ts, tc_okt t := by
  obtain ⟨I, h⟩ := h
  obtain ⟨iu, ki, mu, fs, ss, tx⟩ := m
  exact h.2.2.2.2.2.2.2.2
