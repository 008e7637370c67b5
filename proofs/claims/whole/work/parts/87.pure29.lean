/-! PURE 29: what is asked of a term. -/
theorem tc_nth_neg {Ts : List (List tc_Nd)} {k : Int32} (h : k < 0) : tc_nth Ts k = none := by
  match Ts with
  | [] => rfl
  | t :: R =>
    have h1 : k.toInt < (0 : Int32).toInt := Int32.lt_iff_toInt_lt.mp h
    have h2 : (0 : Int32).toInt = 0 := rfl
    exact if_neg (fun q => by omega)
theorem tc_nth_big {t : List tc_Nd} {R : List (List tc_Nd)} {j : Nat} (h : t.length ≤ j) (hj : j < 2 ^ 31) : tc_nth (t :: R) (nI j) = none := by
  refine if_neg (fun q => ?_)
  rw [nI_toInt hj] at q
  omega
def tc_nba (Ts : List (List tc_Nd)) (k : Int32) : Option Int64 := match Ts with
  | [] => none
  | t :: R => match tc_nth (t :: R) k with
    | none => none
    | some j => match t[j]? with
      | none => none
      | some x => if tc_num x.1 = true then some x.2.1 else none
theorem tc_nba_none {Ts : List (List tc_Nd)} {k : Int32} (h : tc_nth Ts k = none) : tc_nba Ts k = none := by
  match Ts, h with
  | [], _ => rfl
  | t :: R, h =>
    simp only [tc_nba, h]
theorem tc_nba_some {t : List tc_Nd} {R : List (List tc_Nd)} {k : Int32} {q : Nat} {x : tc_Nd} (h : tc_nth (t :: R) k = some q) (hd : t[q]? = some x) : tc_nba (t :: R) k = if tc_num x.1 = true then some x.2.1 else none := by
  simp only [tc_nba, h, hd]
def tc_sm (Ts : List (List tc_Nd)) : Option Bool := match Ts with
  | t :: t1 :: _ => some (decide (t1 = t))
  | _ => none
theorem tc_sm_no {Ts : List (List tc_Nd)} (h : Ts.length < 2) : tc_sm Ts = none := by
  match Ts, h with
  | [], _ => rfl
  | [t], _ => rfl
  | t :: t1 :: R, h => simp only [List.length_cons] at h; omega
theorem tc_ml_take {A : List tc_Nd} {F : List tc_Q} {c : Nat} : ∀ {n : Nat} {x : tc_Nd} {e : tc_Q}, A[n]? = some x → F[n]? = some e → tc_ml c (A.take (n + 1)) (F.take (n + 1)) = max (tc_ml c (A.take n) (F.take n)) (if x.1 = 0 then x.2.1.toInt.toNat - (e.2.2 - c) else 0) := by
  intro n x e hx he
  have h1 : A.take (n + 1) = A.take n ++ [x] := by rw [List.take_add_one, hx]; rfl
  have h2 : F.take (n + 1) = F.take n ++ [e] := by rw [List.take_add_one, he]; rfl
  have hA := (List.getElem?_eq_some_iff.mp hx).1
  have hF := (List.getElem?_eq_some_iff.mp he).1
  rw [h1, h2, tc_ml_app c _ _ _ _ (by rw [List.length_take, List.length_take]; omega)]
  congr 1
  show max _ 0 = _
  rw [Nat.max_zero]
/-- the greatest level and what is lacking, node by node -/
theorem tc_ofp {L : List tc_Nd} (h : tc_wf 1 L) {j : Nat} (hj : j < L.length) : ∃ (D K : Nat → Nat) (q : tc_Q), (tc_E L)[j]? = some q ∧ 1 ≤ q.2.1 ∧ D 0 = 0 ∧ K 0 = 0 ∧ D (tc_sz (L.drop j)) = tc_dp (L.drop j) ∧ K (tc_sz (L.drop j)) = tc_lk (L.drop j) ∧ ∀ n, n < tc_sz (L.drop j) → ∃ e x, (tc_E L)[j + n]? = some e ∧ L[j + n]? = some x ∧ q.2.1 ≤ e.2.1 ∧ q.2.2 ≤ e.2.2 ∧ D (n + 1) = max (D n) (e.2.1 - q.2.1 + 1) ∧ K (n + 1) = max (K n) (if x.1 = 0 then x.2.1.toInt.toNat - (e.2.2 - q.2.2) else 0) := by
  obtain ⟨A, B, q, s2, e1, hA, e3, e4, e5, e6, e7, e8, e9⟩ := tc_sub h hj
  have hFl : (tc_fw j [q] A).length = A.length := tc_fw_len j [q] hA rfl
  have hE : ∀ n, n < A.length → (tc_E L)[j + n]? = (tc_fw j [q] A)[n]? := fun n hn => by
    rw [e8, List.getElem?_append_right (by omega), e9, show j + n - j = n by omega, List.getElem?_append_left (by omega)]
  have hL : ∀ n, n < A.length → L[j + n]? = A[n]? := fun n hn => by
    rw [← List.getElem?_drop, e1, List.getElem?_append_left hn]
  have hpos := tc_sz_pos hj
  have hq : (tc_fw j [q] A)[0]? = some q := by
    match A, hA, (show 0 < A.length by omega) with
    | x :: R, _, _ => rfl
  have hq1 : 1 ≤ q.2.1 := by
    have hz := hE 0 (by omega)
    rw [hq] at hz
    exact tc_fw_lev L 0 1 [tc_q0] (fun z hz => by rw [List.mem_singleton.mp hz]; exact Nat.le_refl _) q (List.mem_of_getElem? hz)
  refine ⟨fun n => tc_mx ((tc_fw j [q] A).take n) + 1 - q.2.1, fun n => tc_ml q.2.2 (A.take n) ((tc_fw j [q] A).take n), q, ?_, hq1, ?_, ?_, ?_, ?_, ?_⟩
  · have hz := hE 0 (by omega)
    rw [hq] at hz
    exact hz
  · show tc_mx [] + 1 - q.2.1 = 0
    show 0 + 1 - q.2.1 = 0
    omega
  · show tc_ml q.2.2 (A.take 0) _ = 0
    rw [List.take_zero]
    rfl
  · show tc_mx ((tc_fw j [q] A).take _) + 1 - q.2.1 = _
    rw [e3, e4, List.take_of_length_le (by omega), tc_mx_dp hA j q]
    have := tc_dp_pos hA
    omega
  · show tc_ml q.2.2 (A.take _) ((tc_fw j [q] A).take _) = _
    rw [e3, e5, List.take_of_length_le (by omega), List.take_of_length_le (by omega), tc_ml_lk hA j q.2.2 q (Nat.le_refl _), Nat.sub_self, Nat.sub_zero]
  · intro n hn
    rw [e3] at hn
    obtain ⟨e, he⟩ : ∃ e, (tc_fw j [q] A)[n]? = some e := ⟨_, List.getElem?_eq_getElem (by omega)⟩
    obtain ⟨x, hx⟩ : ∃ x, A[n]? = some x := ⟨_, List.getElem?_eq_getElem hn⟩
    have hl1 := tc_fw_lev A j q.2.1 [q] (fun z hz => by rw [List.mem_singleton.mp hz]; exact Nat.le_refl _) e (List.mem_of_getElem? he)
    have hl2 := tc_fw_lc A j q.2.2 [q] (fun z hz => by rw [List.mem_singleton.mp hz]; exact Nat.le_refl _) e (List.mem_of_getElem? he)
    refine ⟨e, x, by rw [hE n hn, he], by rw [hL n hn, hx], hl1, hl2, ?_, ?_⟩
    · show tc_mx ((tc_fw j [q] A).take (n + 1)) + 1 - q.2.1 = max (tc_mx ((tc_fw j [q] A).take n) + 1 - q.2.1) _
      rw [tc_mx_take he]
      omega
    · exact tc_ml_take hx he
theorem tc_mn_same {ki : Nat → Nat} {mu : Nat → Int64} {tx : Nat → Nat} {a b : Nat} (h1 : ki a = ki b) (h2 : mu a = mu b) (h3 : ki a = 8 → ∀ t, t < (mu a).toInt.toNat → tx (64 * a + t) % 256 = tx (64 * b + t) % 256) : tc_mn ki mu tx a = tc_mn ki mu tx b := by
  unfold tc_mn
  rw [← h1, ← h2]
  by_cases h8 : ki a = 8
  · rw [if_pos h8, if_pos h8]
    congr 2
    exact List.map_congr_left (fun t ht => h3 h8 t (List.mem_range.mp ht))
  · rw [if_neg h8, if_neg h8]
theorem tc_mn_diff {ki : Nat → Nat} {mu : Nat → Int64} {tx : Nat → Nat} {a b t : Nat} (h8 : ki a = 8) (ht : t < (mu a).toInt.toNat) (h : ¬ tx (64 * a + t) % 256 = tx (64 * b + t) % 256) : ¬ tc_mn ki mu tx a = tc_mn ki mu tx b := by
  intro e
  have e1 : ki a = ki b := congrArg (fun z => z.1) e
  have e2 : mu a = mu b := congrArg (fun z => z.2.1) e
  have e3 := tc_mn_byte (tx := tx) h8 rfl ht
  rw [e, tc_mn_byte (tx := tx) (e1 ▸ h8) rfl (e2 ▸ ht)] at e3
  exact h (Option.some.inj e3).symm
theorem tc_sb_i (v : Nat) : (xk_sb v).toInt = ((v : Int)).bmod 256 := by
  unfold xk_sb
  rw [Int8.toInt_toInt32, Int32.toInt_toInt8]
  show ((nI v).toInt).bmod 256 = _
  have : (nI v).toInt = ((v : Int)).bmod (2 ^ 32) := Int32.toInt_ofNat'
  rw [this]
  exact Int.bmod_bmod_of_dvd (by decide)
theorem tc_sb_eq {a b : Nat} : xk_sb a = xk_sb b ↔ a % 256 = b % 256 := by
  have ha := Int.bmod_emod (x := (a : Int)) (m := 256)
  have hb := Int.bmod_emod (x := (b : Int)) (m := 256)
  constructor
  · intro h
    have h1 := tc_sb_i a
    rw [h, tc_sb_i b] at h1
    omega
  · intro h
    refine Int32.toInt_inj.mp ?_
    rw [tc_sb_i, tc_sb_i]
    unfold Int.bmod
    rw [show (a : Int) % (256 : Nat) = (b : Int) % (256 : Nat) by omega]
theorem tc_neg_le {v m k : Nat} (h : v < m) (hm : m < 1000) (hk : k < 1000) : nI v - nI m ≤ nI k := by
  rw [Int32.le_iff_toInt_le, Int32.toInt_sub, nI_toInt (by omega), nI_toInt (by omega), nI_toInt (by omega), Int.bmod_eq_of_le (by omega) (by omega)]
  omega
theorem tc_fw_ll : ∀ (L : List tc_Nd) (i : Nat) (st : List tc_Q), (∀ q ∈ st, q.2.2 ≤ q.2.1) → ∀ q ∈ tc_fw i st L, q.2.2 ≤ q.2.1
  | [], i, st, h, q, hq => by rw [tc_fw_nil] at hq; cases hq
  | x :: L, i, [], h, q, hq => by rw [tc_fw_no] at hq; cases hq
  | x :: L, i, p :: st, h, q, hq => by
    rw [tc_fw_cons] at hq
    rcases List.mem_cons.mp hq with rfl | hq
    · exact h _ List.mem_cons_self
    · refine tc_fw_ll L (i + 1) _ (fun z hz => ?_) q hq
      rcases List.mem_append.mp hz with y | y
      · rw [(List.mem_replicate.mp y).2]
        have := h p List.mem_cons_self
        show p.2.2 + (if x.1 = 1 then 1 else 0) ≤ p.2.1 + 1
        split <;> omega
      · exact h z (List.mem_cons_of_mem _ y)
theorem tc_E_ll {L : List tc_Nd} {k : Nat} {e : tc_Q} (he : (tc_E L)[k]? = some e) : e.2.2 ≤ e.2.1 := tc_fw_ll L 0 [tc_q0] (fun z hz => by rw [List.mem_singleton.mp hz]; decide) e (List.mem_of_getElem? he)
theorem tc_pre1 {P : Nat → Prop} {k : Nat} (e : ∀ i, i < k → P i) (h : P k) : ∀ i, i < k + 1 → P i := by
  intro i hi
  rcases Nat.lt_or_ge i k with y | y
  · exact e i y
  · rw [show i = k by omega]
    exact h
theorem tc_map1 {ids1 ids : List Nat} {f : Nat → tc_Nd} {k a b : Nat} (ha : ids1[k]? = some a) (hb : ids[k]? = some b) (h : f a = f b) : (ids1.map f)[k]? = (ids.map f)[k]? := by
  rw [List.getElem?_map, List.getElem?_map, ha, hb]
  exact congrArg some h
theorem tc_copy1 {ids : List Nat} {cog : Nat → Nat} {k i : Nat} (f : ∀ j z, j < k → ids[j]? = some z → cog j = z) (hi : ids[k]? = some i) : ∀ j z, j < k + 1 → ids[j]? = some z → va_up cog k i j = z := by
  intro j z hj hz
  by_cases y : j = k
  · rw [y, va_up_self]
    rw [y, hi] at hz
    exact Option.some.inj hz
  · rw [va_up_ne _ _ y]
    exact f j z (by omega) hz
/-! PURE 30: a new node of bytes. -/
theorem tc_put_8 {Ts Tn : List (List tc_Nd)} (h : tc_put (8, 0, []) Ts = some Tn) : Tn = [(8, 0, [])] :: Ts := by
  unfold tc_put at h
  by_cases h1 : 200 ≤ (tc_cat Ts).length
  · rw [if_pos h1] at h
    cases h
  · rw [if_neg h1, if_pos (show tc_tk ((8, 0, []) : tc_Nd).1 = 0 from rfl)] at h
    exact (Option.some.inj h).symm
theorem tc_ext_8 {x : Int64} {k : Nat} {Ts : List (List tc_Nd)} (hk : k ≤ 8) : tc_ext x k ([(8, 0, [])] :: Ts) = some ([(8, lN k, tc_bts x k)] :: Ts) := by
  rw [tc_ext_some rfl (by show 0 + k ≤ 64; omega)]
  show some ([(8, lN (0 + k), [] ++ tc_bts x k)] :: Ts) = _
  rw [Nat.zero_add, List.nil_append]
theorem tc_nk_out {kd : Int32} {x : Int64} (h : ∀ j, j ≤ 11 → kd ≠ nI j) : tc_nk kd x = none := by
  refine if_neg (fun q => ?_)
  refine h kd.toInt.toNat (by omega) (Int32.toInt_inj.mp ?_)
  rw [nI_toInt (by omega)]
  omega
