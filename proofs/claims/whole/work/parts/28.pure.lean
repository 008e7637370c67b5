/-! PURE 8: bounds of what is kept; put. -/
theorem tc_sum_td (l : List Nat) (n : Nat) : (l.take n).sum + (l.drop n).sum = l.sum := by
  rw [← List.sum_append, List.take_append_drop]
theorem tc_ev_sum_s : ∀ (L : List tc_Nd), (tc_ev tc_fs L).sum = L.length
  | [] => rfl
  | x :: R => by
    show (1 + ((tc_ev tc_fs R).take (tc_tk x.1)).sum) + ((tc_ev tc_fs R).drop (tc_tk x.1)).sum = R.length + 1
    have := tc_sum_td (tc_ev tc_fs R) (tc_tk x.1)
    have := tc_ev_sum_s R
    omega
theorem tc_ol_okn {x : tc_Nd} (h : tc_okn x) : tc_ol x.1 x.2.1 ≤ 66 := by
  unfold tc_ol
  have h1 := tc_gU_le x.2.1.toInt.toNat
  have h2 := tc_gS_le x.2.1.toInt
  split
  · omega
  · split
    · omega
    · split
      · rename_i q
        rw [h.2.2.1 q, pk_lT (by have := h.2.2.2.2.1; omega), Int.toNat_natCast]
        have := h.2.2.2.2.1
        omega
      · split <;> omega
theorem tc_ev_sum_n : ∀ (L : List tc_Nd), (∀ x ∈ L, tc_okn x) → (tc_ev tc_fn L).sum ≤ 66 * L.length
  | [], _ => Nat.le_refl _
  | x :: R, h => by
    show (tc_ol x.1 x.2.1 + ((tc_ev tc_fn R).take (tc_tk x.1)).sum) + ((tc_ev tc_fn R).drop (tc_tk x.1)).sum ≤ 66 * (R.length + 1)
    have := tc_sum_td (tc_ev tc_fn R) (tc_tk x.1)
    have := tc_ev_sum_n R (fun y hy => h y (List.mem_cons_of_mem _ hy))
    have := tc_ol_okn (h x List.mem_cons_self)
    omega
theorem tc_mx_td (l : List Nat) (n : Nat) : (l.take n).foldr max 0 ≤ l.foldr max 0 ∧ (l.drop n).foldr max 0 ≤ l.foldr max 0 := by
  induction l generalizing n with
  | nil => simp
  | cons a l ih =>
    cases n with
    | zero =>
      refine ⟨?_, Nat.le_refl _⟩
      simp
    | succ n =>
      obtain ⟨h1, h2⟩ := ih n
      refine ⟨?_, ?_⟩
      · show max a ((l.take n).foldr max 0) ≤ max a (l.foldr max 0)
        omega
      · show (l.drop n).foldr max 0 ≤ max a (l.foldr max 0)
        omega
theorem tc_ev_mx_d : ∀ (L : List tc_Nd), (tc_ev tc_fd L).foldr max 0 ≤ L.length
  | [] => Nat.le_refl _
  | x :: R => by
    show max (1 + ((tc_ev tc_fd R).take (tc_tk x.1)).foldr max 0) (((tc_ev tc_fd R).drop (tc_tk x.1)).foldr max 0) ≤ R.length + 1
    obtain ⟨h1, h2⟩ := tc_mx_td (tc_ev tc_fd R) (tc_tk x.1)
    have := tc_ev_mx_d R
    omega
theorem tc_v200 {x : Int64} (h : 1 ≤ x ∧ x ≤ 200) : 1 ≤ x.toInt ∧ x.toInt ≤ 200 := ⟨Int64.le_iff_toInt_le.mp h.1, Int64.le_iff_toInt_le.mp h.2⟩
theorem tc_ev_mx_l : ∀ (L : List tc_Nd), (∀ x ∈ L, tc_okn x) → (tc_ev tc_fl L).foldr max 0 ≤ 200
  | [], _ => Nat.zero_le _
  | x :: R, h => by
    show max (tc_fl x ((tc_ev tc_fl R).take (tc_tk x.1))) (((tc_ev tc_fl R).drop (tc_tk x.1)).foldr max 0) ≤ 200
    obtain ⟨h1, h2⟩ := tc_mx_td (tc_ev tc_fl R) (tc_tk x.1)
    have h3 := tc_ev_mx_l R (fun y hy => h y (List.mem_cons_of_mem _ hy))
    have h4 : ∀ vs : List Nat, vs.foldr max 0 ≤ 200 → tc_fl x vs ≤ 200 := by
      intro vs hvs
      unfold tc_fl
      split
      · rename_i q
        have h5 := (h x List.mem_cons_self).2.1
        rw [q] at h5
        have := tc_v200 (show 1 ≤ x.2.1 ∧ x.2.1 ≤ 200 from h5)
        omega
      · split <;> omega
    have h5 := h4 _ (Nat.le_trans h1 h3)
    omega
theorem tc_mem_sum {l : List Nat} {a : Nat} (h : a ∈ l) : a ≤ l.sum := by
  induction l with
  | nil => cases h
  | cons b l ih =>
    rw [List.sum_cons]
    rcases List.mem_cons.mp h with rfl | h
    · omega
    · have := ih h
      omega
theorem tc_mem_mx {l : List Nat} {a : Nat} (h : a ∈ l) : a ≤ l.foldr max 0 := by
  induction l with
  | nil => cases h
  | cons b l ih =>
    show a ≤ max b (l.foldr max 0)
    rcases List.mem_cons.mp h with rfl | h
    · omega
    · have := ih h
      omega
/-- what is kept of a node's parts is small -/
theorem tc_ch_bd {kn : Nat → Nat} {nu wo : Nat → Int64} {si de la le : Nat → Nat} {R : List tc_Nd} {m k i : Nat} (h : tc_AR (kn, nu, wo, si, de, la, le) (i + 1) R) (hw : tc_wf m R) (hm : tc_tk k ≤ m) (hok : ∀ y ∈ R, tc_okn y) (hl : i + 1 + R.length ≤ 200) :
    ∀ j, j ∈ tc_chs k i si → j < 200 ∧ si j < 1048576 ∧ de j < 1048576 ∧ la j < 1048576 ∧ le j < 1048576 := by
  obtain ⟨e1, e2, e3, e4⟩ := tc_chs_ev h hw hm
  intro j hj
  have m1 : si j ∈ tc_ev tc_fs R := List.mem_of_mem_take (e1 ▸ List.mem_map_of_mem hj)
  have m2 : de j ∈ tc_ev tc_fd R := List.mem_of_mem_take (e2 ▸ List.mem_map_of_mem hj)
  have m3 : la j ∈ tc_ev tc_fl R := List.mem_of_mem_take (e3 ▸ List.mem_map_of_mem hj)
  have m4 : le j ∈ tc_ev tc_fn R := List.mem_of_mem_take (e4 ▸ List.mem_map_of_mem hj)
  have b1 := tc_mem_sum m1
  rw [tc_ev_sum_s] at b1
  have b2 := tc_mem_mx m2
  have b2' := tc_ev_mx_d R
  have b3 := tc_mem_mx m3
  have b3' := tc_ev_mx_l R hok
  have b4 := tc_mem_sum m4
  have b4' := tc_ev_sum_n R hok
  refine ⟨?_, by omega, by omega, by omega, by omega⟩
  have hR : 0 < tc_tk k → 0 < R.length := fun q => by
    have := tc_wf_pos hw
    omega
  rcases tc_tk3 k with q | q | q
  · rw [tc_chs_0 q] at hj
    cases hj
  · rw [tc_chs_1 q] at hj
    have : j = i + 1 := by simpa using hj
    have := hR (by omega)
    omega
  · rw [tc_chs_2 q] at hj
    have hs : [si (i + 1), si (i + (1 + si (i + 1)))].sum ≤ R.length := by
      have e := e1
      rw [tc_chs_2 q] at e
      have e : [si (i + 1), si (i + (1 + si (i + 1)))] = (tc_ev tc_fs R).take (tc_tk k) := e
      rw [e]
      have := tc_sum_td (tc_ev tc_fs R) (tc_tk k)
      rw [tc_ev_sum_s] at this
      omega
    have hs2 : si (i + 1) < R.length := by
      obtain ⟨A, B, rfl, hA, hB⟩ := tc_first hw (by omega)
      obtain ⟨hA', -⟩ := (tc_AR_app (i + 1) B hA).mp h
      have hz : si (i + 1) = A.length := by
        match A, hA, hA' with
        | x :: A', hA, hA' =>
          rw [← tc_sz_len hA]
          exact hA'.1.2.2.2.1
      have := tc_wf_pos hB
      rw [List.length_append]
      omega
    have hj : j = i + 1 ∨ j = i + (1 + si (i + 1)) := by simpa using hj
    omega
theorem tc_num_v {k : Nat} {x : Int64} (h : tc_fitP k x) (h8 : k = 8 → x = 0) : k = 0 ∨ k = 8 → x = lN x.toInt.toNat ∧ x.toInt.toNat < 2 ^ 30 := by
  rintro (q | q)
  · rw [q] at h
    have h1 := tc_v200 (show 1 ≤ x ∧ x ≤ 200 from h)
    refine ⟨Int64.toInt_inj.mp ?_, by omega⟩
    rw [pk_lT (by omega)]
    omega
  · rw [h8 q]
    exact ⟨by decide, by decide⟩
theorem tc_put_ch {P : List tc_Nd} {kn : Nat → Nat} {nu wo : Nat → Int64} {si de la le : Nat → Nat} {k r c : Nat} (hc : c = P.length) (hP : tc_AR (kn, nu, wo, si, de, la, le) r P) (hw : tc_wf (tc_tk k) P) (hok : ∀ y ∈ P, tc_okn y) (hl : r + c < 200) :
    ∀ j, j ∈ tc_chs k r (va_cpy si si r (r + 1) c) → j < 200 ∧ va_cpy si si r (r + 1) c j < 1048576 ∧ va_cpy de de r (r + 1) c j < 1048576 ∧ va_cpy la la r (r + 1) c j < 1048576 ∧ va_cpy le le r (r + 1) c j < 1048576 := by
  have hA1 : tc_AR (tc_cpA (kn, nu, wo, si, de, la, le) r (r + 1) c) (r + 1) P := tc_AR_eq r (r + 1) hok (fun t ht => tc_cpA_in _ (by omega)) hP
  exact tc_ch_bd hA1 hw (Nat.le_refl _) hok (by omega)
theorem tc_put_RSx {R : List (List tc_Nd)} {P : List tc_Nd} {kn : Nat → Nat} {nu wo : Nat → Int64} {si de la le ro : Nat → Nat} {k r c s dd l e : Nat} {n : Int64} (hr : r = (tc_cat R).length) (hc : c = P.length)
    (hR : ∀ u ∈ R, tc_okt u) (hro : tc_rts ro R) (h0 : tc_AR (kn, nu, wo, si, de, la, le) 0 (tc_cat R)) (hP : tc_AR (kn, nu, wo, si, de, la, le) r P) (hw : tc_wf (tc_tk k) P) (hok : ∀ y ∈ P, tc_okn y) (hx : tc_okn (k, n, [])) (hd : tc_dp ((k, n, []) :: P) ≤ 60) (hl : r + c < 200)
    (g1 : s = tc_fs (k, n, []) ((tc_chs k r (va_cpy si si r (r + 1) c)).map (va_cpy si si r (r + 1) c))) (g2 : dd = tc_fd (k, n, []) ((tc_chs k r (va_cpy si si r (r + 1) c)).map (va_cpy de de r (r + 1) c)))
    (g3 : l = tc_fl (k, n, []) ((tc_chs k r (va_cpy si si r (r + 1) c)).map (va_cpy la la r (r + 1) c))) (g4 : e = tc_ol k n + ((tc_chs k r (va_cpy si si r (r + 1) c)).map (va_cpy le le r (r + 1) c)).sum) {i tg ng : Nat} (hi : i = R.length) (ht : tg = R.length + 1) (hn : ng = r + c + 1) :
    tc_RS (((k, n, []) :: P) :: R) (va_up (va_cpy kn kn r (r + 1) c) r k, vp_updL (va_cpy nu nu r (r + 1) c) r n, va_cpy wo wo (r * 8) ((r + 1) * 8) (c * 8), va_up (va_cpy si si r (r + 1) c) r s, va_up (va_cpy de de r (r + 1) c) r dd, va_up (va_cpy la la r (r + 1) c) r l, va_up (va_cpy le le r (r + 1) c) r e) (va_up ro i r) tg ng := by
  rw [hi, ht, hn]
  exact tc_put_RS hr hc hR hro h0 hP hw hok hx hd hl g1 g2 g3 g4
theorem tc_put_none {x : tc_Nd} {Ts : List (List tc_Nd)} {n : Nat} (hk : tc_tk x.1 = n) (h : Ts.length < n ∨ 200 ≤ (tc_cat Ts).length) : tc_put x Ts = none := by
  unfold tc_put
  split
  · rfl
  · rename_i q
    have h : Ts.length < n := h.resolve_right q
    rw [if_neg (by omega)]
    split
    · match Ts, h with
      | [], _ => rfl
      | t :: R, h => simp at h; omega
    · have := tc_tk_le x.1
      match Ts, h with
      | [], _ => rfl
      | [t], _ => rfl
      | t :: t' :: R, h => simp at h; omega
theorem tc_put_0 {x : tc_Nd} {Ts : List (List tc_Nd)} (hk : tc_tk x.1 = 0) (h : (tc_cat Ts).length < 200) : tc_put x Ts = some ([x] :: Ts) := by
  unfold tc_put
  rw [if_neg (by omega), if_pos hk]
theorem tc_put_1 {x : tc_Nd} {t : List tc_Nd} {R : List (List tc_Nd)} (hk : tc_tk x.1 = 1) (h : (tc_cat (t :: R)).length < 200) (hd : tc_dp t < 60) : tc_put x (t :: R) = some ((x :: t) :: R) := by
  unfold tc_put
  rw [if_neg (by omega), if_neg (by omega), if_pos hk]
  exact if_pos hd
theorem tc_put_deep1 {x : tc_Nd} {t : List tc_Nd} {R : List (List tc_Nd)} (hk : tc_tk x.1 = 1) (hd : 60 ≤ tc_dp t) : tc_put x (t :: R) = none := by
  unfold tc_put
  by_cases q : 200 ≤ (tc_cat (t :: R)).length
  · rw [if_pos q]
  · rw [if_neg q, if_neg (by omega), if_pos hk]
    exact if_neg (by omega)
theorem tc_put_2 {x : tc_Nd} {t t1 : List tc_Nd} {R : List (List tc_Nd)} (hk : tc_tk x.1 = 2) (h : (tc_cat (t :: t1 :: R)).length < 200) (hd1 : tc_dp t1 < 60) (hd : tc_dp t < 60) : tc_put x (t :: t1 :: R) = some ((x :: (t1 ++ t)) :: R) := by
  unfold tc_put
  rw [if_neg (by omega), if_neg (by omega), if_neg (by omega)]
  exact if_pos ⟨hd1, hd⟩
theorem tc_put_deep2 {x : tc_Nd} {t t1 : List tc_Nd} {R : List (List tc_Nd)} (hk : tc_tk x.1 = 2) (hd : 60 ≤ tc_dp t1 ∨ 60 ≤ tc_dp t) : tc_put x (t :: t1 :: R) = none := by
  unfold tc_put
  by_cases q : 200 ≤ (tc_cat (t :: t1 :: R)).length
  · rw [if_pos q]
  · rw [if_neg q, if_neg (by omega), if_neg (by omega)]
    exact if_neg (by omega)
