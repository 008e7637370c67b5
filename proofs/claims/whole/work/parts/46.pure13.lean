/-! PURE 13: what the calls of TermCodec answer. -/
theorem tc_rng18 {n : Int32} (h1 : ¬ n < nI 1) (h8 : ¬ nI 8 < n) : ∃ k, 1 ≤ k ∧ k ≤ 8 ∧ n = nI k := by
  rw [Int32.lt_iff_toInt_lt, nI_toInt (by decide)] at h1 h8
  refine ⟨n.toInt.toNat, by omega, by omega, Int32.toInt_inj.mp ?_⟩
  rw [nI_toInt (by omega)]
  omega
def tc_more (p : Int64) (n : Int32) (Ts : List (List tc_Nd)) : Option (List (List tc_Nd)) := if 1 ≤ n.toInt ∧ n.toInt ≤ 8 then tc_ext p n.toInt.toNat Ts else none
theorem tc_more_lo {p : Int64} {n : Int32} {Ts : List (List tc_Nd)} (h : n < nI 1) : tc_more p n Ts = none := by
  rw [Int32.lt_iff_toInt_lt, nI_toInt (by decide)] at h
  exact if_neg (by omega)
theorem tc_more_hi {p : Int64} {n : Int32} {Ts : List (List tc_Nd)} (h : nI 8 < n) : tc_more p n Ts = none := by
  rw [Int32.lt_iff_toInt_lt, nI_toInt (by decide)] at h
  exact if_neg (by omega)
theorem tc_more_in {p : Int64} {k : Nat} {Ts : List (List tc_Nd)} (h1 : 1 ≤ k) (h8 : k ≤ 8) : tc_more p (nI k) Ts = tc_ext p k Ts := by
  unfold tc_more
  rw [nI_toInt (by omega), if_pos (by omega), Int.toNat_natCast]
def tc_gv (n : Int32) (gz : Nat) : Option Nat := if 1 ≤ n.toInt ∧ n.toInt ≤ 8 ∧ n.toInt + gz ≤ 4096 then some n.toInt.toNat else none
theorem tc_gv_lo {n : Int32} {gz : Nat} (h : n < nI 1) : tc_gv n gz = none := by
  rw [Int32.lt_iff_toInt_lt, nI_toInt (by decide)] at h
  exact if_neg (by omega)
theorem tc_gv_hi {n : Int32} {gz : Nat} (h : nI 8 < n) : tc_gv n gz = none := by
  rw [Int32.lt_iff_toInt_lt, nI_toInt (by decide)] at h
  exact if_neg (by omega)
theorem tc_gv_in {k gz : Nat} (h1 : 1 ≤ k) (h8 : k ≤ 8) (h : k + gz ≤ 4096) : tc_gv (nI k) gz = some k := by
  unfold tc_gv
  rw [nI_toInt (by omega), if_pos (by omega), Int.toNat_natCast]
theorem tc_gv_no {k gz : Nat} (h8 : k ≤ 8) (h : 4096 < k + gz) : tc_gv (nI k) gz = none := by
  unfold tc_gv
  rw [nI_toInt (by omega), if_neg (by omega)]
def tc_ct (n : Int32) (gz : Nat) : Option Nat := if 0 ≤ n.toInt ∧ n.toInt ≤ gz then some n.toInt.toNat else none
theorem tc_ct_lo {n : Int32} {gz : Nat} (h : n < 0) : tc_ct n gz = none := by
  rw [Int32.lt_iff_toInt_lt, Int32.toInt_zero] at h
  exact if_neg (by omega)
theorem tc_ct_in {k gz : Nat} (h : k ≤ gz) (hg : gz < 2 ^ 31) : tc_ct (nI k) gz = some k := by
  unfold tc_ct
  rw [nI_toInt (by omega), if_pos (by omega), Int.toNat_natCast]
theorem tc_ct_no {k gz : Nat} (h : gz < k) (hg : k < 2 ^ 31) : tc_ct (nI k) gz = none := by
  unfold tc_ct
  rw [nI_toInt (by omega), if_neg (by omega)]
theorem tc_bts_take {v : Int64} {k j : Nat} (h : j + 1 ≤ k) : (tc_bts v k).take (k - j) = (tc_bts v k).take (k - (j + 1)) ++ [tc_by v j] := by
  have hg : (tc_bts v k)[k - (j + 1)]? = some (tc_by v j) := by
    unfold tc_bts
    rw [List.getElem?_map, List.getElem?_range (by omega)]
    show some (tc_by v (k - 1 - (k - (j + 1)))) = _
    rw [show k - 1 - (k - (j + 1)) = j by omega]
  rw [show k - j = k - (j + 1) + 1 by omega]
  exact tc_take1 hg
-- a term's bytes
def tc_tb (t : List tc_Nd) : List Nat := t.flatMap tc_nb
theorem tc_tb_take {t : List tc_Nd} {q : Nat} {x : tc_Nd} (h : t[q]? = some x) : tc_tb (t.take (q + 1)) = tc_tb (t.take q) ++ tc_nb x := by
  obtain ⟨h1, h2⟩ := List.getElem?_eq_some_iff.mp h
  rw [List.take_succ_eq_append_getElem h1, h2]
  unfold tc_tb
  rw [List.flatMap_append]
  simp
theorem tc_nb_len {x : tc_Nd} (h : tc_okn x) : (tc_nb x).length = tc_ol x.1 x.2.1 := by
  have yl : (tc_nb x).length = 1 + (tc_mid x).length + x.2.2.length := by
    unfold tc_nb
    rw [List.length_append, List.length_cons]
    omega
  rw [yl]
  unfold tc_mid tc_ol
  have hn := h.2.2.2.1
  by_cases h0 : x.1 = 0
  · rw [if_pos h0, if_pos h0, tc_grs_len, hn (by omega)]
    rfl
  · rw [if_neg h0, if_neg h0]
    by_cases h7 : x.1 = 7
    · rw [if_pos h7, if_pos h7, tc_grs_len, hn (by omega)]
      rfl
    · rw [if_neg h7, if_neg h7]
      by_cases h8 : x.1 = 8
      · rw [if_pos (by omega), if_pos h8, h.2.2.1 h8, pk_lT (by have := h.2.2.2.2.1; omega), Int.toNat_natCast]
        show 1 + 1 + _ = _
        omega
      · rw [if_neg h8, hn h8]
        by_cases h6 : x.1 = 6 ∨ x.1 = 9
        · rw [if_pos (by omega), if_pos h6]
          rfl
        · rw [if_neg (by omega), if_neg h6]
          rfl
theorem tc_tb_sum : ∀ (t : List tc_Nd), (∀ x ∈ t, tc_okn x) → (tc_ev tc_fn t).sum = (tc_tb t).length
  | [], _ => rfl
  | x :: R, h => by
    show (tc_ol x.1 x.2.1 + ((tc_ev tc_fn R).take (tc_tk x.1)).sum) + ((tc_ev tc_fn R).drop (tc_tk x.1)).sum = (tc_nb x ++ tc_tb R).length
    have h1 := tc_sum_td (tc_ev tc_fn R) (tc_tk x.1)
    have h2 := tc_tb_sum R (fun y hy => h y (List.mem_cons_of_mem _ hy))
    rw [List.length_append, tc_nb_len (h x List.mem_cons_self)]
    omega
theorem tc_ln_tb {t : List tc_Nd} (h : tc_okt t) : tc_ln t = (tc_tb t).length := by
  rw [← tc_tb_sum t h.2.2, tc_ev_one tc_fn 0 h.1]
  show _ = tc_tv tc_fn 0 t + 0
  rfl
theorem tc_tb_le {t : List tc_Nd} (q : Nat) : (tc_tb (t.take q)).length ≤ (tc_tb t).length := by
  have h : tc_tb t = tc_tb (t.take q) ++ tc_tb (t.drop q) := by
    unfold tc_tb
    rw [← List.flatMap_append, List.take_append_drop]
  rw [h, List.length_append]
  omega
def tc_wr (Ts : List (List tc_Nd)) (oz : Nat) : Option (List Nat) := match Ts with
  | [] => none
  | t :: _ => if oz + tc_ln t ≤ 4096 then some (tc_tb t) else none
theorem tc_apd_app {bf bg bh : Nat → Nat} {sz s : Nat} {L M : List Nat} (h : tc_apd bf sz bg L) (hs : s = sz + L.length) (g : tc_apd bg s bh M) : tc_apd bf sz bh (L ++ M) := by
  refine ⟨fun j hj => (g.1 j (by omega)).trans (h.1 j hj), fun j b hb => ?_⟩
  rcases Nat.lt_or_ge j L.length with q | q
  · rw [List.getElem?_append_left q] at hb
    exact (g.1 _ (by omega)).trans (h.2 j b hb)
  · rw [List.getElem?_append_right q] at hb
    have := g.2 _ _ hb
    rwa [show s + (j - L.length) = sz + j by omega] at this
def tc_lln (Ts : List (List tc_Nd)) : Option Nat := match Ts with
  | [] => none
  | t :: _ => some (tc_ln t)
theorem tc_w8 (w : Int32) : w = nI 0 ∨ w = nI 1 ∨ w = nI 2 ∨ w = nI 3 ∨ w = nI 4 ∨ w = nI 5 ∨ w = nI 6 ∨ w = nI 7 ∨ (w.toInt < 0 ∨ 7 < w.toInt) := by
  by_cases h : w.toInt < 0 ∨ 7 < w.toInt
  · simp [h]
  · have key : ∀ j : Nat, j < 100 → w.toInt = j → w = nI j := fun j hj e => Int32.toInt_inj.mp (by rw [nI_toInt (by omega)]; exact e)
    have h2 : w.toInt = (0 : Nat) ∨ w.toInt = (1 : Nat) ∨ w.toInt = (2 : Nat) ∨ w.toInt = (3 : Nat) ∨ w.toInt = (4 : Nat) ∨ w.toInt = (5 : Nat) ∨ w.toInt = (6 : Nat) ∨ w.toInt = (7 : Nat) := by omega
    rcases h2 with q | q | q | q | q | q | q | q
    · exact Or.inl (key _ (by decide) q)
    · exact Or.inr (Or.inl (key _ (by decide) q))
    · exact Or.inr (Or.inr (Or.inl (key _ (by decide) q)))
    · exact Or.inr (Or.inr (Or.inr (Or.inl (key _ (by decide) q))))
    · exact Or.inr (Or.inr (Or.inr (Or.inr (Or.inl (key _ (by decide) q)))))
    · exact Or.inr (Or.inr (Or.inr (Or.inr (Or.inr (Or.inl (key _ (by decide) q))))))
    · exact Or.inr (Or.inr (Or.inr (Or.inr (Or.inr (Or.inr (Or.inl (key _ (by decide) q)))))))
    · exact Or.inr (Or.inr (Or.inr (Or.inr (Or.inr (Or.inr (Or.inr (Or.inl (key _ (by decide) q))))))))
theorem tc_w6 (w : Int32) : w = nI 0 ∨ w = nI 1 ∨ w = nI 2 ∨ w = nI 3 ∨ w = nI 4 ∨ w = nI 5 ∨ (w.toInt < 0 ∨ 5 < w.toInt) := by
  rcases tc_w8 w with q | q | q | q | q | q | q | q | q
  · exact Or.inl q
  · exact Or.inr (Or.inl q)
  · exact Or.inr (Or.inr (Or.inl q))
  · exact Or.inr (Or.inr (Or.inr (Or.inl q)))
  · exact Or.inr (Or.inr (Or.inr (Or.inr (Or.inl q))))
  · exact Or.inr (Or.inr (Or.inr (Or.inr (Or.inr (Or.inl q)))))
  · exact Or.inr (Or.inr (Or.inr (Or.inr (Or.inr (Or.inr (by rw [q]; decide))))))
  · exact Or.inr (Or.inr (Or.inr (Or.inr (Or.inr (Or.inr (by rw [q]; decide))))))
  · exact Or.inr (Or.inr (Or.inr (Or.inr (Or.inr (Or.inr (by omega))))))
def tc_look (tm nd oz gz ap fa : Nat) (pl ln : Option Nat) (w : Int32) : Option Nat := if w = nI 0 then some tm else if w = nI 1 then some nd else if w = nI 2 then some oz else if w = nI 3 then some gz else if w = nI 4 then some ap else if w = nI 5 then some fa else if w = nI 6 then pl else if w = nI 7 then ln else none
theorem tc_look_no {tm nd oz gz ap fa : Nat} {pl ln : Option Nat} {w : Int32} (h : w.toInt < 0 ∨ 7 < w.toInt) : tc_look tm nd oz gz ap fa pl ln w = none := by
  have key : ∀ j : Nat, j ≤ 7 → ¬ w = nI j := fun j hj e => by rw [e, nI_toInt (by omega)] at h; omega
  unfold tc_look
  rw [if_neg (key 0 (by decide)), if_neg (key 1 (by decide)), if_neg (key 2 (by decide)), if_neg (key 3 (by decide)), if_neg (key 4 (by decide)), if_neg (key 5 (by decide)), if_neg (key 6 (by decide)), if_neg (key 7 (by decide))]
theorem tc_ofn_no {x : tc_Nd} {R : List tc_Nd} {pr : Option Nat} {w : Int32} (h : w.toInt < 0 ∨ 5 < w.toInt) : tc_ofn x R pr w = none := by
  have key : ∀ j : Nat, j ≤ 5 → ¬ w = nI j := fun j hj e => by rw [e, nI_toInt (by omega)] at h; omega
  unfold tc_ofn
  rw [if_neg (key 0 (by decide)), if_neg (key 1 (by decide)), if_neg (key 2 (by decide)), if_neg (key 3 (by decide)), if_neg (key 4 (by decide)), if_neg (key 5 (by decide))]
def tc_ofa (Ts : List (List tc_Nd)) (k w : Int32) : Option Nat := match Ts with
  | [] => none
  | t :: R => match tc_nth (t :: R) k with
    | none => none
    | some j => match t.drop j with
      | [] => none
      | x :: Q => tc_ofn x Q (tc_par t j) w
theorem tc_ofa_none {Ts : List (List tc_Nd)} {k w : Int32} (h : tc_nth Ts k = none) : tc_ofa Ts k w = none := by
  match Ts, h with
  | [], _ => rfl
  | t :: R, h =>
    simp only [tc_ofa, h]
theorem tc_ofa_some {t Q : List tc_Nd} {R : List (List tc_Nd)} {k w : Int32} {j : Nat} {x : tc_Nd} (h : tc_nth (t :: R) k = some j) (hd : t.drop j = x :: Q) : tc_ofa (t :: R) k w = tc_ofn x Q (tc_par t j) w := by
  simp only [tc_ofa, h, hd]
def tc_bta (Ts : List (List tc_Nd)) (k j : Int32) : Option Nat := match Ts with
  | [] => none
  | t :: R => match tc_nth (t :: R) k with
    | none => none
    | some q => match t[q]? with
      | none => none
      | some x => if 0 ≤ j.toInt then x.2.2[j.toInt.toNat]? else none
theorem tc_bta_none {Ts : List (List tc_Nd)} {k j : Int32} (h : tc_nth Ts k = none) : tc_bta Ts k j = none := by
  match Ts, h with
  | [], _ => rfl
  | t :: R, h =>
    simp only [tc_bta, h]
theorem tc_bta_some {t : List tc_Nd} {R : List (List tc_Nd)} {k j : Int32} {q : Nat} {x : tc_Nd} (h : tc_nth (t :: R) k = some q) (hd : t[q]? = some x) : tc_bta (t :: R) k j = if 0 ≤ j.toInt then x.2.2[j.toInt.toNat]? else none := by
  simp only [tc_bta, h, hd]
