/-! PURE 9: extend, open, adopt, alike, bytes. -/
theorem tc_leaf {x : tc_Nd} {t : List tc_Nd} (h : tc_wf 1 (x :: t)) (hk : tc_tk x.1 = 0) : t = [] := by
  have := tc_parts h
  rw [hk] at this
  match t, this with
  | [], _ => rfl
  | y :: r, q => exact absurd q.1 (by omega)
theorem tc_hd {t : List tc_Nd} (h : 0 < t.length) : ∃ x t', t = x :: t' := by
  match t, h with
  | x :: t', _ => exact ⟨x, t', rfl⟩
theorem tc_top_hd {x : tc_Nd} {t : List tc_Nd} {R : List (List tc_Nd)} {kn : Nat → Nat} {nu wo : Nat → Int64} {si de la le ro : Nat → Nat} {tm nd : Nat} (h : tc_RS ((x :: t) :: R) (kn, nu, wo, si, de, la, le) ro tm nd) :
    kn (ro (tm - 1)) = x.1 ∧ nu (ro (tm - 1)) = x.2.1 ∧ (∀ j b, x.2.2[j]? = some b → tc_wb wo (ro (tm - 1)) j = b) ∧ tc_okn x := by
  obtain ⟨z1, z2, z3, z4, z5, z6, z7, z8, -⟩ := tc_top h
  rw [z2]
  exact ⟨z8.1.1, z8.1.2.1, z8.1.2.2.1, (h.1 _ List.mem_cons_self).2.2 x List.mem_cons_self⟩
theorem tc_ext_step {wo wg wh : Nat → Int64} {r cn j n : Nat} {p : Int64} (e2 : ∀ q t, t < 64 → tc_wb wg q t = if q = r ∧ cn ≤ t ∧ t < cn + j then tc_by p (n - 1 - (t - cn)) else tc_wb wo q t)
    (g : ∀ q t, t < 64 → tc_wb wh q t = if q = r ∧ t = cn + j then tc_by p (n - 1 - j) else tc_wb wg q t) : ∀ q t, t < 64 → tc_wb wh q t = if q = r ∧ cn ≤ t ∧ t < cn + (j + 1) then tc_by p (n - 1 - (t - cn)) else tc_wb wo q t := by
  intro q t ht
  rw [g q t ht]
  by_cases h : q = r ∧ t = cn + j
  · rw [if_pos h, if_pos ⟨h.1, by omega, by omega⟩, h.2, show cn + j - cn = j by omega]
  · rw [if_neg h, e2 q t ht]
    by_cases h2 : q = r ∧ cn ≤ t ∧ t < cn + j
    · rw [if_pos h2, if_pos ⟨h2.1, h2.2.1, by omega⟩]
    · rw [if_neg h2, if_neg (fun z => h2 ⟨z.1, z.2.1, by
        have := z.2.2
        have : ¬ t = cn + j := fun y => h ⟨z.1, y⟩
        omega⟩)]
theorem tc_bts_len (p : Int64) (n : Nat) : (tc_bts p n).length = n := by simp [tc_bts]
theorem tc_bts_at {p : Int64} {n j b : Nat} (h : (tc_bts p n)[j]? = some b) : j < n ∧ b = tc_by p (n - 1 - j) := by
  have hl : j < (tc_bts p n).length := (List.getElem?_eq_some_iff.mp h).1
  rw [tc_bts_len] at hl
  refine ⟨hl, ?_⟩
  unfold tc_bts at h
  rw [List.getElem?_map, List.getElem?_range hl] at h
  exact (Option.some.inj h).symm
theorem tc_fit8 {n : Nat} (h : n ≤ 64) : tc_fitP 8 (lN n) := by
  show 0 ≤ lN n ∧ lN n ≤ 64
  constructor
  · rw [Int64.le_iff_toInt_le, pk_lT (by omega)]
    show (0 : Int) ≤ _
    omega
  · rw [Int64.le_iff_toInt_le, pk_lT (by omega)]
    show _ ≤ (64 : Int)
    omega
theorem tc_ext_RS {x : tc_Nd} {R : List (List tc_Nd)} {kn : Nat → Nat} {nu wo wg : Nat → Int64} {si de la le ro : Nat → Nat} {tm nd cn n s dd l e : Nat} {p : Int64} (h : tc_RS ([x] :: R) (kn, nu, wo, si, de, la, le) ro tm nd) (h8 : x.1 = 8) (hcn : cn = x.2.2.length) (hl : cn + n ≤ 64)
    (hw : ∀ q t, t < 64 → tc_wb wg q t = if q = ro (tm - 1) ∧ cn ≤ t ∧ t < cn + n then tc_by p (n - 1 - (t - cn)) else tc_wb wo q t)
    (g1 : s = tc_fs (8, lN (cn + n), []) []) (g2 : dd = tc_fd (8, lN (cn + n), []) []) (g3 : l = tc_fl (8, lN (cn + n), []) []) (g4 : e = tc_ol 8 (lN (cn + n)) + 0) :
    tc_RS ([(8, lN (x.2.2.length + n), x.2.2 ++ tc_bts p n)] :: R) (kn, vp_updL nu (ro (tm - 1)) (lN (cn + n)), wg, va_up si (ro (tm - 1)) s, va_up de (ro (tm - 1)) dd, va_up la (ro (tm - 1)) l, va_up le (ro (tm - 1)) e) ro tm nd := by
  obtain ⟨z1, z2, z3, z4, z5, z6, z7, z8, -⟩ := tc_top h
  obtain ⟨k1, k2, k3, k4⟩ := tc_top_hd h
  have hR : ∀ u ∈ R, tc_okt u := fun u hu => h.1 u (List.mem_cons_of_mem _ hu)
  rw [← hcn]
  refine ⟨?_, h.2.1, ?_, h.2.2.2.1, h.2.2.2.2.1, ?_⟩
  · intro u hu
    rcases List.mem_cons.mp hu with rfl | hu
    · refine ⟨⟨by omega, rfl⟩, (show 1 ≤ 60 by decide), fun y hy => ?_⟩
      obtain rfl : y = (8, lN (cn + n), x.2.2 ++ tc_bts p n) := by simpa using hy
      have hlen : (x.2.2 ++ tc_bts p n).length = cn + n := by rw [List.length_append, tc_bts_len, hcn]
      refine ⟨(show 8 ≤ 11 by decide), tc_fit8 hl, fun _ => by rw [hlen], fun q => absurd rfl q, by rw [hlen]; exact hl, fun b hb => ?_⟩
      rcases List.mem_append.mp hb with q | q
      · exact k4.2.2.2.2.2 b q
      · obtain ⟨j, hj, rfl⟩ := List.mem_map.mp q
        exact tc_by_lt _ _
    · exact hR u hu
  · have := h.2.2.1
    rw [this]
    show (tc_cat R ++ [x]).length = (tc_cat R ++ [_]).length
    simp
  · show tc_AR _ 0 (tc_cat R ++ [_])
    refine (tc_AR_app 0 _ (tc_cat_wf hR)).mpr ⟨?_, ?_⟩
    · refine tc_AR_eq 0 0 (tc_cat_ok hR) (fun t ht => ?_) z7
      have hne : (0 + t) ≠ ro (tm - 1) := by omega
      exact ⟨rfl, pk_uLn hne, fun j hj => by rw [hw _ _ hj, if_neg (fun q => hne q.1)], va_up_ne _ _ hne, va_up_ne _ _ hne, va_up_ne _ _ hne, va_up_ne _ _ hne⟩
    · rw [Nat.zero_add, ← z2]
      refine ⟨⟨k1.trans h8, pk_uLs, fun j b hb => ?_, ?_, ?_, ?_, ?_⟩, trivial⟩
      · have hj : j < 64 := by
          have := (List.getElem?_eq_some_iff.mp hb).1
          have e : (x.2.2 ++ tc_bts p n).length = cn + n := by rw [List.length_append, tc_bts_len, hcn]
          have : j < (x.2.2 ++ tc_bts p n).length := this
          omega
        show tc_wb wg (ro (tm - 1)) j = b
        rw [hw _ _ hj]
        have hb : (x.2.2 ++ tc_bts p n)[j]? = some b := hb
        by_cases hq : j < x.2.2.length
        · rw [List.getElem?_append_left hq] at hb
          rw [if_neg (fun q => by omega)]
          exact k3 j b hb
        · rw [List.getElem?_append_right (by omega)] at hb
          obtain ⟨h1, h2⟩ := tc_bts_at hb
          rw [if_pos ⟨rfl, by omega, by omega⟩, h2, hcn]
      · show va_up si (ro (tm - 1)) s (ro (tm - 1)) = _
        rw [va_up_self, g1]; rfl
      · show va_up de (ro (tm - 1)) dd (ro (tm - 1)) = _
        rw [va_up_self, g2]; rfl
      · show va_up la (ro (tm - 1)) l (ro (tm - 1)) = _
        rw [va_up_self, g3]; rfl
      · show va_up le (ro (tm - 1)) e (ro (tm - 1)) = _
        rw [va_up_self, g4]; rfl
theorem tc_ext_none {p : Int64} {n : Nat} {x : tc_Nd} {t : List tc_Nd} {R : List (List tc_Nd)} (h : ¬ x.1 = 8 ∨ 64 < x.2.2.length + n) : tc_ext p n ((x :: t) :: R) = none := by
  match t with
  | [] => exact if_neg (fun q => by omega)
  | y :: t' => rfl
theorem tc_ext_some {p : Int64} {n : Nat} {x : tc_Nd} {R : List (List tc_Nd)} (h8 : x.1 = 8) (h : x.2.2.length + n ≤ 64) : tc_ext p n ([x] :: R) = some ([(8, lN (x.2.2.length + n), x.2.2 ++ tc_bts p n)] :: R) := if_pos ⟨h8, h⟩
/-- the terms of a list of nodes that is two of them -/
theorem tc_halves {P : List tc_Nd} (h : tc_wf 2 P) : tc_wf 1 (P.take (tc_sz P)) ∧ tc_wf 1 (P.drop (tc_sz P)) ∧ P.take (tc_sz P) ++ P.drop (tc_sz P) = P ∧ (P.take (tc_sz P)).length = tc_sz P ∧ 0 < tc_sz P ∧ tc_sz P < P.length := by
  obtain ⟨A, B, rfl, hA, hB⟩ := tc_first h (by omega)
  have e : tc_sz (A ++ B) = A.length := by
    rw [tc_sz, tc_tv_app _ _ hA (by omega)]
    exact tc_sz_len hA
  have hb := tc_wf_pos hB
  have ha := tc_wf_pos hA
  rw [e, List.take_left, List.drop_left, List.length_append]
  exact ⟨hA, hB, rfl, rfl, by omega, by omega⟩
