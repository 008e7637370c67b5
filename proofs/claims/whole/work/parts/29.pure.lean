/-! PURE 9: extend, open, adopt, alike, bytes. -/
theorem tc_leaf {x : tc_Nd} {t : List tc_Nd} (h : tc_wf 1 (x :: t)) (hk : tc_tk x.1 = 0) : t = [] := by
  have := tc_parts h
  rw [hk] at this
  match t, this with
  | [], _ => rfl
  | y :: r, q => exact absurd q.1 (by omega)
theorem tc_hd {t : List tc_Nd} (h : 0 < t.length) : ∃ x t', t = x :: t' := by
  match t, h with
  | x :: t', _ => exact ⟨x, t', rfl⟩
theorem tc_top_hd {x : tc_Nd} {t : List tc_Nd} {R : List (List tc_Nd)} {kn : Nat → Nat} {nu wo : Nat → Int64} {si de la le ro : Nat → Nat} {tm nd : Nat} (h : tc_RS ((x :: t) :: R) (kn, nu, wo, si, de, la, le) ro tm nd) :
    kn (ro (tm - 1)) = x.1 ∧ nu (ro (tm - 1)) = x.2.1 ∧ (∀ j b, x.2.2[j]? = some b → tc_wb wo (ro (tm - 1)) j = b) ∧ tc_okn x := by
  obtain ⟨z1, z2, z3, z4, z5, z6, z7, z8, -⟩ := tc_top h
  rw [z2]
  exact ⟨z8.1.1, z8.1.2.1, z8.1.2.2.1, (h.1 _ List.mem_cons_self).2.2 x List.mem_cons_self⟩
theorem tc_ext_step {wo wg wh : Nat → Int64} {r cn j n : Nat} {p : Int64} (e2 : ∀ q t, t < 64 → tc_wb wg q t = if q = r ∧ cn ≤ t ∧ t < cn + j then tc_by p (n - 1 - (t - cn)) else tc_wb wo q t)
    (g : ∀ q t, t < 64 → tc_wb wh q t = if q = r ∧ t = cn + j then tc_by p (n - 1 - j) else tc_wb wg q t) : ∀ q t, t < 64 → tc_wb wh q t = if q = r ∧ cn ≤ t ∧ t < cn + (j + 1) then tc_by p (n - 1 - (t - cn)) else tc_wb wo q t := by
  intro q t ht
  rw [g q t ht]
  by_cases h : q = r ∧ t = cn + j
  · rw [if_pos h, if_pos ⟨h.1, by omega, by omega⟩, h.2, show cn + j - cn = j by omega]
  · rw [if_neg h, e2 q t ht]
    by_cases h2 : q = r ∧ cn ≤ t ∧ t < cn + j
    · rw [if_pos h2, if_pos ⟨h2.1, h2.2.1, by omega⟩]
    · rw [if_neg h2, if_neg (fun z => h2 ⟨z.1, z.2.1, by
        have := z.2.2
        have : ¬ t = cn + j := fun y => h ⟨z.1, y⟩
        omega⟩)]
theorem tc_bts_len (p : Int64) (n : Nat) : (tc_bts p n).length = n := by simp [tc_bts]
theorem tc_bts_at {p : Int64} {n j b : Nat} (h : (tc_bts p n)[j]? = some b) : j < n ∧ b = tc_by p (n - 1 - j) := by
  have hl : j < (tc_bts p n).length := (List.getElem?_eq_some_iff.mp h).1
  rw [tc_bts_len] at hl
  refine ⟨hl, ?_⟩
  unfold tc_bts at h
  rw [List.getElem?_map, List.getElem?_range hl] at h
  exact (Option.some.inj h).symm
theorem tc_fit8 {n : Nat} (h : n ≤ 64) : tc_fitP 8 (lN n) := by
  show 0 ≤ lN n ∧ lN n ≤ 64
  constructor
  · rw [Int64.le_iff_toInt_le, pk_lT (by omega)]
    show (0 : Int) ≤ _
    omega
  · rw [Int64.le_iff_toInt_le, pk_lT (by omega)]
    show _ ≤ (64 : Int)
    omega
theorem tc_ext_RS {x : tc_Nd} {R : List (List tc_Nd)} {kn : Nat → Nat} {nu wo wg : Nat → Int64} {si de la le ro : Nat → Nat} {tm nd cn n s dd l e : Nat} {p : Int64} (h : tc_RS ([x] :: R) (kn, nu, wo, si, de, la, le) ro tm nd) (h8 : x.1 = 8) (hcn : cn = x.2.2.length) (hl : cn + n ≤ 64)
    (hw : ∀ q t, t < 64 → tc_wb wg q t = if q = ro (tm - 1) ∧ cn ≤ t ∧ t < cn + n then tc_by p (n - 1 - (t - cn)) else tc_wb wo q t)
    (g1 : s = tc_fs (8, lN (cn + n), []) []) (g2 : dd = tc_fd (8, lN (cn + n), []) []) (g3 : l = tc_fl (8, lN (cn + n), []) []) (g4 : e = tc_ol 8 (lN (cn + n)) + 0) :
    tc_RS ([(8, lN (x.2.2.length + n), x.2.2 ++ tc_bts p n)] :: R) (kn, vp_updL nu (ro (tm - 1)) (lN (cn + n)), wg, va_up si (ro (tm - 1)) s, va_up de (ro (tm - 1)) dd, va_up la (ro (tm - 1)) l, va_up le (ro (tm - 1)) e) ro tm nd := by
  obtain ⟨z1, z2, z3, z4, z5, z6, z7, z8, -⟩ := tc_top h
  obtain ⟨k1, k2, k3, k4⟩ := tc_top_hd h
  have hR : ∀ u ∈ R, tc_okt u := fun u hu => h.1 u (List.mem_cons_of_mem _ hu)
  rw [← hcn]
  refine ⟨?_, h.2.1, ?_, h.2.2.2.1, h.2.2.2.2.1, ?_⟩
  · intro u hu
    rcases List.mem_cons.mp hu with rfl | hu
    · refine ⟨⟨by omega, rfl⟩, (show 1 ≤ 60 by decide), fun y hy => ?_⟩
      obtain rfl : y = (8, lN (cn + n), x.2.2 ++ tc_bts p n) := by simpa using hy
      have hlen : (x.2.2 ++ tc_bts p n).length = cn + n := by rw [List.length_append, tc_bts_len, hcn]
      refine ⟨(show 8 ≤ 11 by decide), tc_fit8 hl, fun _ => by rw [hlen], fun q => absurd rfl q, by rw [hlen]; exact hl, fun b hb => ?_⟩
      rcases List.mem_append.mp hb with q | q
      · exact k4.2.2.2.2.2 b q
      · obtain ⟨j, hj, rfl⟩ := List.mem_map.mp q
        exact tc_by_lt _ _
    · exact hR u hu
  · have := h.2.2.1
    rw [this]
    show (tc_cat R ++ [x]).length = (tc_cat R ++ [_]).length
    simp
  · show tc_AR _ 0 (tc_cat R ++ [_])
    refine (tc_AR_app 0 _ (tc_cat_wf hR)).mpr ⟨?_, ?_⟩
    · refine tc_AR_eq 0 0 (tc_cat_ok hR) (fun t ht => ?_) z7
      have hne : (0 + t) ≠ ro (tm - 1) := by omega
      exact ⟨rfl, pk_uLn hne, fun j hj => by rw [hw _ _ hj, if_neg (fun q => hne q.1)], va_up_ne _ _ hne, va_up_ne _ _ hne, va_up_ne _ _ hne, va_up_ne _ _ hne⟩
    · rw [Nat.zero_add, ← z2]
      refine ⟨⟨k1.trans h8, pk_uLs, fun j b hb => ?_, ?_, ?_, ?_, ?_⟩, trivial⟩
      · have hj : j < 64 := by
          have := (List.getElem?_eq_some_iff.mp hb).1
          have e : (x.2.2 ++ tc_bts p n).length = cn + n := by rw [List.length_append, tc_bts_len, hcn]
          have : j < (x.2.2 ++ tc_bts p n).length := this
          omega
        show tc_wb wg (ro (tm - 1)) j = b
        rw [hw _ _ hj]
        have hb : (x.2.2 ++ tc_bts p n)[j]? = some b := hb
        by_cases hq : j < x.2.2.length
        · rw [List.getElem?_append_left hq] at hb
          rw [if_neg (fun q => by omega)]
          exact k3 j b hb
        · rw [List.getElem?_append_right (by omega)] at hb
          obtain ⟨h1, h2⟩ := tc_bts_at hb
          rw [if_pos ⟨rfl, by omega, by omega⟩, h2, hcn]
      · show va_up si (ro (tm - 1)) s (ro (tm - 1)) = _
        rw [va_up_self, g1]; rfl
      · show va_up de (ro (tm - 1)) dd (ro (tm - 1)) = _
        rw [va_up_self, g2]; rfl
      · show va_up la (ro (tm - 1)) l (ro (tm - 1)) = _
        rw [va_up_self, g3]; rfl
      · show va_up le (ro (tm - 1)) e (ro (tm - 1)) = _
        rw [va_up_self, g4]; rfl
theorem tc_ext_none {p : Int64} {n : Nat} {x : tc_Nd} {t : List tc_Nd} {R : List (List tc_Nd)} (h : ¬ x.1 = 8 ∨ 64 < x.2.2.length + n) : tc_ext p n ((x :: t) :: R) = none := by
  match t with
  | [] => exact if_neg (fun q => by omega)
  | y :: t' => rfl
theorem tc_ext_some {p : Int64} {n : Nat} {x : tc_Nd} {R : List (List tc_Nd)} (h8 : x.1 = 8) (h : x.2.2.length + n ≤ 64) : tc_ext p n ([x] :: R) = some ([(8, lN (x.2.2.length + n), x.2.2 ++ tc_bts p n)] :: R) := if_pos ⟨h8, h⟩
/-- the terms of a list of nodes that is two of them -/
theorem tc_halves {P : List tc_Nd} (h : tc_wf 2 P) : tc_wf 1 (P.take (tc_sz P)) ∧ tc_wf 1 (P.drop (tc_sz P)) ∧ P.take (tc_sz P) ++ P.drop (tc_sz P) = P ∧ (P.take (tc_sz P)).length = tc_sz P ∧ 0 < tc_sz P ∧ tc_sz P < P.length := by
  obtain ⟨A, B, rfl, hA, hB⟩ := tc_first h (by omega)
  have e : tc_sz (A ++ B) = A.length := by
    rw [tc_sz, tc_tv_app _ _ hA (by omega)]
    exact tc_sz_len hA
  have hb := tc_wf_pos hB
  have ha := tc_wf_pos hA
  rw [e, List.take_left, List.drop_left, List.length_append]
  exact ⟨hA, hB, rfl, rfl, by omega, by omega⟩
/-! PURE 10: open, adopt, alike. -/
theorem tc_opn_AR {x : tc_Nd} {P : List tc_Nd} {R : List (List tc_Nd)} {kn : Nat → Nat} {nu wo : Nat → Int64} {si de la le ro : Nat → Nat} {tm nd r c : Nat} (h : tc_RS ((x :: P) :: R) (kn, nu, wo, si, de, la, le) ro tm nd) (hr : r = (tc_cat R).length) (hc : c = P.length) :
    tc_AR (tc_cpA (kn, nu, wo, si, de, la, le) (r + 1) r c) 0 (tc_cat R) ∧ tc_AR (tc_cpA (kn, nu, wo, si, de, la, le) (r + 1) r c) r P := by
  obtain ⟨z1, z2, z3, z4, z5, z6, z7, z8, -⟩ := tc_top h
  have hR : ∀ u ∈ R, tc_okt u := fun u hu => h.1 u (List.mem_cons_of_mem _ hu)
  have ht := h.1 _ List.mem_cons_self
  rw [← hr] at z8
  refine ⟨tc_AR_eq 0 0 (tc_cat_ok hR) (fun t ht => tc_cpA_out _ (by omega)) z7, ?_⟩
  exact tc_AR_eq (r + 1) r (fun y hy => ht.2.2 y (List.mem_cons_of_mem _ hy)) (fun t ht => tc_cpA_in _ (by omega)) z8.2
theorem tc_opn_RS1 {x : tc_Nd} {P : List tc_Nd} {R : List (List tc_Nd)} {kn : Nat → Nat} {nu wo : Nat → Int64} {si de la le ro : Nat → Nat} {tm nd r c : Nat} (h : tc_RS ((x :: P) :: R) (kn, nu, wo, si, de, la, le) ro tm nd) (hk : tc_tk x.1 = 1) (hr : r = (tc_cat R).length) (hc : c = P.length) :
    tc_RS (P :: R) (va_cpy kn kn (r + 1) r c, va_cpy nu nu (r + 1) r c, va_cpy wo wo ((r + 1) * 8) (r * 8) (c * 8), va_cpy si si (r + 1) r c, va_cpy de de (r + 1) r c, va_cpy la la (r + 1) r c, va_cpy le le (r + 1) r c) (va_up ro (tm - 1) r) (tm - 1 + 1) (nd - 1) := by
  obtain ⟨a1, a2⟩ := tc_opn_AR h hr hc
  obtain ⟨z1, z2, z3, z4, z5, z6, z7, z8, -⟩ := tc_top h
  have hR : ∀ u ∈ R, tc_okt u := fun u hu => h.1 u (List.mem_cons_of_mem _ hu)
  have ht := h.1 _ List.mem_cons_self
  have hP : tc_wf 1 P := by have := tc_parts ht.1; rwa [hk] at this
  have hd := ht.2.1
  rw [tc_dp1 hk hP] at hd
  have zl : (x :: P).length = P.length + 1 := rfl
  refine ⟨?_, ?_, ?_, by omega, ⟨?_, tc_rts_eq (fun i hi => va_up_ne _ _ (by omega)) h.2.2.2.2.1.2⟩, ?_⟩
  · intro u hu
    rcases List.mem_cons.mp hu with rfl | hu
    · exact ⟨hP, by omega, fun y hy => ht.2.2 y (List.mem_cons_of_mem _ hy)⟩
    · exact hR u hu
  · show tm - 1 + 1 = R.length + 1
    omega
  · show nd - 1 = (tc_cat R ++ P).length
    rw [List.length_append]
    omega
  · rw [show R.length = tm - 1 by omega, va_up_self, hr]
  · refine (tc_AR_app 0 _ (tc_cat_wf hR)).mpr ⟨a1, ?_⟩
    rw [Nat.zero_add, ← hr]
    exact a2
theorem tc_opn_si {x : tc_Nd} {P : List tc_Nd} {R : List (List tc_Nd)} {kn : Nat → Nat} {nu wo : Nat → Int64} {si de la le ro : Nat → Nat} {tm nd r c : Nat} (h : tc_RS ((x :: P) :: R) (kn, nu, wo, si, de, la, le) ro tm nd) (hr : r = (tc_cat R).length) (hc : c = P.length) (hp : 0 < P.length) : va_cpy si si (r + 1) r c r = tc_sz P := by
  obtain ⟨a1, a2⟩ := tc_opn_AR h hr hc
  obtain ⟨y, Q, rfl⟩ := tc_hd hp
  exact a2.1.2.2.2.1
theorem tc_opn_RS2 {x : tc_Nd} {P : List tc_Nd} {R : List (List tc_Nd)} {kn : Nat → Nat} {nu wo : Nat → Int64} {si de la le ro : Nat → Nat} {tm nd r c s : Nat} (h : tc_RS ((x :: P) :: R) (kn, nu, wo, si, de, la, le) ro tm nd) (hk : tc_tk x.1 = 2) (hr : r = (tc_cat R).length) (hc : c = P.length) (hs : s = tc_sz P) :
    tc_RS (P.drop (tc_sz P) :: P.take (tc_sz P) :: R) (va_cpy kn kn (r + 1) r c, va_cpy nu nu (r + 1) r c, va_cpy wo wo ((r + 1) * 8) (r * 8) (c * 8), va_cpy si si (r + 1) r c, va_cpy de de (r + 1) r c, va_cpy la la (r + 1) r c, va_cpy le le (r + 1) r c) (va_up (va_up ro (tm - 1) r) (tm - 1 + 1) (r + s)) (tm - 1 + 1 + 1) (nd - 1) := by
  obtain ⟨a1, a2⟩ := tc_opn_AR h hr hc
  obtain ⟨z1, z2, z3, z4, z5, z6, z7, z8, -⟩ := tc_top h
  have hR : ∀ u ∈ R, tc_okt u := fun u hu => h.1 u (List.mem_cons_of_mem _ hu)
  have ht := h.1 _ List.mem_cons_self
  have hP : tc_wf 2 P := by have := tc_parts ht.1; rwa [hk] at this
  obtain ⟨hA, hB, e, el, ep, ep2⟩ := tc_halves hP
  have hd := ht.2.1
  rw [← e, tc_dp2 hk hA hB] at hd
  have zl : (x :: P).length = P.length + 1 := rfl
  have hok : ∀ y ∈ P, tc_okn y := fun y hy => ht.2.2 y (List.mem_cons_of_mem _ hy)
  refine ⟨?_, ?_, ?_, by omega, ⟨?_, ?_, tc_rts_eq (fun i hi => (va_up_ne _ _ (by omega)).trans (va_up_ne _ _ (by omega))) h.2.2.2.2.1.2⟩, ?_⟩
  · intro u hu
    rcases List.mem_cons.mp hu with rfl | hu
    · exact ⟨hB, by omega, fun y hy => hok y (List.mem_of_mem_drop hy)⟩
    · rcases List.mem_cons.mp hu with rfl | hu
      · exact ⟨hA, by omega, fun y hy => hok y (List.mem_of_mem_take hy)⟩
      · exact hR u hu
  · show tm - 1 + 1 + 1 = R.length + 1 + 1
    omega
  · show nd - 1 = ((tc_cat R ++ P.take (tc_sz P)) ++ P.drop (tc_sz P)).length
    rw [List.append_assoc, e, List.length_append]
    omega
  · show va_up _ (tm - 1 + 1) (r + s) (R.length + 1) = (tc_cat R ++ P.take (tc_sz P)).length
    rw [show R.length + 1 = tm - 1 + 1 by omega, va_up_self, List.length_append, el, hr, hs]
  · rw [va_up_ne _ _ (by omega), show R.length = tm - 1 by omega, va_up_self, hr]
  · show tc_AR _ 0 ((tc_cat R ++ P.take (tc_sz P)) ++ P.drop (tc_sz P))
    rw [List.append_assoc, e]
    refine (tc_AR_app 0 _ (tc_cat_wf hR)).mpr ⟨a1, ?_⟩
    rw [Nat.zero_add, ← hr]
    exact a2
theorem tc_opn_1 {x : tc_Nd} {P : List tc_Nd} {R : List (List tc_Nd)} (h : tc_tk x.1 = 1) : tc_opn ((x :: P) :: R) = some (1, P :: R) := by
  show (if _ then _ else _) = _
  rw [if_neg (by omega), if_pos h]
theorem tc_opn_2 {x : tc_Nd} {P : List tc_Nd} {R : List (List tc_Nd)} (h : tc_tk x.1 = 2) : tc_opn ((x :: P) :: R) = some (2, P.drop (tc_sz P) :: P.take (tc_sz P) :: R) := by
  show (if _ then _ else _) = _
  rw [if_neg (by omega), if_neg (by omega)]
theorem xk_none_lt {n : Nat} (h : n < 2 ^ 31) : xk_oI none < nI n := by
  rw [Int32.lt_iff_toInt_lt, nI_toInt h]
  show (-1 : Int) < _
  omega
theorem xk_none_le {n : Nat} (h : n < 2 ^ 31) : xk_oI none ≤ nI n := Int32.le_of_lt (xk_none_lt h)
theorem xk_none_nle {n : Nat} (h : n < 2 ^ 31) : ¬ nI n ≤ xk_oI none := Int32.not_le.mpr (xk_none_lt h)
theorem xk_none_nlt {n : Nat} (h : n < 2 ^ 31) : ¬ nI n < xk_oI none := Int32.not_lt.mpr (xk_none_le h)
/-- nodes in the arrays, not settled yet -/
def tc_raw (kn : Nat → Nat) (nu wo : Nat → Int64) (k : Nat) (L : List tc_Nd) : Prop := ∀ j x, L[j]? = some x → kn (k + j) = x.1 ∧ nu (k + j) = x.2.1 ∧ ∀ t b, x.2.2[t]? = some b → tc_wb wo (k + j) t = b
theorem tc_okn_v {x : tc_Nd} (h : tc_okn x) : x.1 = 0 ∨ x.1 = 8 → x.2.1 = lN x.2.1.toInt.toNat ∧ x.2.1.toInt.toNat < 2 ^ 30 := by
  rintro (q | q)
  · have h2 := h.2.1
    rw [q] at h2
    have h1 := tc_v200 (show 1 ≤ x.2.1 ∧ x.2.1 ≤ 200 from h2)
    refine ⟨Int64.toInt_inj.mp ?_, by omega⟩
    rw [pk_lT (by omega)]
    omega
  · have h3 := h.2.2.1 q
    have h4 := h.2.2.2.2.1
    rw [h3, pk_lT (by omega), Int.toNat_natCast]
    exact ⟨rfl, by omega⟩
/-- one more node settled, the one ahead of those that are -/
theorem tc_adopt_step {kn : Nat → Nat} {nu wo : Nat → Int64} {si de la le : Nat → Nat} {L : List tc_Nd} {nd j s dd l e : Nat} {x : tc_Nd} {m : Nat} (hj : nd ≤ j) (hx : L[j - nd]? = some x) (hraw : tc_raw kn nu wo nd L) (hw : tc_wf m (L.drop (j - nd))) (hok : ∀ y ∈ L, tc_okn y)
    (h : tc_AR (kn, nu, wo, si, de, la, le) (j + 1) (L.drop (j + 1 - nd))) (g1 : s = tc_fs (kn j, nu j, []) ((tc_chs (kn j) j si).map si)) (g2 : dd = tc_fd (kn j, nu j, []) ((tc_chs (kn j) j si).map de)) (g3 : l = tc_fl (kn j, nu j, []) ((tc_chs (kn j) j si).map la)) (g4 : e = tc_ol (kn j) (nu j) + ((tc_chs (kn j) j si).map le).sum) :
    tc_AR (kn, nu, wo, va_up si j s, va_up de j dd, va_up la j l, va_up le j e) j (L.drop (j - nd)) := by
  have hdr : L.drop (j - nd) = x :: L.drop (j + 1 - nd) := by
    rw [show j + 1 - nd = (j - nd) + 1 by omega]
    obtain ⟨h1, h2⟩ := List.getElem?_eq_some_iff.mp hx
    rw [List.drop_eq_getElem_cons h1, h2]
  rw [hdr] at hw ⊢
  have hr := hraw _ _ hx
  rw [show nd + (j - nd) = j by omega] at hr
  have hset := tc_settled (k := x.1) (n := x.2.1) x.2.2 h hw.2 (by have := hw.1; omega)
  rw [hr.1, hr.2.1] at g1 g2 g3 g4
  refine ⟨⟨hr.1, hr.2.1, hr.2.2, ?_, ?_, ?_, ?_⟩, ?_⟩
  · show va_up si j s j = _
    rw [va_up_self, g1]; exact hset.1
  · show va_up de j dd j = _
    rw [va_up_self, g2]; exact hset.2.1
  · show va_up la j l j = _
    rw [va_up_self, g3]; exact hset.2.2.1
  · show va_up le j e j = _
    rw [va_up_self, g4]; exact hset.2.2.2
  · refine tc_AR_eq _ _ (fun y hy => hok y (List.mem_of_mem_drop hy)) (fun t ht => ?_) h
    have hne : (j + 1 + t) ≠ j := by omega
    exact ⟨rfl, rfl, fun _ _ => rfl, va_up_ne _ _ hne, va_up_ne _ _ hne, va_up_ne _ _ hne, va_up_ne _ _ hne⟩
theorem tc_adopt_RS {Ts : List (List tc_Nd)} {L : List tc_Nd} {kn : Nat → Nat} {nu wo : Nat → Int64} {si de la le sg dg lg eg ro : Nat → Nat} {tm nd en jn : Nat} (y1 : tc_RS Ts (kn, nu, wo, si, de, la, le) ro tm nd) (y2 : en = nd + L.length) (y3 : en ≤ 200) (y4 : tc_okt L) (hj : jn ≤ nd) (e1 : nd ≤ jn) (e3 : tc_AR (kn, nu, wo, sg, dg, lg, eg) 0 (tc_cat Ts)) (e4 : tc_AR (kn, nu, wo, sg, dg, lg, eg) jn (L.drop (jn - nd))) :
    tc_RS (L :: Ts) (kn, nu, wo, sg, dg, lg, eg) (va_up ro tm nd) (tm + 1) en := by
  obtain rfl : jn = nd := by omega
  rw [Nat.sub_self, List.drop_zero] at e4
  obtain ⟨h1, h2, h3, h4, h5, h6⟩ := y1
  refine ⟨?_, ?_, ?_, y3, ⟨?_, tc_rts_eq (fun i hi => va_up_ne _ _ (by omega)) h5⟩, ?_⟩
  · intro u hu
    rcases List.mem_cons.mp hu with rfl | hu
    · exact y4
    · exact h1 u hu
  · rw [h2]; rfl
  · show en = (tc_cat Ts ++ L).length
    rw [List.length_append]
    omega
  · rw [← h2, va_up_self, h3]
  · refine (tc_AR_app 0 _ (tc_cat_wf h1)).mpr ⟨e3, ?_⟩
    rw [Nat.zero_add, ← h3]
    exact e4
theorem tc_drop1 {α : Type} {L : List α} {i : Nat} {x : α} (h : L[i]? = some x) : L.drop i = x :: L.drop (i + 1) := by
  obtain ⟨h1, h2⟩ := List.getElem?_eq_some_iff.mp h
  rw [List.drop_eq_getElem_cons h1, h2]
theorem tc_al_at {kn : Nat → Nat} {nu wo : Nat → Int64} {si de la le : Nat → Nat} {x y : tc_Nd} {Rx Ry : List tc_Nd} {i j q : Nat} (h1 : tc_nd (kn, nu, wo, si, de, la, le) i x Rx) (h2 : tc_nd (kn, nu, wo, si, de, la, le) j y Ry) (e : x = y) (hq : q < x.2.2.length) : tc_wb wo i q = tc_wb wo j q := by
  subst e
  have hb : x.2.2[q]? = some (x.2.2[q]) := List.getElem?_eq_getElem hq
  rw [h1.2.2.1 q _ hb, h2.2.2.1 q _ hb]
theorem tc_al_8 {kn : Nat → Nat} {nu wo : Nat → Int64} {si de la le : Nat → Nat} {x y : tc_Nd} {Rx Ry : List tc_Nd} {i j : Nat} (h1 : tc_nd (kn, nu, wo, si, de, la, le) i x Rx) (h2 : tc_nd (kn, nu, wo, si, de, la, le) j y Ry) (o1 : tc_okn x) (o2 : tc_okn y) (e1 : kn i = kn j) (e2 : nu i = nu j) (h8 : kn i = 8) (hb : ∀ t, t < x.2.2.length → tc_wb wo i t = tc_wb wo j t) : x = y := by
  have a1 : x.1 = y.1 := by rw [← h1.1, ← h2.1, e1]
  have a2 : x.2.1 = y.2.1 := by rw [← h1.2.1, ← h2.2.1, e2]
  have l1 := o1.2.2.1 (by rw [← h1.1]; exact h8)
  have l2 := o2.2.2.1 (by rw [← h2.1, ← e1]; exact h8)
  have b1 := o1.2.2.2.2.1
  have b2 := o2.2.2.2.2.1
  have hl : x.2.2.length = y.2.2.length := (pk_lEQ (by omega) (by omega)).mp (l1.symm.trans (a2.trans l2))
  have a3 : x.2.2 = y.2.2 := by
    apply List.ext_getElem hl
    intro q q1 q2
    have c1 := h1.2.2.1 q _ (List.getElem?_eq_getElem q1)
    have c2 := h2.2.2.1 q _ (List.getElem?_eq_getElem q2)
    rw [← c1, ← c2]
    exact hb q q1
  exact Prod.ext a1 (Prod.ext a2 a3)
theorem tc_al_n {kn : Nat → Nat} {nu wo : Nat → Int64} {si de la le : Nat → Nat} {x y : tc_Nd} {Rx Ry : List tc_Nd} {i j : Nat} (h1 : tc_nd (kn, nu, wo, si, de, la, le) i x Rx) (h2 : tc_nd (kn, nu, wo, si, de, la, le) j y Ry) (o1 : tc_okn x) (o2 : tc_okn y) (e1 : kn i = kn j) (e2 : nu i = nu j) (h8 : ¬ kn i = 8) : x = y := by
  have a1 : x.1 = y.1 := by rw [← h1.1, ← h2.1, e1]
  have a2 : x.2.1 = y.2.1 := by rw [← h1.2.1, ← h2.2.1, e2]
  have l1 := o1.2.2.2.1 (by rw [← h1.1]; exact h8)
  have l2 := o2.2.2.2.1 (by rw [← h2.1, ← e1]; exact h8)
  exact Prod.ext a1 (Prod.ext a2 (l1.trans l2.symm))
