/-! PURE 11: two terms alike; the bytes of a node. -/
theorem tc_two {t t1 : List tc_Nd} {R : List (List tc_Nd)} {kn : Nat → Nat} {nu wo : Nat → Int64} {si de la le ro : Nat → Nat} {tm nd : Nat} (h : tc_RS (t :: t1 :: R) (kn, nu, wo, si, de, la, le) ro tm nd) :
    2 ≤ tm ∧ tm ≤ 200 ∧ tc_AR (kn, nu, wo, si, de, la, le) (ro (tm - 2)) t1 ∧ tc_AR (kn, nu, wo, si, de, la, le) (ro (tm - 1)) t ∧ si (ro (tm - 2)) = t1.length ∧ si (ro (tm - 1)) = t.length ∧ ro (tm - 2) + t1.length ≤ 200 ∧ ro (tm - 1) + t.length ≤ 200 ∧ 0 < t.length ∧ 0 < t1.length ∧ tc_okt t ∧ tc_okt t1 := by
  obtain ⟨z1, z2, z3, z4, z5, z6, z7, z8, z9, -⟩ := tc_top h
  have hb := tc_RS_tail h
  obtain ⟨w1, w2, w3, w4, w5, w6, w7, w8, w9, -⟩ := tc_top hb
  have hl : (t1 :: R).length = R.length + 1 := rfl
  have e : tm - 1 - 1 = tm - 2 := by omega
  rw [e] at w2
  have ht := tc_RS_tm h
  rw [w2, z2]
  refine ⟨by omega, ht.1, w8, z8, w9, z9, by omega, by omega, z5, w5, h.1 t List.mem_cons_self, h.1 t1 (List.mem_cons_of_mem _ List.mem_cons_self)⟩
theorem tc_at_k {a : tc_Ar} {L : List tc_Nd} {r k : Nat} {x : tc_Nd} (h : tc_AR a r L) (hx : L[k]? = some x) : tc_nd a (r + k) x (L.drop (k + 1)) := tc_AR_at r k x _ (tc_drop1 hx) h
theorem tc_ext_k {α : Type} {A B : List α} (hl : A.length = B.length) (h : ∀ i, i < A.length → A[i]? = B[i]?) : A = B := by
  apply List.ext_getElem?
  intro i
  rcases Nat.lt_or_ge i A.length with q | q
  · exact h i q
  · rw [List.getElem?_eq_none q, List.getElem?_eq_none (by omega)]
/-- bg is bf with L behind its first sz bytes -/
def tc_apd (bf : Nat → Nat) (sz : Nat) (bg : Nat → Nat) (L : List Nat) : Prop := (∀ j, j < sz → bg j = bf j) ∧ ∀ j b, L[j]? = some b → bg (sz + j) = b
theorem tc_apd_0 (bf : Nat → Nat) (sz : Nat) : tc_apd bf sz bf [] := ⟨fun _ _ => rfl, fun j b h => by simp at h⟩
theorem tc_apd_1 {bf bg : Nat → Nat} {sz s : Nat} {L : List Nat} (h : tc_apd bf sz bg L) (hs : s = sz + L.length) {v w : Nat} (hv : v = w) : tc_apd bf sz (va_up bg s v) (L ++ [w]) := by
  refine ⟨fun j hj => (va_up_ne _ _ (by omega)).trans (h.1 j hj), fun j b hb => ?_⟩
  rcases Nat.lt_or_ge j L.length with q | q
  · rw [List.getElem?_append_left q] at hb
    exact (va_up_ne _ _ (by omega)).trans (h.2 j b hb)
  · rw [List.getElem?_append_right q] at hb
    have hj : j - L.length = 0 := by
      have := (List.getElem?_eq_some_iff.mp hb).1
      simp at this
      omega
    rw [hj] at hb
    have hb : w = b := by simpa using hb
    rw [show sz + j = s by omega, va_up_self, hv, hb]
def tc_grs (x : Int64) (g : Nat) : List Nat := (List.range g).map (tc_grb x g)
theorem tc_grs_len (x : Int64) (g : Nat) : (tc_grs x g).length = g := by simp [tc_grs]
theorem tc_apd_g {bf bg bh : Nat → Nat} {sz s : Nat} {L : List Nat} {x : Int64} {g : Nat} (h : tc_apd bf sz bg L) (hs : s = sz + L.length) (g1 : ∀ j, j < s → bh j = bg j) (g2 : ∀ j, j < g → bh (s + j) = tc_grb x g j) : tc_apd bf sz bh (L ++ tc_grs x g) := by
  refine ⟨fun j hj => (g1 j (by omega)).trans (h.1 j hj), fun j b hb => ?_⟩
  rcases Nat.lt_or_ge j L.length with q | q
  · rw [List.getElem?_append_left q] at hb
    exact (g1 _ (by omega)).trans (h.2 j b hb)
  · rw [List.getElem?_append_right q] at hb
    have hj : j - L.length < g := by
      have := (List.getElem?_eq_some_iff.mp hb).1
      rw [tc_grs_len] at this
      exact this
    unfold tc_grs at hb
    rw [List.getElem?_map, List.getElem?_range hj] at hb
    have hb : tc_grb x g (j - L.length) = b := Option.some.inj hb
    rw [show sz + j = s + (j - L.length) by omega, g2 _ hj, hb]
def tc_mid (x : tc_Nd) : List Nat := if x.1 = 0 then tc_grs x.2.1 (tc_gU x.2.1.toInt.toNat) else if x.1 = 7 then tc_grs x.2.1 (tc_gS x.2.1.toInt) else if x.1 = 6 ∨ x.1 = 9 ∨ x.1 = 8 then [x.2.1.toInt.toNat] else []
/-- the bytes of a node -/
def tc_nb (x : tc_Nd) : List Nat := x.1 :: tc_mid x ++ x.2.2
theorem tc_mid_len {x : tc_Nd} : (tc_mid x).length ≤ 10 := by
  unfold tc_mid
  have h1 := tc_gU_le x.2.1.toInt.toNat
  have h2 := tc_gS_le x.2.1.toInt
  split
  · rw [tc_grs_len]; omega
  · split
    · rw [tc_grs_len]; omega
    · split <;> simp
theorem tc_okn_w {x : tc_Nd} (h : tc_okn x) (hk : x.1 = 0 ∨ x.1 = 6 ∨ x.1 = 9 ∨ x.1 = 8) : x.2.1 = lN x.2.1.toInt.toNat ∧ x.2.1.toInt.toNat ≤ 200 := by
  have key : ∀ y : Int64, 0 ≤ y.toInt → y.toInt ≤ 200 → y = lN y.toInt.toNat ∧ y.toInt.toNat ≤ 200 := by
    intro y h1 h2
    refine ⟨Int64.toInt_inj.mp ?_, by omega⟩
    rw [pk_lT (by omega)]
    omega
  have h2 := h.2.1
  rcases hk with q | q | q | q
  · rw [q] at h2
    have h1 := tc_v200 (show 1 ≤ x.2.1 ∧ x.2.1 ≤ 200 from h2)
    exact key _ (by omega) (by omega)
  · rw [q] at h2
    have h1 : 0 ≤ x.2.1 ∧ x.2.1 ≤ 31 := h2
    have a1 : (0 : Int) ≤ x.2.1.toInt := Int64.le_iff_toInt_le.mp h1.1
    have a2 : x.2.1.toInt ≤ (31 : Int) := Int64.le_iff_toInt_le.mp h1.2
    exact key _ (by omega) (by omega)
  · rw [q] at h2
    have h1 : x.2.1 = 0 ∨ x.2.1 = 1 := h2
    rcases h1 with h1 | h1
    · rw [h1]; decide
    · rw [h1]; decide
  · have h3 := h.2.2.1 q
    have h4 := h.2.2.2.2.1
    rw [h3, pk_lT (by omega), Int.toNat_natCast]
    exact ⟨rfl, by omega⟩
theorem tc_l2iN {x : Int64} {v : Nat} (h : x = lN v) : x.toInt32 = nI v := by rw [h]; exact lN_i v
theorem tc_take1 {L : List Nat} {j b : Nat} (h : L[j]? = some b) : L.take (j + 1) = L.take j ++ [b] := by
  obtain ⟨h1, h2⟩ := List.getElem?_eq_some_iff.mp h
  rw [List.take_succ_eq_append_getElem h1, h2]
theorem tc_mid_none {x : tc_Nd} (h0 : ¬ x.1 = 0) (h7 : ¬ x.1 = 7) (h6 : ¬ x.1 = 6) (h9 : ¬ x.1 = 9) (h8 : ¬ x.1 = 8) : tc_mid x = [] := by
  unfold tc_mid
  rw [if_neg h0, if_neg h7, if_neg (by omega)]
