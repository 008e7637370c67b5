/-! PURE 16: the rest of a node. -/
section
variable {B : Nat → Nat} {n k p0 m p q : Nat} {x : Int64}
theorem tc_rE_l {e : Nat × Nat} (h : tc_rV B n k p = .inl e) : tc_rE B n k p0 m p = .inl e := by
  unfold tc_rE
  rw [h]
theorem tc_rE_3 (h : tc_rV B n k p = .inr (x, q)) (hf : tc_fit k x = false) : tc_rE B n k p0 m p = .inl (3, q - 1) := by
  unfold tc_rE
  rw [h]
  exact if_pos hf
theorem tc_rE_4 (h : tc_rV B n k p = .inr (x, q)) (hf : tc_fit k x = true) (h0 : k = 0) (hm : m < x.toInt.toNat) : tc_rE B n k p0 m p = .inl (4, p0) := by
  unfold tc_rE
  rw [h]
  show (if _ then _ else if _ then _ else _) = _
  rw [if_neg (by rw [hf]; decide), if_pos ⟨h0, hm⟩]
theorem tc_rE_o (h : tc_rV B n k p = .inr (x, q)) (hf : tc_fit k x = true) (hm : ¬ (k = 0 ∧ m < x.toInt.toNat)) (h8 : ¬ k = 8) : tc_rE B n k p0 m p = .inr ((k, x, []), q) := by
  unfold tc_rE
  rw [h]
  show (if _ then _ else if _ then _ else if _ then _ else _) = _
  rw [if_neg (by rw [hf]; decide), if_neg hm, if_neg h8]
theorem tc_rE_8f {c : Nat} (h : tc_rV B n k p = .inr (x, q)) (hf : tc_fit k x = true) (h8 : k = 8) (hc : x.toInt.toNat = c) (hl : n < q + c) : tc_rE B n k p0 m p = .inl (1, n) := by
  unfold tc_rE
  rw [h]
  show (if _ then _ else if _ then _ else if _ then (if _ then _ else _) else _) = _
  rw [if_neg (by rw [hf]; decide), if_neg (by omega), if_pos h8, if_neg (by omega)]
theorem tc_rE_8o {c : Nat} (h : tc_rV B n k p = .inr (x, q)) (hf : tc_fit k x = true) (h8 : k = 8) (hc : x.toInt.toNat = c) (hl : q + c ≤ n) : tc_rE B n k p0 m p = .inr ((8, x, tc_seg B q c), q + c) := by
  unfold tc_rE
  rw [h]
  show (if _ then _ else if _ then _ else if _ then (if _ then _ else _) else _) = _
  rw [if_neg (by rw [hf]; decide), if_neg (by omega), if_pos h8, if_pos (by omega), hc]
end
theorem tc_le_la {x : Int64} {la : Nat} (hl : la < 2 ^ 31) (h : x ≤ lN la) : ¬ la < x.toInt.toNat := by
  rw [Int64.le_iff_toInt_le, pk_lT (by omega)] at h
  omega
theorem tc_gt_la {x : Int64} {la : Nat} (hl : la < 2 ^ 31) (h : ¬ x ≤ lN la) : la < x.toInt.toNat := by
  rw [Int64.le_iff_toInt_le, pk_lT (by omega)] at h
  omega
theorem tc_fit8c {k : Nat} {x : Int64} (h8 : k = 8) (hf : tc_fit k x = true) : ∃ c, x = lN c ∧ c ≤ 64 ∧ x.toInt.toNat = c := by
  rw [tc_fit_iff, h8] at hf
  have hf : 0 ≤ x ∧ x ≤ 64 := hf
  have a1 : (0 : Int) ≤ x.toInt := Int64.le_iff_toInt_le.mp hf.1
  have a2 : x.toInt ≤ (64 : Int) := Int64.le_iff_toInt_le.mp hf.2
  refine ⟨x.toInt.toNat, Int64.toInt_inj.mp ?_, by omega, rfl⟩
  rw [pk_lT (by omega)]
  omega
theorem tc_lt0 {x : Int64} {c : Nat} (hc : x = lN c) (h64 : c ≤ 64) (h : ¬ x ≤ 0) : 0 < c := by
  rw [hc, Int64.le_iff_toInt_le, pk_lT (by omega)] at h
  have : ¬ (c : Int) ≤ 0 := h
  omega
theorem tc_le0 {x : Int64} {c : Nat} (hc : x = lN c) (h64 : c ≤ 64) (h : x ≤ 0) : c = 0 := by
  rw [hc, Int64.le_iff_toInt_le, pk_lT (by omega)] at h
  have : (c : Int) ≤ 0 := h
  omega
theorem tc_lt1 {x : Int64} {c j : Nat} (hc : x = lN c) (h64 : c ≤ 64) (hj : j < 2 ^ 31) (h : ¬ x ≤ lN j) : j < c := by
  rw [hc, pk_lLE (by omega) (by omega)] at h
  omega
theorem tc_le1 {x : Int64} {c j : Nat} (hc : x = lN c) (h64 : c ≤ 64) (hj : j < 2 ^ 31) (h : x ≤ lN j) : c ≤ j := by
  rw [hc, pk_lLE (by omega) (by omega)] at h
  exact h
theorem tc_seg_step {B : Nat → Nat} {wo wg wh : Nat → Int64} {i j nw : Nat} (e2 : ∀ q t, t < 64 → tc_wb wg q t = if q = i ∧ t < j then B (nw + t) else tc_wb wo q t) (g : ∀ q t, t < 64 → tc_wb wh q t = if q = i ∧ t = j then B (nw + j) else tc_wb wg q t) :
    ∀ q t, t < 64 → tc_wb wh q t = if q = i ∧ t < j + 1 then B (nw + t) else tc_wb wo q t := by
  intro q t ht
  rw [g q t ht]
  by_cases h : q = i ∧ t = j
  · rw [if_pos h, if_pos ⟨h.1, by omega⟩, h.2]
  · rw [if_neg h, e2 q t ht]
    by_cases h2 : q = i ∧ t < j
    · rw [if_pos h2, if_pos ⟨h2.1, by omega⟩]
    · rw [if_neg h2, if_neg (fun z => h2 ⟨z.1, by
        have : ¬ t = j := fun y => h ⟨z.1, y⟩
        have := z.2
        omega⟩)]
theorem tc_keep8 {B : Nat → Nat} {kn : Nat → Nat} {nu wo wg wh : Nat → Int64} {i j nw kd b : Nat} {xv : Int64} (e2 : ∀ q t, t < 64 → tc_wb wg q t = if q = i ∧ t < j then B (nw + t) else tc_wb wo q t) (g : ∀ q t, t < 64 → tc_wb wh q t = if q = i ∧ t = j then b else tc_wb wg q t) :
    ∀ y, y ≠ i → va_up kn i kd y = kn y ∧ vp_updL nu i xv y = nu y ∧ ∀ t, t < 64 → tc_wb wh y t = tc_wb wo y t := by
  intro y hy
  refine ⟨va_up_ne _ _ hy, pk_uLn hy, fun t ht => ?_⟩
  rw [g y t ht, if_neg (fun z => hy z.1), e2 y t ht, if_neg (fun z => hy z.1)]
theorem tc_seg_len (B : Nat → Nat) (p m : Nat) : (tc_seg B p m).length = m := by simp [tc_seg]
theorem tc_seg_at {B : Nat → Nat} {p m t b : Nat} (h : (tc_seg B p m)[t]? = some b) : t < m ∧ b = B (p + t) := by
  have hl : t < (tc_seg B p m).length := (List.getElem?_eq_some_iff.mp h).1
  rw [tc_seg_len] at hl
  refine ⟨hl, ?_⟩
  unfold tc_seg at h
  rw [List.getElem?_map, List.getElem?_range hl] at h
  exact (Option.some.inj h).symm
theorem tc_seg8 {B : Nat → Nat} {wo wg wh : Nat → Int64} {i j nw c : Nat} (e2 : ∀ q t, t < 64 → tc_wb wg q t = if q = i ∧ t < j then B (nw + t) else tc_wb wo q t) (g : ∀ q t, t < 64 → tc_wb wh q t = if q = i ∧ t = j then B (nw + j) else tc_wb wg q t) (hc : c = j + 1) (h64 : c ≤ 64) :
    ∀ t b, (tc_seg B nw c)[t]? = some b → tc_wb wh i t = b := by
  intro t b hb
  obtain ⟨h1, h2⟩ := tc_seg_at hb
  rw [tc_seg_step e2 g i t (by omega), if_pos ⟨rfl, by omega⟩, h2]
