/-! PURE 27: nodes read into the store. -/
def tc_PF (ids : List Nat) (m0 m1 : tc_St) : Prop := match m0, m1 with
  | (iu, ki, mu, fs, ss, tx), (iug, kig, mug, fsg, ssg, txg) => ids.Nodup ∧ (∀ c ∈ ids, c < 200 ∧ iu c = false ∧ iug c = true) ∧ ∀ i, i ∉ ids → iug i = iu i ∧ kig i = ki i ∧ mug i = mu i ∧ fsg i = fs i ∧ ssg i = ss i ∧ ∀ j, j < 64 → txg (64 * i + j) % 256 = tx (64 * i + j) % 256
theorem tc_PF_0 (m : tc_St) : tc_PF [] m m := by
  obtain ⟨iu, ki, mu, fs, ss, tx⟩ := m
  exact ⟨List.Pairwise.nil, (fun c hc => by cases hc), fun i _ => ⟨rfl, rfl, rfl, rfl, rfl, fun _ _ => rfl⟩⟩
theorem tc_PF_new {ids : List Nat} {m0 : tc_St} {iu : Nat → Bool} {ki kig : Nat → Nat} {mu mug : Nat → Int64} {fs ss fsg ssg : Nat → Option Nat} {tx txg : Nat → Nat} {m : Nat} (h : tc_PF ids m0 (iu, ki, mu, fs, ss, tx)) (hm : m < 200) (hu : iu m = false) (hk : ∀ i, i ∉ ids → i ≠ m → kig i = ki i ∧ mug i = mu i ∧ fsg i = fs i ∧ ssg i = ss i ∧ ∀ t, t < 64 → txg (64 * i + t) % 256 = tx (64 * i + t) % 256) : tc_PF (ids ++ [m]) m0 (va_up iu m true, kig, mug, fsg, ssg, txg) := by
  obtain ⟨iu0, ki0, mu0, fs0, ss0, tx0⟩ := m0
  obtain ⟨a1, a2, a3⟩ := h
  have hmn : m ∉ ids := fun q => by
    have := (a2 m q).2.2
    rw [hu] at this
    cases this
  refine ⟨?_, ?_, ?_⟩
  · refine List.nodup_append.mpr ⟨a1, by simp, fun a ha b hb => ?_⟩
    rw [List.mem_singleton.mp hb]
    exact fun e => hmn (e ▸ ha)
  · intro c hc
    rcases List.mem_append.mp hc with q | q
    · obtain ⟨b1, b2, b3⟩ := a2 c q
      exact ⟨b1, b2, by rw [va_up_ne _ _ (show c ≠ m from fun e => hmn (e ▸ q))]; exact b3⟩
    · rw [List.mem_singleton.mp q]
      exact ⟨hm, by rw [← (a3 m hmn).1]; exact hu, va_up_self _ _ _⟩
  · intro i hi
    have hi1 : i ∉ ids := fun q => hi (List.mem_append_left _ q)
    have hi2 : i ≠ m := fun q => hi (List.mem_append_right _ (by rw [q]; simp))
    obtain ⟨b1, b2, b3, b4, b5, b6⟩ := a3 i hi1
    obtain ⟨c1, c2, c3, c4, c5⟩ := hk i hi1 hi2
    exact ⟨by rw [va_up_ne _ _ hi2]; exact b1, c1.trans b2, c2.trans b3, c3.trans b4, c4.trans b5, fun j hj => (c5 j hj).trans (b6 j hj)⟩
theorem tc_by_0 {v : Nat} (h : v < 256) : tc_by (lN v) 0 = v := by
  unfold tc_by
  rw [tc_uN_lN (by omega)]
  simp only [Nat.mul_zero, Nat.pow_zero]
  omega
theorem tc_fit6 {c : Nat} (h : c < 256) : tc_fitP 6 (lN c) ↔ c < 32 := by
  show (0 ≤ lN c ∧ lN c ≤ 31) ↔ _
  rw [Int64.le_iff_toInt_le, Int64.le_iff_toInt_le, pk_lT (by omega), show (0 : Int64).toInt = 0 from rfl, show (31 : Int64).toInt = 31 from rfl]
  omega
theorem tc_fit9 {c : Nat} (h : c < 256) : tc_fitP 9 (lN c) ↔ c < 2 := by
  show (lN c = 0 ∨ lN c = 1) ↔ _
  rw [show (0 : Int64) = lN 0 from rfl, show (1 : Int64) = lN 1 from rfl, pk_lEQ (by omega) (by decide), pk_lEQ (by omega) (by decide)]
  omega
theorem tc_fit8' {c : Nat} (h : c < 256) : tc_fitP 8 (lN c) ↔ c ≤ 64 := by
  show (0 ≤ lN c ∧ lN c ≤ 64) ↔ _
  rw [Int64.le_iff_toInt_le, Int64.le_iff_toInt_le, pk_lT (by omega), show (0 : Int64).toInt = 0 from rfl, show (64 : Int64).toInt = 64 from rfl]
  omega
theorem tc_rV_0 {B : Nat → Nat} {n p : Nat} : tc_rV B n 0 p = tc_rU B n p := rfl
theorem tc_rV_7 {B : Nat → Nat} {n p : Nat} : tc_rV B n 7 p = tc_rS B n p := rfl
theorem tc_rV_b {B : Nat → Nat} {n p k : Nat} (hk : k = 6 ∨ k = 8 ∨ k = 9) (h : p < n) : tc_rV B n k p = .inr (lN (B p), p + 1) := by
  rcases hk with rfl | rfl | rfl <;> (show tc_rB B n p = _; exact if_neg (Nat.not_le.mpr h))
theorem tc_rV_e {B : Nat → Nat} {n p k : Nat} (hk : k = 6 ∨ k = 8 ∨ k = 9) (h : n ≤ p) : tc_rV B n k p = .inl (1, n) := by
  rcases hk with rfl | rfl | rfl <;> (show tc_rB B n p = _; exact if_pos h)
theorem tc_mn_n8 {ki : Nat → Nat} {mu : Nat → Int64} {tx : Nat → Nat} {i k : Nat} {x : Int64} (h1 : ki i = k) (h2 : mu i = x) (h8 : ¬ k = 8) : tc_mn ki mu tx i = (k, x, []) := by
  unfold tc_mn
  rw [h1, h2, if_neg h8]
theorem tc_mn_8 {ki : Nat → Nat} {mu : Nat → Int64} {tx B : Nat → Nat} {i c q : Nat} (h1 : ki i = 8) (h2 : mu i = lN c) (hc : c ≤ 64) (h : ∀ t, t < c → tx (64 * i + t) % 256 = B (q + t)) : tc_mn ki mu tx i = (8, lN c, tc_seg B q c) := by
  unfold tc_mn tc_seg
  rw [h1, h2, if_pos rfl, pk_lT (by omega), Int.toNat_natCast]
  congr 2
  exact List.map_congr_left (fun t ht => h t (List.mem_range.mp ht))
theorem tc_ap_keep {m c n : Nat} {x : Int64} {tx tg : Nat → Nat} (hc : c + n ≤ 64) (g3 : ∀ q, tg q % 256 = if 64 * m + c ≤ q ∧ q < 64 * m + c + n then tc_by x (n - 1 - (q - (64 * m + c))) else tx q % 256) : (∀ i, i ≠ m → ∀ t, t < 64 → tg (64 * i + t) % 256 = tx (64 * i + t) % 256) ∧ ∀ t, t < c → tg (64 * m + t) % 256 = tx (64 * m + t) % 256 := by
  refine ⟨fun i hi t ht => ?_, fun t ht => ?_⟩
  · rw [g3, if_neg (by omega)]
  · rw [g3, if_neg (by omega)]
theorem tc_ap_one {m c : Nat} {x : Int64} {tx tg : Nat → Nat} (g3 : ∀ q, tg q % 256 = if 64 * m + c ≤ q ∧ q < 64 * m + c + 1 then tc_by x (1 - 1 - (q - (64 * m + c))) else tx q % 256) : tg (64 * m + c) % 256 = tc_by x 0 := by
  rw [g3, if_pos (by omega)]
  congr 1
  omega
theorem tc_seg1 {m i q : Nat} {B tx1 tx2 : Nat → Nat} (e5 : ∀ t, t < i → tx1 (64 * m + t) % 256 = B (q + t)) (k : ∀ t, t < i → tx2 (64 * m + t) % 256 = tx1 (64 * m + t) % 256) (h : tx2 (64 * m + i) % 256 = B (q + i)) : ∀ t, t < i + 1 → tx2 (64 * m + t) % 256 = B (q + t) := by
  intro t ht
  rcases Nat.lt_or_ge t i with y | y
  · exact (k t y).trans (e5 t y)
  · rw [show t = i by omega]
    exact h
