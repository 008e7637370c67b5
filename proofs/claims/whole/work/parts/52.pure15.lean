/-! PURE 15: reading, as it is to be: B the bytes, n how many there are, p the place. A fault is (its number, its place). -/
/-- groups of seven bits from p on, m at most: their value, how many, the last byte (128: none ended them), whether the end was met -/
def tc_scan (B : Nat → Nat) (n : Nat) : Nat → Nat → Nat → Nat → Nat × Nat × Nat × Bool
  | 0, _, v, k => (v, k, 128, false)
  | m + 1, p, v, k => if n ≤ p then (v, k + 1, 0, true) else if B p < 128 then (v + B p * 2 ^ (7 * k), k + 1, B p, false) else tc_scan B n m (p + 1) (v + (B p % 128) * 2 ^ (7 * k)) (k + 1)
abbrev tc_Rs (α : Type) : Type := (Nat × Nat) ⊕ (α × Nat)
def tc_rU (B : Nat → Nat) (n p : Nat) : tc_Rs Int64 := match tc_scan B n 5 p 0 0 with
  | (v, k, b, e) => if e = true then .inl (1, n) else if 128 ≤ b ∨ 2147483647 < v ∨ tc_gU v ≠ k then .inl (2, p + k - 1) else .inr (lN v, p + k)
def tc_sgn (v k b : Nat) : Int64 := if k < 10 ∧ 64 ≤ b then lN v ||| ((-1 : Int64) <<< ((nI (7 * k)).toInt64 &&& 63)) else lN v
def tc_rS (B : Nat → Nat) (n p : Nat) : tc_Rs Int64 := match tc_scan B n 10 p 0 0 with
  | (v, k, b, e) => if e = true then .inl (1, n) else if 128 ≤ b ∨ (k = 10 ∧ ¬ b = 0 ∧ ¬ b = 127) ∨ tc_gS (tc_sgn v k b).toInt ≠ k then .inl (2, p + k - 1) else .inr (tc_sgn v k b, p + k)
def tc_rB (B : Nat → Nat) (n p : Nat) : tc_Rs Int64 := if n ≤ p then .inl (1, n) else .inr (lN (B p), p + 1)
def tc_rV (B : Nat → Nat) (n k p : Nat) : tc_Rs Int64 := if k = 0 then tc_rU B n p else if k = 7 then tc_rS B n p else if k = 6 ∨ k = 8 ∨ k = 9 then tc_rB B n p else .inr (0, p)
def tc_seg (B : Nat → Nat) (p m : Nat) : List Nat := (List.range m).map (fun j => B (p + j))
/-- the rest of a node of kind k, from p on: p0 is the place of its kind, m the lambdas around it -/
noncomputable def tc_rE (B : Nat → Nat) (n k p0 m p : Nat) : tc_Rs tc_Nd := match tc_rV B n k p with
  | .inl e => .inl e
  | .inr (x, q) => if tc_fit k x = false then .inl (3, q - 1) else if k = 0 ∧ m < x.toInt.toNat then .inl (4, p0) else if k = 8 then (if q + x.toInt.toNat ≤ n then .inr ((8, x, tc_seg B q x.toInt.toNat), q + x.toInt.toNat) else .inl (1, n)) else .inr ((k, x, []), q)
/-- a node at p: l its level, m the lambdas around it, i the nodes that there are -/
noncomputable def tc_rN (B : Nat → Nat) (n p l m i : Nat) : tc_Rs tc_Nd := if n ≤ p then .inl (1, n) else if 11 < B p then .inl (3, p) else if 60 < l then .inl (5, p) else if 200 ≤ i then .inl (6, p) else tc_rE B n (B p) p m (p + 1)
/-- nodes for all open places -/
noncomputable def tc_rL (B : Nat → Nat) (n nd : Nat) : Nat → Nat → List tc_Q → List tc_Nd → tc_Rs (List tc_Nd)
  | 0, p, _, L => .inr (L, p)
  | _ + 1, p, [], L => .inr (L, p)
  | f + 1, p, q :: st, L => match tc_rN B n p q.2.1 q.2.2 (nd + L.length) with
    | .inl e => .inl e
    | .inr (x, p') => tc_rL B n nd f p' (tc_kid L.length x q ++ st) (L ++ [x])
noncomputable def tc_rT (B : Nat → Nat) (n nd p : Nat) : tc_Rs (List tc_Nd) := tc_rL B n nd 202 p [tc_q0] []
theorem tc_or_add {v g s : Nat} (h : v < 2 ^ s) : lN v ||| lN (g * 2 ^ s) = lN (v + g * 2 ^ s) := by
  have h1 : lN v ||| lN (g * 2 ^ s) = lN (v ||| g * 2 ^ s) := by
    apply wb_inj
    rw [Int64.toBitVec_or, wb_tb, wb_tb, wb_tb, BitVec.ofNat_or]
  rw [h1]
  congr 1
  rw [Nat.or_comm, Nat.mul_comm, ← Nat.two_pow_add_eq_or_of_lt h]
  omega
theorem tc_grp_or {v g k : Nat} (hk : k ≤ 9) (h : v < 2 ^ (7 * k)) : lN v ||| (lN g <<< ((nI (7 * k)).toInt64 &&& 63)) = lN (v + g * 2 ^ (7 * k)) := by
  rw [wb_shl g (by omega), tc_or_add h]
theorem tc_grp_lt {v g k : Nat} (h : v < 2 ^ (7 * k)) (hg : g < 128) : v + g * 2 ^ (7 * k) < 2 ^ (7 * (k + 1)) := by
  have e : 2 ^ (7 * (k + 1)) = 128 * 2 ^ (7 * k) := by
    rw [show 7 * (k + 1) = 7 + 7 * k by omega, Nat.pow_add]
  rw [e]
  have : g * 2 ^ (7 * k) ≤ 127 * 2 ^ (7 * k) := Nat.mul_le_mul_right _ (by omega)
  omega
theorem tc_p35 {v k : Nat} (h : v < 2 ^ (7 * k)) (hk : k ≤ 5) : v < 34359738368 := Nat.lt_of_lt_of_le h (show 2 ^ (7 * k) ≤ 2 ^ 35 from Nat.pow_le_pow_right (by decide) (by omega))
theorem tc_scan_e {B : Nat → Nat} {n m p v k : Nat} (h : n ≤ p) : tc_scan B n (m + 1) p v k = (v, k + 1, 0, true) := if_pos h
theorem tc_scan_l {B : Nat → Nat} {n m p v k : Nat} (h : ¬ n ≤ p) (hb : B p < 128) : tc_scan B n (m + 1) p v k = (v + B p * 2 ^ (7 * k), k + 1, B p, false) := by
  show (if _ then _ else _) = _
  rw [if_neg h, if_pos hb]
theorem tc_scan_m {B : Nat → Nat} {n m p v k : Nat} (h : ¬ n ≤ p) (hb : ¬ B p < 128) : tc_scan B n (m + 1) p v k = tc_scan B n m (p + 1) (v + (B p % 128) * 2 ^ (7 * k)) (k + 1) := by
  show (if _ then _ else _) = _
  rw [if_neg h, if_neg hb]
theorem tc_and127N {b : Nat} (h : b < 2 ^ 31) : nI b &&& nI 127 = nI (b % 128) := pk_andN (by omega) 7 (by decide)
theorem tc_rU_e {B : Nat → Nat} {n p v k b : Nat} (h : tc_scan B n 5 p 0 0 = (v, k, b, true)) : tc_rU B n p = .inl (1, n) := by
  unfold tc_rU
  rw [h]
  rfl
theorem tc_rU_f {B : Nat → Nat} {n p v k b : Nat} (h : tc_scan B n 5 p 0 0 = (v, k, b, false)) (hb : 128 ≤ b ∨ 2147483647 < v ∨ tc_gU v ≠ k) : tc_rU B n p = .inl (2, p + k - 1) := by
  unfold tc_rU
  rw [h]
  show (if _ then _ else if _ then _ else _) = _
  rw [if_neg (by decide), if_pos hb]
theorem tc_rU_o {B : Nat → Nat} {n p v k b : Nat} (h : tc_scan B n 5 p 0 0 = (v, k, b, false)) (hb : ¬ (128 ≤ b ∨ 2147483647 < v ∨ tc_gU v ≠ k)) : tc_rU B n p = .inr (lN v, p + k) := by
  unfold tc_rU
  rw [h]
  show (if _ then _ else if _ then _ else _) = _
  rw [if_neg (by decide), if_neg hb]
theorem tc_rS_e {B : Nat → Nat} {n p v k b : Nat} (h : tc_scan B n 10 p 0 0 = (v, k, b, true)) : tc_rS B n p = .inl (1, n) := by
  unfold tc_rS
  rw [h]
  rfl
theorem tc_rS_f {B : Nat → Nat} {n p v k b : Nat} (h : tc_scan B n 10 p 0 0 = (v, k, b, false)) (hb : 128 ≤ b ∨ (k = 10 ∧ ¬ b = 0 ∧ ¬ b = 127) ∨ tc_gS (tc_sgn v k b).toInt ≠ k) : tc_rS B n p = .inl (2, p + k - 1) := by
  unfold tc_rS
  rw [h]
  show (if _ then _ else if _ then _ else _) = _
  rw [if_neg (by decide), if_pos hb]
theorem tc_rS_o {B : Nat → Nat} {n p v k b : Nat} (h : tc_scan B n 10 p 0 0 = (v, k, b, false)) (hb : ¬ (128 ≤ b ∨ (k = 10 ∧ ¬ b = 0 ∧ ¬ b = 127) ∨ tc_gS (tc_sgn v k b).toInt ≠ k)) : tc_rS B n p = .inr (tc_sgn v k b, p + k) := by
  unfold tc_rS
  rw [h]
  show (if _ then _ else if _ then _ else _) = _
  rw [if_neg (by decide), if_neg hb]
theorem tc_and64 {b : Nat} (h : b < 256) : nI b &&& nI 64 = nI 0 ↔ b % 128 < 64 := by
  have h1 : ∀ b, b < 256 → (nI b &&& nI 64 = nI 0 ↔ b % 128 < 64) := by decide +kernel
  exact h1 b h
def tc_f1 (fa f : Nat) : Nat := if fa = 0 then f else fa
def tc_f2 (fa : Nat) (pl : Option Nat) (w : Nat) : Option Nat := if fa = 0 then some w else pl
theorem tc_f1_n {fa f : Nat} (h : ¬ fa = 0) : tc_f1 fa f = fa := if_neg h
theorem tc_f2_n {fa w : Nat} {pl : Option Nat} (h : ¬ fa = 0) : tc_f2 fa pl w = pl := if_neg h
theorem tc_f1_0 {fa f : Nat} (h : fa = 0) : tc_f1 fa f = f := if_pos h
theorem tc_f2_0 {fa w : Nat} {pl : Option Nat} (h : fa = 0) : tc_f2 fa pl w = some w := if_pos h
def tc_B (g : Nat → Nat) : Nat → Nat := fun j => g j % 256
