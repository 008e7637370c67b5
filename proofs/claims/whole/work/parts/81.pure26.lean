/-! PURE 26: the model's reading of groups. -/
theorem tc_grp_add {v g k : Nat} (hk : k ≤ 9) : lN v + (lN g <<< ((nI (7 * k)).toInt64 &&& 63)) = lN (v + g * 2 ^ (7 * k)) := by
  rw [wb_shl _ (by omega), lN_add]
theorem tc_gU_grp {w kk b : Nat} (h1 : 1 ≤ kk) (h5 : kk ≤ 5) (hb : b < 128) (lo : b * 2 ^ (7 * (kk - 1)) ≤ w) (hi : w < (b + 1) * 2 ^ (7 * (kk - 1))) : tc_gU w = kk ↔ (kk = 1 ∨ b ≠ 0) := by
  have hc : kk = 1 ∨ kk = 2 ∨ kk = 3 ∨ kk = 4 ∨ kk = 5 := by omega
  unfold tc_gU
  rcases hc with rfl | rfl | rfl | rfl | rfl <;> simp only [Nat.reduceSub, Nat.reduceMul, Nat.reducePow] at lo hi <;> repeat' split
  all_goals (constructor <;> intro <;> omega)
theorem tc_grp_lo {v b k : Nat} (hv : v < 2 ^ (7 * k)) : b * 2 ^ (7 * (k + 1 - 1)) ≤ v + b * 2 ^ (7 * k) ∧ v + b * 2 ^ (7 * k) < (b + 1) * 2 ^ (7 * (k + 1 - 1)) := by
  rw [Nat.add_sub_cancel, Nat.add_mul, Nat.one_mul]
  omega
theorem tc_and64N {b : Nat} (h : b < 256) : nI b &&& nI 64 = nI (b % 128 / 64 * 64) := by
  have h1 : ∀ b, b < 256 → nI b &&& nI 64 = nI (b % 128 / 64 * 64) := by decide +kernel
  exact h1 b h
theorem tc_m1sh {k : Nat} (h : k ≤ 9) : (-1 : Int64) <<< ((nI (7 * k)).toInt64 &&& 63) = lN (18446744073709551616 - 2 ^ (7 * k)) := by
  have h1 : ∀ k, k < 10 → (-1 : Int64) <<< ((nI (7 * k)).toInt64 &&& 63) = lN (18446744073709551616 - 2 ^ (7 * k)) := by decide +kernel
  exact h1 k (by omega)
theorem tc_sgn_hi {w k b : Nat} (hk : k ≤ 9) (hb : 64 ≤ b) (hw : w < 2 ^ (7 * k)) : (tc_sgn w k b).toInt = (w : Int) - (2 ^ (7 * k) : Nat) := by
  unfold tc_sgn
  rw [if_pos ⟨by omega, hb⟩, tc_m1sh hk]
  have hp : 2 ^ (7 * k) ≤ 2 ^ 63 := Nat.pow_le_pow_right (by decide) (by omega)
  have hs : (2 : Nat) ^ 63 = 9223372036854775808 := by decide
  have hg : 18446744073709551616 - 2 ^ (7 * k) = (2 ^ (64 - 7 * k) - 1) * 2 ^ (7 * k) := by
    rw [Nat.sub_mul, ← Nat.pow_add, show 64 - 7 * k + 7 * k = 64 by omega, Nat.one_mul]
  rw [hg, tc_or_add hw, ← hg]
  have hu : uN (lN (w + (18446744073709551616 - 2 ^ (7 * k)))) = w + (18446744073709551616 - 2 ^ (7 * k)) := tc_uN_lN (by omega)
  rw [uN_int, hu, if_neg (by omega)]
  omega
theorem tc_sgn_lo {w k b : Nat} (hb : ¬ (k < 10 ∧ 64 ≤ b)) : tc_sgn w k b = lN w := if_neg hb
theorem tc_sgn_10 {v b : Nat} (hb : b = 127) (hv : v < 9223372036854775808) : (lN (v + b * 9223372036854775808)).toInt = (v : Int) - 9223372036854775808 := by
  subst hb
  rw [wb_mod, show (v + 127 * 9223372036854775808) % 2 ^ 64 = v + 9223372036854775808 by omega, uN_int, tc_uN_lN (by omega), if_neg (by omega)]
  omega
/-- the shortest form, by the last byte and the bit before it -/
theorem tc_gS_grp {v kk b t : Nat} (h1 : 1 ≤ kk) (h10 : kk ≤ 10) (hb : b < 128) (hv : v < 2 ^ (7 * (kk - 1))) (ht : t = 0 ∨ t = 64) (hbit : 1 < kk → (t = 64 ↔ 2 ^ (7 * (kk - 1) - 1) ≤ v)) (hbe : ¬ (kk = 10 ∧ ¬ b = 0 ∧ ¬ b = 127)) : tc_gS (tc_sgn (v + b * 2 ^ (7 * (kk - 1))) kk b).toInt = kk ↔ ¬ (1 < kk ∧ ((b = 0 ∧ t = 0) ∨ (b = 127 ∧ t = 64))) := by
  by_cases hk : kk = 10
  · subst hk
    simp only [Nat.reduceSub, Nat.reduceMul, Nat.reducePow] at hv hbit ⊢
    have hbit := hbit (by omega)
    rw [tc_sgn_lo (by omega)]
    rcases (show b = 0 ∨ b = 127 by omega) with rfl | rfl
    · rw [Nat.zero_mul, Nat.add_zero, pk_lT (by omega)]
      have a := tc_gSl9 (v : Int)
      have c := tc_gS_le (v : Int)
      omega
    · rw [tc_sgn_10 rfl hv]
      have a := tc_gSl9 ((v : Int) - 9223372036854775808)
      have c := tc_gS_le ((v : Int) - 9223372036854775808)
      omega
  · have hc : kk = 1 ∨ kk = 2 ∨ kk = 3 ∨ kk = 4 ∨ kk = 5 ∨ kk = 6 ∨ kk = 7 ∨ kk = 8 ∨ kk = 9 := by omega
    by_cases h64 : 64 ≤ b
    · have hw : v + b * 2 ^ (7 * (kk - 1)) < 2 ^ (7 * kk) := by
        have := tc_grp_lt (v := v) (g := b) (k := kk - 1) hv hb
        rw [show kk - 1 + 1 = kk by omega] at this
        exact this
      rw [tc_sgn_hi (by omega) h64 hw]
      rcases hc with rfl | rfl | rfl | rfl | rfl | rfl | rfl | rfl | rfl <;> simp only [Nat.reduceSub, Nat.reduceMul, Nat.reducePow] at hv hbit ⊢
      · have a := tc_gSl1 (((v + b * 1 : Nat) : Int) - (128 : Nat))
        have c := tc_gS_pos (((v + b * 1 : Nat) : Int) - (128 : Nat))
        omega
      · have a := tc_gSl2 (((v + b * 128 : Nat) : Int) - (16384 : Nat))
        have c := tc_gSl1 (((v + b * 128 : Nat) : Int) - (16384 : Nat))
        have hbit := hbit (by omega)
        omega
      · have a := tc_gSl3 (((v + b * 16384 : Nat) : Int) - (2097152 : Nat))
        have c := tc_gSl2 (((v + b * 16384 : Nat) : Int) - (2097152 : Nat))
        have hbit := hbit (by omega)
        omega
      · have a := tc_gSl4 (((v + b * 2097152 : Nat) : Int) - (268435456 : Nat))
        have c := tc_gSl3 (((v + b * 2097152 : Nat) : Int) - (268435456 : Nat))
        have hbit := hbit (by omega)
        omega
      · have a := tc_gSl5 (((v + b * 268435456 : Nat) : Int) - (34359738368 : Nat))
        have c := tc_gSl4 (((v + b * 268435456 : Nat) : Int) - (34359738368 : Nat))
        have hbit := hbit (by omega)
        omega
      · have a := tc_gSl6 (((v + b * 34359738368 : Nat) : Int) - (4398046511104 : Nat))
        have c := tc_gSl5 (((v + b * 34359738368 : Nat) : Int) - (4398046511104 : Nat))
        have hbit := hbit (by omega)
        omega
      · have a := tc_gSl7 (((v + b * 4398046511104 : Nat) : Int) - (562949953421312 : Nat))
        have c := tc_gSl6 (((v + b * 4398046511104 : Nat) : Int) - (562949953421312 : Nat))
        have hbit := hbit (by omega)
        omega
      · have a := tc_gSl8 (((v + b * 562949953421312 : Nat) : Int) - (72057594037927936 : Nat))
        have c := tc_gSl7 (((v + b * 562949953421312 : Nat) : Int) - (72057594037927936 : Nat))
        have hbit := hbit (by omega)
        omega
      · have a := tc_gSl9 (((v + b * 72057594037927936 : Nat) : Int) - (9223372036854775808 : Nat))
        have c := tc_gSl8 (((v + b * 72057594037927936 : Nat) : Int) - (9223372036854775808 : Nat))
        have hbit := hbit (by omega)
        omega
    · rw [tc_sgn_lo (by omega)]
      have hw : v + b * 2 ^ (7 * (kk - 1)) < 2 ^ (7 * kk) := by
        have := tc_grp_lt (v := v) (g := b) (k := kk - 1) hv hb
        rw [show kk - 1 + 1 = kk by omega] at this
        exact this
      have h63 : 2 ^ (7 * kk) ≤ 2 ^ 63 := Nat.pow_le_pow_right (by decide) (by omega)
      rw [pk_lT (by omega)]
      rcases hc with rfl | rfl | rfl | rfl | rfl | rfl | rfl | rfl | rfl <;> simp only [Nat.reduceSub, Nat.reduceMul, Nat.reducePow] at hv hbit ⊢
      · have a := tc_gSl1 ((v + b * 1 : Nat) : Int)
        have c := tc_gS_pos ((v + b * 1 : Nat) : Int)
        omega
      · have a := tc_gSl2 ((v + b * 128 : Nat) : Int)
        have c := tc_gSl1 ((v + b * 128 : Nat) : Int)
        have hbit := hbit (by omega)
        omega
      · have a := tc_gSl3 ((v + b * 16384 : Nat) : Int)
        have c := tc_gSl2 ((v + b * 16384 : Nat) : Int)
        have hbit := hbit (by omega)
        omega
      · have a := tc_gSl4 ((v + b * 2097152 : Nat) : Int)
        have c := tc_gSl3 ((v + b * 2097152 : Nat) : Int)
        have hbit := hbit (by omega)
        omega
      · have a := tc_gSl5 ((v + b * 268435456 : Nat) : Int)
        have c := tc_gSl4 ((v + b * 268435456 : Nat) : Int)
        have hbit := hbit (by omega)
        omega
      · have a := tc_gSl6 ((v + b * 34359738368 : Nat) : Int)
        have c := tc_gSl5 ((v + b * 34359738368 : Nat) : Int)
        have hbit := hbit (by omega)
        omega
      · have a := tc_gSl7 ((v + b * 4398046511104 : Nat) : Int)
        have c := tc_gSl6 ((v + b * 4398046511104 : Nat) : Int)
        have hbit := hbit (by omega)
        omega
      · have a := tc_gSl8 ((v + b * 562949953421312 : Nat) : Int)
        have c := tc_gSl7 ((v + b * 562949953421312 : Nat) : Int)
        have hbit := hbit (by omega)
        omega
      · have a := tc_gSl9 ((v + b * 72057594037927936 : Nat) : Int)
        have c := tc_gSl8 ((v + b * 72057594037927936 : Nat) : Int)
        have hbit := hbit (by omega)
        omega
theorem tc_bit7 {v k b : Nat} (h : v < 2 ^ (7 * k)) : b % 128 / 64 * 64 = 64 ↔ 2 ^ (7 * (k + 1) - 1) ≤ v + b % 128 * 2 ^ (7 * k) := by
  have hp : 2 ^ (7 * (k + 1) - 1) = 64 * 2 ^ (7 * k) := by
    rw [show 7 * (k + 1) - 1 = 6 + 7 * k by omega, Nat.pow_add]
  rw [hp]
  generalize 2 ^ (7 * k) = P at h
  have hg : b % 128 < 128 := Nat.mod_lt _ (by decide)
  generalize b % 128 = g at hg
  constructor
  · intro z
    have : 64 * P ≤ g * P := Nat.mul_le_mul_right P (by omega)
    omega
  · intro z
    have hg64 : 64 ≤ g := by
      apply Nat.le_of_not_lt
      intro q
      have : g * P ≤ 63 * P := Nat.mul_le_mul_right P (by omega)
      omega
    omega
theorem tc_rS_idl {w kk b bf : Nat} (h1 : 1 ≤ kk) (h10 : kk ≤ 10) (hb : b < 128) (hx : ∃ v, v < 2 ^ (7 * (kk - 1)) ∧ w = v + b * 2 ^ (7 * (kk - 1)) ∧ (1 < kk → (bf % 128 / 64 * 64 = 64 ↔ 2 ^ (7 * (kk - 1) - 1) ≤ v))) (hbe : ¬ (kk = 10 ∧ ¬ b = 0 ∧ ¬ b = 127)) : tc_gS (tc_sgn w kk b).toInt = kk ↔ ¬ (1 < kk ∧ ((b = 0 ∧ bf % 128 / 64 * 64 = 0) ∨ (b = 127 ∧ bf % 128 / 64 * 64 = 64))) := by
  obtain ⟨v, a1, a2, a3⟩ := hx
  rw [a2]
  exact tc_gS_grp h1 h10 hb a1 (by omega) a3 hbe
