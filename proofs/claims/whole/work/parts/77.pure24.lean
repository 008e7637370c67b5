/-! PURE 24: the model's writing. -/
theorem tc_uN_lN {k : Nat} (h : k < 18446744073709551616) : uN (lN k) = k := wb_tn (by omega)
theorem tc_and127e (y : Int64) : y &&& 127 = lN (uN y % 128) := by
  obtain ⟨n, hn, rfl⟩ := wb_of y
  rw [tc_uN_lN (by omega)]
  exact wb_mask (k := 7) hn (by decide)
theorem tc_or128e {a : Nat} (h : a < 128) : lN a ||| 128 = lN (a + 128) := by
  have z := tc_or_add (v := a) (g := 1) (s := 7) (by omega)
  exact z
theorem tc_uN_g7 {x y : Int64} {i : Nat} (h : y.toInt = x.toInt / ((2 ^ (7 * i) : Nat) : Int)) : uN y % 128 = tc_g7 x i := by
  have h1 := tc_uN_int y
  unfold tc_g7
  rw [← h]
  omega
theorem tc_lay7 {x y : Int64} {i : Nat} (h : y.toInt = x.toInt / ((2 ^ (7 * i) : Nat) : Int)) : uN (y &&& 127) % 256 = tc_g7 x i := by
  have := tc_g7_lt x i
  rw [tc_and127e, tc_uN_lN (by omega), tc_uN_g7 h]
  omega
theorem tc_lay7m {x y : Int64} {i : Nat} (h : y.toInt = x.toInt / ((2 ^ (7 * i) : Nat) : Int)) : uN ((y &&& 127) ||| 128) % 256 = tc_g7 x i + 128 := by
  have := tc_g7_lt x i
  rw [tc_and127e, tc_uN_g7 h, tc_or128e (by omega), tc_uN_lN (by omega)]
  omega
theorem tc_sar7 {x y : Int64} {i : Nat} (h : y.toInt = x.toInt / ((2 ^ (7 * i) : Nat) : Int)) : (y >>> ((nI 7).toInt64 &&& 63)).toInt = x.toInt / ((2 ^ (7 * (i + 1)) : Nat) : Int) := by
  rw [tc_sard y (k := 7) (p := 128) (by decide) (by decide), h, Int.ediv_ediv_of_nonneg (Int.natCast_nonneg _)]
  congr 1
  rw [show 7 * (i + 1) = 7 * i + 7 by omega, Nat.pow_add]
  push_cast
  rfl
theorem tc_gSl1 (z : Int) : tc_gS z ≤ 1 ↔ (-64 ≤ z ∧ z < 64) := by
  unfold tc_gS
  repeat' split
  all_goals (constructor <;> intro <;> omega)
theorem tc_gSl2 (z : Int) : tc_gS z ≤ 2 ↔ (-8192 ≤ z ∧ z < 8192) := by
  unfold tc_gS
  repeat' split
  all_goals (constructor <;> intro <;> omega)
theorem tc_gSl3 (z : Int) : tc_gS z ≤ 3 ↔ (-1048576 ≤ z ∧ z < 1048576) := by
  unfold tc_gS
  repeat' split
  all_goals (constructor <;> intro <;> omega)
theorem tc_gSl4 (z : Int) : tc_gS z ≤ 4 ↔ (-134217728 ≤ z ∧ z < 134217728) := by
  unfold tc_gS
  repeat' split
  all_goals (constructor <;> intro <;> omega)
theorem tc_gSl5 (z : Int) : tc_gS z ≤ 5 ↔ (-17179869184 ≤ z ∧ z < 17179869184) := by
  unfold tc_gS
  repeat' split
  all_goals (constructor <;> intro <;> omega)
theorem tc_gSl6 (z : Int) : tc_gS z ≤ 6 ↔ (-2199023255552 ≤ z ∧ z < 2199023255552) := by
  unfold tc_gS
  repeat' split
  all_goals (constructor <;> intro <;> omega)
theorem tc_gSl7 (z : Int) : tc_gS z ≤ 7 ↔ (-281474976710656 ≤ z ∧ z < 281474976710656) := by
  unfold tc_gS
  repeat' split
  all_goals (constructor <;> intro <;> omega)
theorem tc_gSl8 (z : Int) : tc_gS z ≤ 8 ↔ (-36028797018963968 ≤ z ∧ z < 36028797018963968) := by
  unfold tc_gS
  repeat' split
  all_goals (constructor <;> intro <;> omega)
theorem tc_gSl9 (z : Int) : tc_gS z ≤ 9 ↔ (-4611686018427387904 ≤ z ∧ z < 4611686018427387904) := by
  unfold tc_gS
  repeat' split
  all_goals (constructor <;> intro <;> omega)
theorem tc_gS_ex {z y : Int} {i : Nat} (hi : i ≤ 9) (hz1 : -9223372036854775808 ≤ z) (hz2 : z < 9223372036854775808) (h : y = z / ((2 ^ (7 * i) : Nat) : Int)) (h3 : i < tc_gS z) : ((-64 ≤ y ∧ y ≤ 63) → tc_gS z = i + 1) ∧ (¬ (-64 ≤ y ∧ y ≤ 63) → i + 1 < tc_gS z ∧ i + 1 ≤ 9) := by
  have hc : i = 0 ∨ i = 1 ∨ i = 2 ∨ i = 3 ∨ i = 4 ∨ i = 5 ∨ i = 6 ∨ i = 7 ∨ i = 8 ∨ i = 9 := by omega
  have h10 := tc_gS_le z
  rcases hc with rfl | rfl | rfl | rfl | rfl | rfl | rfl | rfl | rfl | rfl <;> simp only [Nat.reduceMul, Nat.reducePow] at h
  · have a := tc_gSl1 z
    omega
  · have a := tc_gSl2 z
    omega
  · have a := tc_gSl3 z
    omega
  · have a := tc_gSl4 z
    omega
  · have a := tc_gSl5 z
    omega
  · have a := tc_gSl6 z
    omega
  · have a := tc_gSl7 z
    omega
  · have a := tc_gSl8 z
    omega
  · have a := tc_gSl9 z
    omega
  · omega
theorem tc_l_rng (x : Int64) : -9223372036854775808 ≤ x.toInt ∧ x.toInt < 9223372036854775808 := ⟨Int64.le_toInt x, Int64.toInt_lt x⟩
theorem tc_gS_out {x y : Int64} {i : Nat} (hi : i ≤ 9) (h : y.toInt = x.toInt / ((2 ^ (7 * i) : Nat) : Int)) (h3 : i < tc_gS x.toInt) (h1 : ¬ y < (-64)) (h2 : y ≤ 63) : tc_gS x.toInt = i + 1 := by
  obtain ⟨a, b⟩ := tc_l_rng x
  refine (tc_gS_ex hi a b h h3).1 ⟨?_, Int64.le_iff_toInt_le.mp h2⟩
  have : ¬ y.toInt < (-64 : Int64).toInt := fun q => h1 (Int64.lt_iff_toInt_lt.mpr q)
  have e : (-64 : Int64).toInt = -64 := rfl
  omega
theorem tc_gS_in {x y : Int64} {i : Nat} (hi : i ≤ 9) (h : y.toInt = x.toInt / ((2 ^ (7 * i) : Nat) : Int)) (h3 : i < tc_gS x.toInt) (h1 : y < (-64) ∨ ¬ y ≤ 63) : i + 1 < tc_gS x.toInt ∧ i + 1 ≤ 9 := by
  obtain ⟨a, b⟩ := tc_l_rng x
  refine (tc_gS_ex hi a b h h3).2 (fun q => ?_)
  rcases h1 with h1 | h1
  · have h1 := Int64.lt_iff_toInt_lt.mp h1
    have e : (-64 : Int64).toInt = -64 := rfl
    omega
  · exact h1 (Int64.le_iff_toInt_le.mpr q.2)
theorem tc_ol_o {k : Nat} {x : Int64} (h0 : ¬ k = 0) (h7 : ¬ k = 7) (h6 : ¬ k = 6) (h9 : ¬ k = 9) (h8 : ¬ k = 8) : tc_ol k x = 1 := by
  unfold tc_ol
  rw [if_neg h0, if_neg h7, if_neg h8, if_neg (by omega)]
theorem tc_ol_7 {k : Nat} {x : Int64} (h7 : k = 7) : tc_ol k x = 1 + tc_gS x.toInt := by
  subst h7
  rfl
theorem tc_ol_6 {k : Nat} {x : Int64} (h : k = 6 ∨ k = 9) : tc_ol k x = 2 := by
  rcases h with rfl | rfl <;> rfl
theorem tc_grs1 (x : Int64) : tc_grs x 1 = [tc_g7 x 0] := rfl
theorem tc_grs2 (x : Int64) : tc_grs x 2 = [tc_g7 x 0 + 128, tc_g7 x 1] := rfl
theorem tc_g7_0 {v : Nat} (h : v < 2 ^ 30) : tc_g7 (lN v) 0 = v % 128 := by
  unfold tc_g7
  rw [pk_lT (by omega)]
  simp only [Nat.mul_zero, Nat.pow_zero]
  omega
theorem tc_g7_1 {v : Nat} (h : v < 2 ^ 30) : tc_g7 (lN v) 1 = v / 128 % 128 := by
  unfold tc_g7
  rw [pk_lT (by omega)]
  simp only [Nat.mul_one, Nat.reducePow]
  omega
theorem tc_grs_take {x : Int64} {g i : Nat} (h : i + 1 < g) : (tc_grs x g).take (i + 1) = (tc_grs x g).take i ++ [tc_g7 x i + 128] := by
  refine tc_take1 ?_
  unfold tc_grs
  rw [List.getElem?_map, List.getElem?_range (by omega)]
  show some (tc_grb x g i) = _
  rw [tc_grb_lo h]
theorem tc_grs_last {x : Int64} {i : Nat} : tc_grs x (i + 1) = (tc_grs x (i + 1)).take i ++ [tc_g7 x i] := by
  have h : (tc_grs x (i + 1)).take (i + 1) = (tc_grs x (i + 1)).take i ++ [tc_g7 x i] := by
    refine tc_take1 ?_
    unfold tc_grs
    rw [List.getElem?_map, List.getElem?_range (by omega)]
    show some (tc_grb x (i + 1) i) = _
    rw [tc_grb_hi (by omega)]
  rw [List.take_of_length_le (by rw [tc_grs_len]; exact Nat.le_refl _)] at h
  exact h
theorem tc_sb_u (v : Nat) : uN (xk_sb v).toInt64 % 256 = v % 256 := by
  have h1 := tc_uN_int (xk_sb v).toInt64
  have h2 : (xk_sb v).toInt64.toInt = (xk_sb v).toInt := Int32.toInt_toInt64 _
  have h3 : (xk_sb v).toInt = ((v : Int)).bmod 256 := by
    unfold xk_sb
    rw [Int8.toInt_toInt32, Int32.toInt_toInt8]
    show ((nI v).toInt).bmod 256 = _
    have : (nI v).toInt = ((v : Int)).bmod (2 ^ 32) := Int32.toInt_ofNat'
    rw [this]
    exact Int.bmod_bmod_of_dvd (by decide)
  rw [h2, h3] at h1
  have h4 := Int.bmod_emod (x := (v : Int)) (m := 256)
  omega
theorem tc_gS_pos (z : Int) : 0 < tc_gS z := by
  unfold tc_gS
  repeat' split
  all_goals decide
