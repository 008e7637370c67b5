/-! PURE 25: a node laid. -/
theorem tc_mn_byte {ki : Nat → Nat} {mu : Nat → Int64} {tx : Nat → Nat} {i c j : Nat} (h8 : ki i = 8) (hc : (mu i).toInt.toNat = c) (hj : j < c) : (tc_mn ki mu tx i).2.2[j]? = some (tx (64 * i + j) % 256) := by
  show (if ki i = 8 then _ else _ : List Nat)[j]? = _
  rw [if_pos h8, hc, List.getElem?_map, List.getElem?_range hj]
  rfl
theorem tc_mid_0 {x : tc_Nd} {v : Nat} (h0 : x.1 = 0) (hx : x.2.1 = lN v) (hv : v ≤ 127) : tc_mid x = [v] := by
  unfold tc_mid
  rw [if_pos h0, hx, pk_lT (by omega), Int.toNat_natCast, show tc_gU v = 1 from if_pos (by omega), tc_grs1, tc_g7_0 (by omega), Nat.mod_eq_of_lt (by omega)]
theorem tc_mid_00 {x : tc_Nd} {v : Nat} (h0 : x.1 = 0) (hx : x.2.1 = lN v) (hv : ¬ v ≤ 127) (h2 : v ≤ 200) : tc_mid x = [v % 128 + 128] ++ [v / 128] := by
  unfold tc_mid
  rw [if_pos h0, hx, pk_lT (by omega), Int.toNat_natCast, show tc_gU v = 2 by unfold tc_gU; rw [if_neg (by omega), if_pos (by omega)], tc_grs2, tc_g7_0 (by omega), tc_g7_1 (by omega), Nat.mod_eq_of_lt (show v / 128 < 128 by omega)]
  rfl
theorem tc_mid_7 {x : tc_Nd} (h7 : x.1 = 7) : tc_mid x = tc_grs x.2.1 (tc_gS x.2.1.toInt) := by
  unfold tc_mid
  rw [if_neg (by omega), if_pos h7]
theorem tc_mid_6 {x : tc_Nd} {v : Nat} (h : x.1 = 6 ∨ x.1 = 9 ∨ x.1 = 8) (hx : x.2.1 = lN v) (hv : v ≤ 200) : tc_mid x = [v] := by
  unfold tc_mid
  rw [if_neg (by omega), if_neg (by omega), if_pos h, hx, pk_lT (by omega), Int.toNat_natCast]
theorem tc_apd_c {bf bg : Nat → Nat} {sz s : Nat} {L : List Nat} (h : tc_apd bf sz bg L) (hs : s = sz + L.length) {y : Int64} {w : Nat} (hy : y = lN w) (hw : w < 256) : tc_apd bf sz (va_up bg s (uN y % 256)) (L ++ [w]) := tc_apd_1 h hs (by rw [hy, tc_uN_lN (by omega)]; omega)
theorem tc_okn_lN {x : tc_Nd} (h : tc_okn x) (hk : x.1 = 0 ∨ x.1 = 6 ∨ x.1 = 9 ∨ x.1 = 8) : ∃ v, x.2.1 = lN v ∧ v ≤ 200 := ⟨_, (tc_okn_w h hk).1, (tc_okn_w h hk).2⟩
