/-! PURE 31: class and model side by side. -/
def tc_eqf (n : Nat) (f g : Nat → Nat) : Prop := ∀ j, j < n → f j = g j
theorem tc_eqf_apd {n : Nat} {f g f' g' : Nat → Nat} {L : List Nat} (h : tc_eqf n f g) (h1 : tc_apd f n f' L) (h2 : tc_apd g n g' L) : tc_eqf (n + L.length) f' g' := by
  intro j hj
  rcases Nat.lt_or_ge j n with q | q
  · rw [h1.1 j q, h2.1 j q]
    exact h j q
  · obtain ⟨b, hb⟩ : ∃ b, L[j - n]? = some b := ⟨_, List.getElem?_eq_getElem (by omega)⟩
    have e1 := h1.2 _ b hb
    have e2 := h2.2 _ b hb
    rw [show n + (j - n) = j by omega] at e1 e2
    rw [e1, e2]
theorem tc_eqf_mono {n k : Nat} {f g : Nat → Nat} (h : tc_eqf n f g) (hk : k ≤ n) : tc_eqf k f g := fun j hj => h j (by omega)
theorem tc_eqB {n : Nat} {f g : Nat → Nat} (h : tc_eqf n f g) : tc_eqf n (tc_B f) (tc_B g) := fun j hj => by
  show f j % 256 = g j % 256
  rw [h j hj]
theorem tc_scan_eq {n : Nat} {B C : Nat → Nat} (h : tc_eqf n B C) : ∀ (m p v k : Nat), tc_scan B n m p v k = tc_scan C n m p v k
  | 0, _, _, _ => rfl
  | m + 1, p, v, k => by
    show (if n ≤ p then _ else if B p < 128 then _ else tc_scan B n m (p + 1) _ _) = (if n ≤ p then _ else if C p < 128 then _ else tc_scan C n m (p + 1) _ _)
    by_cases q : n ≤ p
    · rw [if_pos q, if_pos q]
    · rw [if_neg q, if_neg q, h p (by omega), tc_scan_eq h m]
theorem tc_rV_eq {n : Nat} {B C : Nat → Nat} (h : tc_eqf n B C) (k p : Nat) : tc_rV B n k p = tc_rV C n k p := by
  unfold tc_rV tc_rU tc_rS tc_rB
  rw [tc_scan_eq h, tc_scan_eq h]
  by_cases q : n ≤ p
  · rw [if_pos q, if_pos q]
  · rw [if_neg q, if_neg q, h p (by omega)]
theorem tc_seg_eq {n : Nat} {B C : Nat → Nat} (h : tc_eqf n B C) {p m : Nat} (hm : p + m ≤ n) : tc_seg B p m = tc_seg C p m := by
  unfold tc_seg
  exact List.map_congr_left (fun j hj => h _ (by have := List.mem_range.mp hj; omega))
theorem tc_rE_eq {n : Nat} {B C : Nat → Nat} (h : tc_eqf n B C) (k p0 m p : Nat) : tc_rE B n k p0 m p = tc_rE C n k p0 m p := by
  unfold tc_rE
  rw [tc_rV_eq h]
  match tc_rV C n k p with
  | .inl e => rfl
  | .inr (x, q) =>
    show (if tc_fit k x = false then (.inl (3, q - 1) : tc_Rs tc_Nd) else if k = 0 ∧ m < x.toInt.toNat then .inl (4, p0) else if k = 8 then (if q + x.toInt.toNat ≤ n then .inr ((8, x, tc_seg B q x.toInt.toNat), q + x.toInt.toNat) else .inl (1, n)) else .inr ((k, x, []), q)) = (if tc_fit k x = false then (.inl (3, q - 1) : tc_Rs tc_Nd) else if k = 0 ∧ m < x.toInt.toNat then .inl (4, p0) else if k = 8 then (if q + x.toInt.toNat ≤ n then .inr ((8, x, tc_seg C q x.toInt.toNat), q + x.toInt.toNat) else .inl (1, n)) else .inr ((k, x, []), q))
    by_cases e : q + x.toInt.toNat ≤ n
    · rw [tc_seg_eq h e]
    · rw [if_neg e, if_neg e]
theorem tc_rN_eq {n : Nat} {B C : Nat → Nat} (h : tc_eqf n B C) (p l m i : Nat) : tc_rN B n p l m i = tc_rN C n p l m i := by
  unfold tc_rN
  by_cases q : n ≤ p
  · rw [if_pos q, if_pos q]
  · rw [if_neg q, if_neg q, h p (by omega), tc_rE_eq h]
theorem tc_rL_eq {n nd : Nat} {B C : Nat → Nat} (h : tc_eqf n B C) : ∀ (f p : Nat) (st : List tc_Q) (L : List tc_Nd), tc_rL B n nd f p st L = tc_rL C n nd f p st L
  | 0, _, _, _ => rfl
  | f + 1, _, [], _ => rfl
  | f + 1, p, q :: st, L => by
    unfold tc_rL
    rw [tc_rN_eq h]
    match tc_rN C n p q.2.1 q.2.2 (nd + L.length) with
    | .inl e => rfl
    | .inr (x, p') => exact tc_rL_eq h f p' _ _
theorem tc_rT_eq {n nd p : Nat} {B C : Nat → Nat} (h : tc_eqf n B C) : tc_rT B n nd p = tc_rT C n nd p := tc_rL_eq h 202 p _ _
theorem tc_RS_0 (a : tc_Ar) (ro : Nat → Nat) : tc_RS [] a ro 0 0 := by
  obtain ⟨kn, nu, wo, si, de, la, le⟩ := a
  exact ⟨(fun t ht => by cases ht), rfl, rfl, Nat.zero_le _, trivial, trivial⟩
/-- what class and model have in common between the calls -/
def tc_LI (Ts : List (List tc_Nd)) (A : tc_Ar) (ro : Nat → Nat) (tm nd : Nat) (ob : Nat → Nat) (oz : Nat) (gb : Nat → Nat) (gz ap fa : Nat) (pl : Option Nat) (m : tc_St) (us : Nat) (te : Nat → Nat) (my : Nat) (mo : Nat → Nat) (mz : Nat) (mi : Nat → Nat) (iz ma mf : Nat) (mp : Option Nat) : Prop :=
  tc_RS Ts A ro tm nd ∧ tc_RM Ts m us te my ∧ (oz = mz ∧ mz ≤ 4096 ∧ tc_eqf mz ob mo) ∧ (gz = iz ∧ iz ≤ 4096 ∧ tc_eqf iz gb mi) ∧ (ap = ma ∧ ma ≤ iz) ∧ fa = mf ∧ pl = mp
theorem tc_w19 (w : Int32) : w = nI 0 ∨ w = nI 1 ∨ w = nI 2 ∨ w = nI 3 ∨ w = nI 4 ∨ w = nI 5 ∨ w = nI 6 ∨ w = nI 7 ∨ w = nI 8 ∨ w = nI 9 ∨ w = nI 10 ∨ w = nI 11 ∨ w = nI 12 ∨ w = nI 13 ∨ w = nI 14 ∨ w = nI 15 ∨ w = nI 16 ∨ w = nI 17 ∨ w = nI 18 ∨ (w.toInt < 0 ∨ 18 < w.toInt) := by
  by_cases h : w.toInt < 0 ∨ 18 < w.toInt
  · simp [h]
  · have key : ∀ j : Nat, j < 100 → w.toInt = j → w = nI j := fun j hj e => Int32.toInt_inj.mp (by rw [nI_toInt (by omega)]; exact e)
    obtain ⟨j, hj, hw⟩ : ∃ j : Nat, j < 19 ∧ w = nI j := ⟨w.toInt.toNat, by omega, key _ (by omega) (by omega)⟩
    have hc : j = 0 ∨ j = 1 ∨ j = 2 ∨ j = 3 ∨ j = 4 ∨ j = 5 ∨ j = 6 ∨ j = 7 ∨ j = 8 ∨ j = 9 ∨ j = 10 ∨ j = 11 ∨ j = 12 ∨ j = 13 ∨ j = 14 ∨ j = 15 ∨ j = 16 ∨ j = 17 ∨ j = 18 := by omega
    rcases hc with rfl | rfl | rfl | rfl | rfl | rfl | rfl | rfl | rfl | rfl | rfl | rfl | rfl | rfl | rfl | rfl | rfl | rfl | rfl <;> simp [hw]
theorem tc_opn_n {Ts Tn : List (List tc_Nd)} {n : Nat} (h : tc_opn Ts = some (n, Tn)) : n ≤ 2 := by
  unfold tc_opn at h
  split at h
  · split at h
    · cases h
    · split at h
      · have := congrArg Prod.fst (Option.some.inj h)
        have : 1 = n := this
        omega
      · have := congrArg Prod.fst (Option.some.inj h)
        have : 2 = n := this
        omega
  · cases h
theorem tc_wr_le {Ts : List (List tc_Nd)} {oz : Nat} {L : List Nat} (hk : ∀ t ∈ Ts, tc_okt t) (h : tc_wr Ts oz = some L) : oz + L.length ≤ 4096 := by
  match Ts, hk, h with
  | t :: R, hk, h =>
    have h : (if oz + tc_ln t ≤ 4096 then some (tc_tb t) else none) = some L := h
    by_cases q : oz + tc_ln t ≤ 4096
    · rw [if_pos q] at h
      rw [← Option.some.inj h, ← tc_ln_tb (hk t List.mem_cons_self)]
      exact q
    · rw [if_neg q] at h
      cases h
theorem tc_gv_le {n : Int32} {gz k : Nat} (h : tc_gv n gz = some k) : gz + k ≤ 4096 := by
  unfold tc_gv at h
  split at h
  · rename_i h1
    cases h
    omega
  · cases h
theorem tc_eqf_turn {n : Nat} {f g f0 g' : Nat → Nat} (h : tc_eqf n f g) (h2 : ∀ j, j < n → g' j = g j) : tc_eqf n (va_cpy f f0 0 0 n) g' := by
  intro j hj
  have e : va_cpy f f0 0 0 n j = f j := by
    unfold va_cpy
    rw [if_pos (by omega)]
    congr 1
    omega
  rw [e, h2 j hj]
  exact h j hj
theorem tc_lp4 {i L : Nat} (hi : i ≤ 600) (hL : L ≤ 2048) (h : ¬ nI L - nI 4 < nI (4 * i)) : 4 * i + 4 ≤ L := by
  have h1 : ¬ (nI L - nI 4).toInt < (nI (4 * i)).toInt := fun q => h (Int32.lt_iff_toInt_lt.mpr q)
  rw [Int32.toInt_sub, nI_toInt (by omega), nI_toInt (by omega), nI_toInt (by omega), Int.bmod_eq_of_le (by omega) (by omega)] at h1
  omega
theorem tc_eqf_bts {n k : Nat} {f g f' g' : Nat → Nat} {v : Int64} (h : tc_eqf n f g) (h1 : tc_apd f n f' (tc_bts v k)) (h2 : tc_apd g n g' (tc_bts v k)) : tc_eqf (n + k) f' g' := by
  have z := tc_eqf_apd h h1 h2
  rw [tc_bts_len] at z
  exact z
