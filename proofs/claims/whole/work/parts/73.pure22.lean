/-! PURE 22: the store: bytes more, a term less, a term opened. -/
theorem tc_l2b (y : Int64) : y.toInt32.toInt8 = (nI (uN y % 256)).toInt8 := by
  apply Int8.toBitVec_inj.mp
  rw [Int32.toBitVec_toInt8, Int32.toBitVec_toInt8, BitVec.signExtend_eq_setWidth_of_le _ (by decide), BitVec.signExtend_eq_setWidth_of_le _ (by decide)]
  apply BitVec.eq_of_toNat_eq
  rw [BitVec.toNat_setWidth, BitVec.toNat_setWidth, tc_l2i]
  have h1 : (nI (uN y % 256)).toBitVec.toNat = uN y % 256 := by
    have : (nI (uN y % 256)).toBitVec.toNat = (uN y % 256) % 2 ^ 32 := rfl
    rw [this]
    omega
  rw [h1]
  omega
theorem tc_sb_l (y : Int64) : y.toInt32.toInt8.toInt32 = xk_sb (uN y % 256) := by
  unfold xk_sb
  rw [tc_l2b]
theorem tc_sar_by (x : Int64) {j : Nat} (hj : j < 8) : uN (x >>> ((nI (8 * j)).toInt64 &&& 63)) % 256 = tc_by x j := by
  have h1 := tc_uN_int (x >>> ((nI (8 * j)).toInt64 &&& 63))
  have h2 := tc_uN_int x
  rw [tc_sard x (show 8 * j < 64 by omega) rfl] at h1
  unfold tc_by
  have h3 : j = 0 ∨ j = 1 ∨ j = 2 ∨ j = 3 ∨ j = 4 ∨ j = 5 ∨ j = 6 ∨ j = 7 := by omega
  rcases h3 with rfl | rfl | rfl | rfl | rfl | rfl | rfl | rfl <;> simp only [Nat.reduceMul, Nat.reducePow] at h1 ⊢ <;> omega
theorem tc_sb_by (x : Int64) {j : Nat} (hj : j < 8) : (x >>> ((nI (8 * j)).toInt64 &&& 63)).toInt32.toInt8.toInt32 = xk_sb (tc_by x j) := by
  rw [tc_sb_l, tc_sar_by x hj]
theorem tc_mn_tx {ki : Nat → Nat} {mu mg : Nat → Int64} {tx tg : Nat → Nat} {i : Nat} (hm : mg i = mu i) (ht : ki i = 8 → ∀ j, j < (mu i).toInt.toNat → tg (64 * i + j) % 256 = tx (64 * i + j) % 256) : tc_mn ki mg tg i = tc_mn ki mu tx i := by
  unfold tc_mn
  rw [hm]
  split
  · rename_i h8
    congr 2
    exact List.map_congr_left (fun j hj => ht h8 j (List.mem_range.mp hj))
  · rfl
theorem tc_mn_cnt {ki : Nat → Nat} {mu : Nat → Int64} {tx : Nat → Nat} {i : Nat} (h : tc_okn (tc_mn ki mu tx i)) (h8 : ki i = 8) : ∃ c, mu i = lN c ∧ c ≤ 64 ∧ (mu i).toInt.toNat = c ∧ (tc_mn ki mu tx i).2.2.length = c := by
  have hl : (tc_mn ki mu tx i).2.2.length = (mu i).toInt.toNat := by
    show (if ki i = 8 then _ else _ : List Nat).length = _
    rw [if_pos h8, List.length_map, List.length_range]
  exact ⟨_, h.2.2.1 h8, h.2.2.2.2.1, hl.symm, rfl⟩
theorem tc_RI_okn {I : List (List Nat)} {Ts : List (List tc_Nd)} {iu : Nat → Bool} {ki : Nat → Nat} {mu : Nat → Int64} {fs ss : Nat → Option Nat} {tx : Nat → Nat} {us : Nat} {te : Nat → Nat} {my : Nat} (h : tc_RI I Ts (iu, ki, mu, fs, ss, tx) us te my) : ∀ i ∈ I.flatten, tc_okn (tc_mn ki mu tx i) := by
  intro i hi
  obtain ⟨ids, hd, hi⟩ := List.mem_flatten.mp hi
  obtain ⟨h1, h2, h3, h4, h5, h6, h7, h8, h9⟩ := h
  exact (h9 (ids.map (tc_mn ki mu tx)) (by rw [h1]; exact List.mem_map_of_mem hd)).2.2 _ (List.mem_map_of_mem hi)
theorem tc_RI_ext {I : List (List Nat)} {y z : tc_Nd} {R : List (List tc_Nd)} {iu : Nat → Bool} {ki : Nat → Nat} {mu mg : Nat → Int64} {fs ss : Nat → Option Nat} {tx tg : Nat → Nat} {us : Nat} {te : Nat → Nat} {my m : Nat} (h : tc_RI ([m] :: I) ([y] :: R) (iu, ki, mu, fs, ss, tx) us te my) (hz : tc_mn ki mg tg m = z) (hzo : tc_okn z) (hne : ∀ i ∈ I.flatten, i ≠ m → tc_mn ki mg tg i = tc_mn ki mu tx i) : tc_RI ([m] :: I) ([z] :: R) (iu, ki, mg, fs, ss, tg) us te my := by
  obtain ⟨h1, h2, h3, h4, h5, h6, h7, h8, h9⟩ := h
  have hnd : m ∉ I.flatten := (List.nodup_cons.mp h5).1
  have hR : R = I.map (fun ids => ids.map (tc_mn ki mu tx)) := by
    rw [List.map_cons] at h1
    injection h1
  have hy : y.1 = ki m := by
    rw [List.map_cons] at h1
    injection h1 with a _
    have a : y = tc_mn ki mu tx m := by simpa using a
    rw [a]
    rfl
  have hzk : z.1 = ki m := by rw [← hz]; rfl
  refine ⟨?_, h2, h3, h4, h5, h6, h7, h8, ?_⟩
  · rw [List.map_cons, List.map_cons, List.map_nil, hz, hR]
    congr 1
    exact List.map_congr_left (fun ids hd => List.map_congr_left (fun i hi => (hne i (List.mem_flatten.mpr ⟨ids, hd, hi⟩) (fun e => hnd (e ▸ List.mem_flatten.mpr ⟨ids, hd, hi⟩))).symm))
  · intro t ht
    rcases List.mem_cons.mp ht with rfl | ht
    · have hy9 := h9 [y] List.mem_cons_self
      have hw : tc_wf (1 - 1 + tc_tk y.1) [] := hy9.1.2
      have hk0 : tc_tk z.1 = 0 := by rw [hzk, ← hy]; have : 1 - 1 + tc_tk y.1 = 0 := hw; omega
      exact ⟨⟨by decide, by show tc_wf (1 - 1 + tc_tk z.1) []; rw [hk0]; rfl⟩, by rw [tc_dp0 hk0]; decide, fun x hx => by rcases List.mem_cons.mp hx with rfl | hx; exact hzo; cases hx⟩
    · exact h9 t (List.mem_cons_of_mem _ ht)
theorem tc_RM_ext {y : tc_Nd} {R : List (List tc_Nd)} {iu : Nat → Bool} {ki : Nat → Nat} {mu mg : Nat → Int64} {fs ss : Nat → Option Nat} {tx tg : Nat → Nat} {us : Nat} {te : Nat → Nat} {my m c n : Nat} {x : Int64} (h : tc_RM ([y] :: R) (iu, ki, mu, fs, ss, tx) us te my) (hm : te (my - 1) = m) (h8 : y.1 = 8) (hc : c = y.2.2.length) (hl : c + n ≤ 64) (g1 : mg m = lN (c + n)) (g2 : ∀ i, i ≠ m → mg i = mu i)
    (g3 : ∀ q, tg q % 256 = if 64 * m + c ≤ q ∧ q < 64 * m + c + n then tc_by x (n - 1 - (q - (64 * m + c))) else tx q % 256) : tc_RM ([((8, lN (c + n), y.2.2 ++ tc_bts x n) : tc_Nd)] :: R) (iu, ki, mg, fs, ss, tg) us te my := by
  obtain ⟨ids, I, R', e, hI, hg, hmy⟩ := tc_RM_top h (by have := (tc_RM_us h).2.2.1; rw [List.length_cons] at this; omega)
  injection e with e1 e2
  subst e2
  obtain ⟨F, hF, hF2⟩ := tc_Fo_hd hg.1
  rw [hm] at hF
  subst hF
  rw [List.map_cons] at e1
  injection e1 with e1 e3
  obtain rfl : F = [] := by
    have := congrArg List.length e3
    rw [List.length_map, List.length_nil] at this
    exact List.eq_nil_of_length_eq_zero this.symm
  have hok := tc_RI_okn hI
  have hkm : ki m = 8 := by rw [← h8, e1]; rfl
  have hyo : tc_okn (tc_mn ki mu tx m) := hok m (List.mem_append_left _ (by simp))
  obtain ⟨c', c1, c2, c3, c4⟩ := tc_mn_cnt hyo hkm
  obtain rfl : c = c' := by rw [hc, e1]; exact c4
  refine ⟨[m] :: I, tc_RI_ext (y := tc_mn ki mu tx m) hI ?_ ?_ ?_⟩
  · show (ki m, mg m, if ki m = 8 then _ else _) = _
    rw [if_pos hkm, hkm, g1, pk_lT (by omega), Int.toNat_natCast, List.range_add, List.map_append, e1]
    have hL : (tc_mn ki mu tx m).2.2 = (List.range c).map (fun j => tx (64 * m + j) % 256) := by
      show (if ki m = 8 then _ else _ : List Nat) = _
      rw [if_pos hkm, c3]
    rw [hL]
    congr 2
    congr 1
    · refine List.map_congr_left (fun j hj => ?_)
      have := List.mem_range.mp hj
      rw [g3, if_neg (by omega)]
    · unfold tc_bts
      rw [List.map_map]
      refine List.map_congr_left (fun j hj => ?_)
      have := List.mem_range.mp hj
      show tg (64 * m + (c + j)) % 256 = _
      rw [g3, if_pos (by omega), show 64 * m + (c + j) - (64 * m + c) = j by omega]
  · have hb : ∀ b ∈ tc_bts x n, b < 256 := by
      intro b hb
      obtain ⟨j, _, rfl⟩ := List.mem_map.mp hb
      exact tc_by_lt _ _
    refine ⟨show 8 ≤ 11 by decide, tc_fit8 hl, fun _ => ?_, fun q => absurd rfl q, ?_, ?_⟩
    · rw [List.length_append, tc_bts_len, hc]
    · rw [List.length_append, tc_bts_len, ← hc]
      exact hl
    · intro b hbm
      rcases List.mem_append.mp hbm with q | q
      · rw [e1] at q
        exact hyo.2.2.2.2.2 b q
      · exact hb b q
  · intro i hi hne
    refine tc_mn_tx (g2 i hne) (fun hk j hj => ?_)
    obtain ⟨d, d1, d2, d3, d4⟩ := tc_mn_cnt (hok i (List.mem_append_right _ hi)) hk
    rw [g3, if_neg (by omega)]
theorem tc_RI_drop {ids : List Nat} {I : List (List Nat)} {t : List tc_Nd} {R : List (List tc_Nd)} {iu iu' : Nat → Bool} {ki : Nat → Nat} {mu : Nat → Int64} {fs ss : Nat → Option Nat} {tx : Nat → Nat} {us us' : Nat} {te : Nat → Nat} {my : Nat} (h : tc_RI (ids :: I) (t :: R) (iu, ki, mu, fs, ss, tx) us te my) (h1 : ∀ i ∈ ids, iu' i = false) (h2 : ∀ i, i ∉ ids → iu' i = iu i) (h3 : us' + ids.length = us) : tc_RI I R (iu', ki, mu, fs, ss, tx) us' te (my - 1) := by
  obtain ⟨a1, a2, a3, a4, a5, a6, a7, a8, a9⟩ := h
  rw [List.map_cons] at a1
  injection a1 with _ a1
  have hfl : (ids :: I).flatten = ids ++ I.flatten := List.flatten_cons
  rw [hfl] at a3 a4 a5 a6
  obtain ⟨b1, b2, b3⟩ := List.nodup_append.mp a5
  have hni : ∀ i ∈ I.flatten, i ∉ ids := fun i hi hn => b3 i hn i hi rfl
  refine ⟨a1, fun z hz => a2 z (List.mem_cons_of_mem _ hz), fun i hi => ?_, fun i hi hu => ?_, b2, ?_, ?_, a8.2, fun z hz => a9 z (List.mem_cons_of_mem _ hz)⟩
  · obtain ⟨c1, c2, c3⟩ := a3 i (List.mem_append_right _ hi)
    exact ⟨c1, by rw [h2 i (hni i hi)]; exact c2, c3⟩
  · have hn : i ∉ ids := fun hm => by
      rw [h1 i hm] at hu
      cases hu
    rw [h2 i hn] at hu
    rcases List.mem_append.mp (a4 i hi hu) with q | q
    · exact absurd q hn
    · exact q
  · rw [List.length_append] at a6
    omega
  · rw [a7]; rfl
theorem tc_RI_open {m : Nat} {F : List Nat} {Q I : List (List Nat)} {t : List tc_Nd} {R : List (List tc_Nd)} {iu : Nat → Bool} {ki : Nat → Nat} {mu : Nat → Int64} {fs ss : Nat → Option Nat} {tx : Nat → Nat} {us : Nat} {te te' : Nat → Nat} {my my' : Nat} (h : tc_RI ((m :: F) :: I) (t :: R) (iu, ki, mu, fs, ss, tx) us te my) (hQ : Q.flatten.Perm F) (hFo : ∀ ids ∈ Q, ∃ r, tc_Fo fs ss [r] ids) (hok : ∀ ids ∈ Q, tc_okt (ids.map (tc_mn ki mu tx))) (hr : tc_rte te' (Q ++ I)) (hmy : my' = (Q ++ I).length) : tc_RI (Q ++ I) (Q.map (fun ids => ids.map (tc_mn ki mu tx)) ++ R) (va_up iu m false, ki, mu, fs, ss, tx) (us - 1) te' my' := by
  obtain ⟨a1, a2, a3, a4, a5, a6, a7, a8, a9⟩ := h
  rw [List.map_cons] at a1
  injection a1 with _ a1
  have hfl : ((m :: F) :: I).flatten = m :: (F ++ I.flatten) := by rw [List.flatten_cons, List.cons_append]
  rw [hfl] at a3 a4 a5 a6
  obtain ⟨b1, b2⟩ := List.nodup_cons.mp a5
  have hp : (Q ++ I).flatten.Perm (F ++ I.flatten) := by rw [List.flatten_append]; exact hQ.append_right _
  have hne : ∀ i ∈ (Q ++ I).flatten, i ≠ m := fun i hi e => b1 (e ▸ hp.mem_iff.mp hi)
  refine ⟨by rw [List.map_append, a1], fun ids hd => ?_, fun i hi => ?_, fun i hi hu => ?_, hp.nodup_iff.mpr b2, ?_, hmy, hr, fun z hz => ?_⟩
  · rcases List.mem_append.mp hd with q | q
    · exact hFo ids q
    · exact a2 ids (List.mem_cons_of_mem _ q)
  · obtain ⟨c1, c2, c3⟩ := a3 i (List.mem_cons_of_mem _ (hp.mem_iff.mp hi))
    exact ⟨c1, by rw [va_up_ne _ _ (hne i hi)]; exact c2, c3⟩
  · have hn : i ≠ m := fun e => by
      rw [e, va_up_self] at hu
      cases hu
    rw [va_up_ne _ _ hn] at hu
    rcases List.mem_cons.mp (a4 i hi hu) with q | q
    · exact absurd q hn
    · exact hp.mem_iff.mpr q
  · rw [a6, hp.length_eq]
    rfl
  · rcases List.mem_append.mp hz with q | q
    · obtain ⟨ids, hd, rfl⟩ := List.mem_map.mp q
      exact hok ids hd
    · exact a9 z (List.mem_cons_of_mem _ q)
theorem tc_kd1 {fs ss : Nat → Option Nat} {m : Nat} (h : (tc_kd fs ss m).length = 1) (hn : fs m = none → ss m = none) : ∃ f, fs m = some f ∧ ss m = none := by
  unfold tc_kd at h
  match hf : fs m, hs : ss m, hn with
  | none, none, _ => rw [hf, hs] at h; simp at h
  | none, some s, hn => have := hn rfl; cases this
  | some f, none, _ => exact ⟨f, rfl, rfl⟩
  | some f, some s, _ => rw [hf, hs] at h; simp at h
theorem tc_kd2 {fs ss : Nat → Option Nat} {m : Nat} (h : (tc_kd fs ss m).length = 2) : ∃ f s, fs m = some f ∧ ss m = some s := by
  unfold tc_kd at h
  match hf : fs m, hs : ss m with
  | none, none => rw [hf, hs] at h; simp at h
  | none, some s => rw [hf, hs] at h; simp at h
  | some f, none => rw [hf, hs] at h; simp at h
  | some f, some s => exact ⟨f, s, rfl, rfl⟩
theorem tc_kd_f {fs ss : Nat → Option Nat} {m : Nat} (h : (tc_kd fs ss m).length ≠ 0) (hn : fs m = none → ss m = none) : ∃ f, fs m = some f := by
  match hf : fs m, hn with
  | none, hn => unfold tc_kd at h; rw [hf, hn rfl] at h; simp at h
  | some f, _ => exact ⟨f, rfl⟩
theorem tc_RM_open1 {m f : Nat} {F : List Nat} {I : List (List Nat)} {R : List (List tc_Nd)} {iu : Nat → Bool} {ki : Nat → Nat} {mu : Nat → Int64} {fs ss : Nat → Option Nat} {tx : Nat → Nat} {us : Nat} {te : Nat → Nat} {my : Nat} (h : tc_RI ((m :: F) :: I) ((m :: F).map (tc_mn ki mu tx) :: R) (iu, ki, mu, fs, ss, tx) us te my) (hk : tc_tk (ki m) = 1) (hf : fs m = some f) (hF : tc_Fo fs ss (tc_kd fs ss m) F) : tc_opn ((m :: F).map (tc_mn ki mu tx) :: R) = some (1, F.map (tc_mn ki mu tx) :: R) ∧ tc_RM (F.map (tc_mn ki mu tx) :: R) (va_up iu m false, ki, mu, fs, ss, tx) (us - 1) (va_up te (my - 1) f) my := by
  have hmm : m ∈ ((m :: F) :: I).flatten := List.mem_append_left _ List.mem_cons_self
  have hkl := (h.2.2.1 m hmm).2.2
  obtain ⟨f', e1, e2⟩ := tc_kd1 (by rw [hkl.1, hk]) hkl.2
  obtain rfl : f' = f := by rw [hf] at e1; simpa using e1.symm
  have hkd : tc_kd fs ss m = [f'] := by unfold tc_kd; rw [e1, e2]; rfl
  rw [hkd] at hF
  have hok := h.2.2.2.2.2.2.2.2 _ List.mem_cons_self
  have hw : tc_wf 1 (F.map (tc_mn ki mu tx)) := by
    have z : tc_wf (1 - 1 + tc_tk (ki m)) (F.map (tc_mn ki mu tx)) := hok.1.2
    rw [hk] at z
    exact z
  have hmy : my = I.length + 1 := h.2.2.2.2.2.2.1
  have hd : tc_dp ((m :: F).map (tc_mn ki mu tx)) = 1 + tc_dp (F.map (tc_mn ki mu tx)) := tc_dp1 (x := tc_mn ki mu tx m) hk hw
  obtain ⟨G, hG, _⟩ := tc_Fo_hd hF
  refine ⟨tc_opn_1 (x := tc_mn ki mu tx m) hk, _, tc_RI_open (Q := [F]) h (by simp) (fun ids hi => ⟨f', by rw [List.mem_singleton.mp hi]; exact hF⟩) (fun ids hi => by rw [List.mem_singleton.mp hi]; exact ⟨hw, by have := hok.2.1; omega, fun x hx => hok.2.2 x (List.mem_cons_of_mem _ hx)⟩) ⟨?_, tc_rte_eq (fun i hi => va_up_ne _ _ (by have hi : i < I.length := hi; omega)) h.2.2.2.2.2.2.2.1.2⟩ (by rw [hmy]; rfl)⟩
  show F.head? = some (va_up te (my - 1) f' I.length)
  rw [hG, show I.length = my - 1 by omega, va_up_self]
  rfl
theorem tc_RM_open2 {m f s : Nat} {F : List Nat} {I : List (List Nat)} {R : List (List tc_Nd)} {iu : Nat → Bool} {ki : Nat → Nat} {mu : Nat → Int64} {fs ss : Nat → Option Nat} {tx : Nat → Nat} {us : Nat} {te : Nat → Nat} {my : Nat} (h : tc_RI ((m :: F) :: I) ((m :: F).map (tc_mn ki mu tx) :: R) (iu, ki, mu, fs, ss, tx) us te my) (hk : tc_tk (ki m) = 2) (hf : fs m = some f) (hs : ss m = some s) (hF : tc_Fo fs ss (tc_kd fs ss m) F) : ∃ Tn, tc_opn ((m :: F).map (tc_mn ki mu tx) :: R) = some (2, Tn) ∧ tc_RM Tn (va_up iu m false, ki, mu, fs, ss, tx) (us - 1) (va_up (va_up te (my - 1) f) my s) (my + 1) := by
  have hkd : tc_kd fs ss m = [f] ++ [s] := by unfold tc_kd; rw [hf, hs]; rfl
  rw [hkd] at hF
  obtain ⟨A, B, rfl, hA, hB⟩ := tc_Fo_split hF
  have hok := h.2.2.2.2.2.2.2.2 _ List.mem_cons_self
  have hcl : ∀ i ∈ A ++ B, (tc_kd fs ss i).length = tc_tk (ki i) := fun i hi => (h.2.2.1 i (List.mem_append_left _ (List.mem_cons_of_mem _ hi))).2.2.1
  have hwA : tc_wf 1 (A.map (tc_mn ki mu tx)) := tc_Fo_wf hA (fun i hi => hcl i (List.mem_append_left _ hi))
  have hwB : tc_wf 1 (B.map (tc_mn ki mu tx)) := tc_Fo_wf hB (fun i hi => hcl i (List.mem_append_right _ hi))
  have hmy : my = I.length + 1 := h.2.2.2.2.2.2.1
  have hmap : (m :: (A ++ B)).map (tc_mn ki mu tx) = tc_mn ki mu tx m :: (A.map (tc_mn ki mu tx) ++ B.map (tc_mn ki mu tx)) := by rw [List.map_cons, List.map_append]
  have hd := tc_dp2 (x := tc_mn ki mu tx m) hk hwA hwB
  have hsz : tc_sz (A.map (tc_mn ki mu tx) ++ B.map (tc_mn ki mu tx)) = (A.map (tc_mn ki mu tx)).length := by
    have z := tc_tv_app tc_fs 0 hwA (by decide) (B.map (tc_mn ki mu tx))
    exact z.trans (tc_sz_len hwA)
  rw [hmap] at hok
  have hdd := hok.2.1
  rw [hd] at hdd
  obtain ⟨GA, hGA, _⟩ := tc_Fo_hd hA
  obtain ⟨GB, hGB, _⟩ := tc_Fo_hd hB
  refine ⟨B.map (tc_mn ki mu tx) :: A.map (tc_mn ki mu tx) :: R, ?_, _, tc_RI_open (Q := [B, A]) h (by rw [show [B, A].flatten = B ++ A by simp]; exact List.perm_append_comm) (fun ids hi => ?_) (fun ids hi => ?_) ⟨?_, ?_, tc_rte_eq (fun i hi => ?_) h.2.2.2.2.2.2.2.1.2⟩ (by rw [hmy]; rfl)⟩
  · rw [hmap, tc_opn_2 hk, hsz, List.drop_left, List.take_left]
  · rcases List.mem_cons.mp hi with rfl | hi
    · exact ⟨s, hB⟩
    · rw [List.mem_singleton.mp hi]
      exact ⟨f, hA⟩
  · rcases List.mem_cons.mp hi with rfl | hi
    · exact ⟨hwB, by omega, fun x hx => hok.2.2 x (List.mem_cons_of_mem _ (List.mem_append_right _ hx))⟩
    · rw [List.mem_singleton.mp hi]
      exact ⟨hwA, by omega, fun x hx => hok.2.2 x (List.mem_cons_of_mem _ (List.mem_append_left _ hx))⟩
  · show B.head? = some (va_up (va_up te (my - 1) f) my s ([A] ++ I).length)
    rw [hGB, show ([A] ++ I).length = my by rw [hmy]; simp, va_up_self]
    rfl
  · show A.head? = some (va_up (va_up te (my - 1) f) my s I.length)
    rw [hGA, show I.length = my - 1 by omega, va_up_ne _ _ (by omega), va_up_self]
    rfl
  · have hi : i < I.length := hi
    rw [va_up_ne _ _ (by omega), va_up_ne _ _ (by omega)]
theorem tc_opn_0 {x : tc_Nd} {P : List tc_Nd} {R : List (List tc_Nd)} (h : tc_tk x.1 = 0) : tc_opn ((x :: P) :: R) = none := by
  unfold tc_opn
  simp [h]
theorem tc_ap1 {a n j : Nat} (h : j + 1 ≤ n) : lN (a + (n - (j + 1))) + 1 = lN (a + (n - j)) := by
  rw [show (1 : Int64) = lN 1 from rfl, lN_add, show a + (n - (j + 1)) + 1 = a + (n - j) by omega]
theorem tc_ap2 {m c n j : Nat} {x : Int64} {tx tg : Nat → Nat} (e4 : ∀ q, tg q % 256 = if 64 * m + c ≤ q ∧ q < 64 * m + c + (n - (j + 1)) then tc_by x (n - 1 - (q - (64 * m + c))) else tx q % 256) (h : j + 1 ≤ n) : ∀ q, va_up tg (64 * m + (c + (n - (j + 1)))) (tc_by x j) q % 256 = if 64 * m + c ≤ q ∧ q < 64 * m + c + (n - j) then tc_by x (n - 1 - (q - (64 * m + c))) else tx q % 256 := by
  intro q
  by_cases e : q = 64 * m + (c + (n - (j + 1)))
  · rw [e, va_up_self, if_pos (by omega), show n - 1 - (64 * m + (c + (n - (j + 1))) - (64 * m + c)) = j by omega]
    exact Nat.mod_eq_of_lt (tc_by_lt _ _)
  · rw [va_up_ne _ _ e, e4]
    by_cases y : 64 * m + c ≤ q ∧ q < 64 * m + c + (n - (j + 1))
    · rw [if_pos y, if_pos (by omega)]
    · rw [if_neg y, if_neg (by omega)]
def tc_bn (n : Int32) : Option Nat := if 0 ≤ n.toInt ∧ n.toInt ≤ 8 then some n.toInt.toNat else none
theorem tc_bn_lo {n : Int32} (h : n < 0) : tc_bn n = none := by
  refine if_neg (fun q => ?_)
  have := Int32.lt_iff_toInt_lt.mp h
  have : (0 : Int32).toInt = 0 := rfl
  omega
theorem tc_bn_hi {k : Nat} (h : 8 < k) (hk : k < 2 ^ 31) : tc_bn (nI k) = none := by
  refine if_neg (fun q => ?_)
  rw [nI_toInt hk] at q
  omega
theorem tc_bn_in {k : Nat} (h : k ≤ 8) : tc_bn (nI k) = some k := by
  unfold tc_bn
  rw [nI_toInt (by omega), if_pos (by omega), Int.toNat_natCast]
theorem tc_bytes_RM {Ts : List (List tc_Nd)} {iu : Nat → Bool} {ki : Nat → Nat} {mu mg : Nat → Int64} {fs ss : Nat → Option Nat} {tx tg : Nat → Nat} {us : Nat} {te : Nat → Nat} {my m n : Nat} {x : Int64} (h : tc_RM ([((8, 0, []) : tc_Nd)] :: Ts) (iu, ki, mu, fs, ss, tx) us (va_up te my m) (my + 1)) (hn : n ≤ 8) (g1 : mg m = lN (0 + n)) (g2 : ∀ i, i ≠ m → mg i = mu i) (g3 : ∀ q, tg q % 256 = if 64 * m + 0 ≤ q ∧ q < 64 * m + 0 + n then tc_by x (n - 1 - (q - (64 * m + 0))) else tx q % 256) : tc_RM ([((8, lN n, tc_bts x n) : tc_Nd)] :: Ts) (iu, ki, mg, fs, ss, tg) us (va_up te my m) (my + 1) := by
  have z := tc_RM_ext (c := 0) h (va_up_self _ _ _) rfl rfl (by omega) g1 g2 g3
  rw [Nat.zero_add] at z
  exact z
theorem tc_le64 {a : Nat} (h : a < 2 ^ 31) : lN a ≤ 64 ↔ a ≤ 64 := by
  rw [Int64.le_iff_toInt_le, pk_lT (by omega), show (64 : Int64).toInt = 64 from rfl]
  omega
theorem tc_more_n8 {p : Int64} {n : Int32} {x : tc_Nd} {t : List tc_Nd} {R : List (List tc_Nd)} (h : ¬ x.1 = 8) : tc_more p n ((x :: t) :: R) = none := by
  unfold tc_more
  split
  · exact tc_ext_none (Or.inl h)
  · rfl
theorem tc_more_nil {p : Int64} {n : Int32} : tc_more p n [] = none := by
  unfold tc_more
  split <;> rfl
theorem tc_rel1 {ids : List Nat} {k i j : Nat} {iug : Nat → Bool} (hi : ids[k]? = some i) (hj : j = i) (e : ∀ i, i ∈ ids.take k → iug i = false) : ∀ z, z ∈ ids.take (k + 1) → va_up iug j false z = false := by
  intro z hz
  rw [List.take_add_one, hi] at hz
  by_cases q : z = j
  · rw [q, va_up_self]
  · rw [va_up_ne _ _ q]
    rcases List.mem_append.mp hz with y | y
    · exact e z y
    · exact absurd (by simpa using y) (hj ▸ q)
theorem tc_rel2 {ids : List Nat} {k i j : Nat} {iu iug : Nat → Bool} (hi : ids[k]? = some i) (hj : j = i) (e : ∀ i, i ∉ ids.take k → iug i = iu i) : ∀ z, z ∉ ids.take (k + 1) → va_up iug j false z = iu z := by
  intro z hz
  rw [List.take_add_one, hi] at hz
  have h1 : z ∉ ids.take k := fun y => hz (List.mem_append_left _ y)
  have h2 : z ≠ j := fun y => hz (List.mem_append_right _ (by rw [y, hj]; simp))
  rw [va_up_ne _ _ h2]
  exact e z h1
