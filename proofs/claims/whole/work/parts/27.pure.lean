/-! PURE 7: what the stack's calls do to terms. -/
theorem tc_RS_nil {Ts : List (List tc_Nd)} {a : tc_Ar} {ro : Nat → Nat} {tm nd : Nat} (h : tc_RS Ts a ro tm nd) (h0 : tm = 0) : Ts = [] := by
  have := h.2.1
  exact List.eq_nil_of_length_eq_zero (by omega)
theorem tc_RS_cons {Ts : List (List tc_Nd)} {a : tc_Ar} {ro : Nat → Nat} {tm nd : Nat} (h : tc_RS Ts a ro tm nd) (h0 : 0 < tm) : ∃ t R, Ts = t :: R := by
  match Ts, h with
  | [], h => have : tm = 0 := h.2.1; omega
  | t :: R, _ => exact ⟨t, R, rfl⟩
theorem tc_RS_rt {Ts : List (List tc_Nd)} {kn : Nat → Nat} {nu wo : Nat → Int64} {si de la le ro : Nat → Nat} {tm nd : Nat} (h : tc_RS Ts (kn, nu, wo, si, de, la, le) ro tm nd) : 0 < tm → ro (tm - 1) < 200 := by
  intro h0
  obtain ⟨t, R, rfl⟩ := tc_RS_cons h h0
  obtain ⟨z1, z2, z3, z4, z5, -⟩ := tc_top h
  omega
theorem tc_RS_tail {t : List tc_Nd} {R : List (List tc_Nd)} {kn : Nat → Nat} {nu wo : Nat → Int64} {si de la le ro : Nat → Nat} {tm nd : Nat} (h : tc_RS (t :: R) (kn, nu, wo, si, de, la, le) ro tm nd) : tc_RS R (kn, nu, wo, si, de, la, le) ro (tm - 1) (ro (tm - 1)) := by
  obtain ⟨z1, z2, z3, z4, z5, z6, z7, z8, -⟩ := tc_top h
  refine ⟨fun u hu => h.1 u (List.mem_cons_of_mem _ hu), by omega, z2, by omega, h.2.2.2.2.1.2, z7⟩
/-- the arrays behind copyNodes f t c -/
def tc_cpA (a : tc_Ar) (f t c : Nat) : tc_Ar := match a with
  | (kn, nu, wo, si, de, la, le) => (va_cpy kn kn f t c, va_cpy nu nu f t c, va_cpy wo wo (f * 8) (t * 8) (c * 8), va_cpy si si f t c, va_cpy de de f t c, va_cpy la la f t c, va_cpy le le f t c)
theorem tc_cpA_out (a : tc_Ar) {f t c i : Nat} (h : i < t ∨ t + c ≤ i) : tc_eqn a (tc_cpA a f t c) i i := by
  obtain ⟨kn, nu, wo, si, de, la, le⟩ := a
  refine ⟨pk_cpy_out h, pk_cpy_out h, fun j hj => ?_, pk_cpy_out h, pk_cpy_out h, pk_cpy_out h, pk_cpy_out h⟩
  show tc_by (va_cpy wo wo (f * 8) (t * 8) (c * 8) (i * 8 + j / 8)) _ = tc_by (wo (i * 8 + j / 8)) _
  rw [pk_cpy_out (by omega)]
theorem tc_cpA_in (a : tc_Ar) {f t c i : Nat} (h : i < c) : tc_eqn a (tc_cpA a f t c) (f + i) (t + i) := by
  obtain ⟨kn, nu, wo, si, de, la, le⟩ := a
  have e : f + (t + i - t) = f + i := by omega
  have q : ∀ (g : Nat → Nat), va_cpy g g f t c (t + i) = g (f + i) := fun g => by rw [pk_cpy_in (by omega) (by omega), e]
  have q2 : va_cpy nu nu f t c (t + i) = nu (f + i) := by rw [pk_cpy_in (by omega) (by omega), e]
  refine ⟨q kn, q2, fun j hj => ?_, q si, q de, q la, q le⟩
  show tc_by (va_cpy wo wo (f * 8) (t * 8) (c * 8) ((t + i) * 8 + j / 8)) _ = tc_by (wo ((f + i) * 8 + j / 8)) _
  rw [pk_cpy_in (by omega) (by omega), show f * 8 + ((t + i) * 8 + j / 8 - t * 8) = (f + i) * 8 + j / 8 by omega]
theorem tc_wb_ar (wo : Nat → Int64) (i j : Nat) : tc_wb wo i j = tc_by (wo (i * 8 + j / 8)) (7 - j % 8) := rfl
/-- one node written anew -/
def tc_upA (a : tc_Ar) (r k : Nat) (n : Int64) (s d l e : Nat) : tc_Ar := match a with
  | (kn, nu, wo, si, de, la, le) => (va_up kn r k, vp_updL nu r n, wo, va_up si r s, va_up de r d, va_up la r l, va_up le r e)
theorem tc_upA_ne (a : tc_Ar) {r k : Nat} {n : Int64} {s d l e i : Nat} (h : i ≠ r) : tc_eqn a (tc_upA a r k n s d l e) i i := by
  obtain ⟨kn, nu, wo, si, de, la, le⟩ := a
  exact ⟨va_up_ne _ _ h, pk_uLn h, fun _ _ => rfl, va_up_ne _ _ h, va_up_ne _ _ h, va_up_ne _ _ h, va_up_ne _ _ h⟩
/-- a node over terms: shifted, set, settled -/
theorem tc_put_RS {R : List (List tc_Nd)} {P : List tc_Nd} {kn : Nat → Nat} {nu wo : Nat → Int64} {si de la le ro : Nat → Nat} {k r c s dd l e : Nat} {n : Int64} (hr : r = (tc_cat R).length) (hc : c = P.length)
    (hR : ∀ u ∈ R, tc_okt u) (hro : tc_rts ro R) (h0 : tc_AR (kn, nu, wo, si, de, la, le) 0 (tc_cat R)) (hP : tc_AR (kn, nu, wo, si, de, la, le) r P) (hw : tc_wf (tc_tk k) P) (hok : ∀ y ∈ P, tc_okn y) (hx : tc_okn (k, n, [])) (hd : tc_dp ((k, n, []) :: P) ≤ 60) (hl : r + c < 200)
    (g1 : s = tc_fs (k, n, []) ((tc_chs k r (va_cpy si si r (r + 1) c)).map (va_cpy si si r (r + 1) c))) (g2 : dd = tc_fd (k, n, []) ((tc_chs k r (va_cpy si si r (r + 1) c)).map (va_cpy de de r (r + 1) c)))
    (g3 : l = tc_fl (k, n, []) ((tc_chs k r (va_cpy si si r (r + 1) c)).map (va_cpy la la r (r + 1) c))) (g4 : e = tc_ol k n + ((tc_chs k r (va_cpy si si r (r + 1) c)).map (va_cpy le le r (r + 1) c)).sum) :
    tc_RS (((k, n, []) :: P) :: R) (va_up (va_cpy kn kn r (r + 1) c) r k, vp_updL (va_cpy nu nu r (r + 1) c) r n, va_cpy wo wo (r * 8) ((r + 1) * 8) (c * 8), va_up (va_cpy si si r (r + 1) c) r s, va_up (va_cpy de de r (r + 1) c) r dd, va_up (va_cpy la la r (r + 1) c) r l, va_up (va_cpy le le r (r + 1) c) r e) (va_up ro R.length r) (R.length + 1) (r + c + 1) := by
  have hwR := tc_cat_wf hR
  have hA1 : tc_AR (tc_cpA (kn, nu, wo, si, de, la, le) r (r + 1) c) (r + 1) P := tc_AR_eq r (r + 1) hok (fun t ht => tc_cpA_in _ (by omega)) hP
  have hA0 : tc_AR (tc_cpA (kn, nu, wo, si, de, la, le) r (r + 1) c) 0 (tc_cat R) := tc_AR_eq 0 0 (tc_cat_ok hR) (fun t ht => tc_cpA_out _ (by omega)) h0
  have hset := tc_settled (k := k) (n := n) [] hA1 hw (Nat.le_refl _)
  have hB : ∀ {L : List tc_Nd} {i : Nat}, (∀ y ∈ L, tc_okn y) → (i + L.length ≤ r ∨ r < i) → tc_AR (tc_cpA (kn, nu, wo, si, de, la, le) r (r + 1) c) i L → tc_AR (tc_upA (tc_cpA (kn, nu, wo, si, de, la, le) r (r + 1) c) r k n s dd l e) i L := fun hL hi h => tc_AR_eq _ _ hL (fun t ht => tc_upA_ne _ (by omega)) h
  refine ⟨?_, rfl, ?_, by omega, ?_, ?_⟩
  · intro u hu
    rcases List.mem_cons.mp hu with rfl | hu
    · refine ⟨⟨by omega, ?_⟩, hd, fun y hy => ?_⟩
      · show tc_wf (1 - 1 + tc_tk k) P
        rw [show 1 - 1 + tc_tk k = tc_tk k by omega]
        exact hw
      · rcases List.mem_cons.mp hy with rfl | hy
        · exact hx
        · exact hok y hy
    · exact hR u hu
  · show r + c + 1 = (tc_cat R ++ (k, n, []) :: P).length
    rw [List.length_append, List.length_cons]
    omega
  · exact ⟨by rw [va_up_self]; exact hr, tc_rts_eq (fun i hi => va_up_ne _ _ (by omega)) hro⟩
  · show tc_AR (tc_upA (tc_cpA (kn, nu, wo, si, de, la, le) r (r + 1) c) r k n s dd l e) 0 (tc_cat R ++ (k, n, []) :: P)
    refine (tc_AR_app 0 _ hwR).mpr ⟨hB (tc_cat_ok hR) (by omega) hA0, ?_⟩
    rw [Nat.zero_add, ← hr]
    refine ⟨⟨va_up_self _ _ _, pk_uLs, fun j b hb => by simp at hb, ?_, ?_, ?_, ?_⟩, hB hok (by omega) hA1⟩
    · show va_up _ r s r = _
      rw [va_up_self, g1]
      exact hset.1
    · show va_up _ r dd r = _
      rw [va_up_self, g2]
      exact hset.2.1
    · show va_up _ r l r = _
      rw [va_up_self, g3]
      exact hset.2.2.1
    · show va_up _ r e r = _
      rw [va_up_self, g4]
      exact hset.2.2.2
def tc_put (x : tc_Nd) (Ts : List (List tc_Nd)) : Option (List (List tc_Nd)) :=
  if 200 ≤ (tc_cat Ts).length then none
  else if tc_tk x.1 = 0 then some ([x] :: Ts)
  else if tc_tk x.1 = 1 then match Ts with
    | t :: R => if tc_dp t < 60 then some ((x :: t) :: R) else none
    | _ => none
  else match Ts with
    | t2 :: t1 :: R => if tc_dp t1 < 60 ∧ tc_dp t2 < 60 then some ((x :: (t1 ++ t2)) :: R) else none
    | _ => none
/-- n bytes of a long, the highest first -/
def tc_bts (p : Int64) (n : Nat) : List Nat := (List.range n).map (fun j => tc_by p (n - 1 - j))
def tc_ext (p : Int64) (n : Nat) (Ts : List (List tc_Nd)) : Option (List (List tc_Nd)) := match Ts with
  | [x] :: R => if x.1 = 8 ∧ x.2.2.length + n ≤ 64 then some ([(8, lN (x.2.2.length + n), x.2.2 ++ tc_bts p n)] :: R) else none
  | _ => none
def tc_opn (Ts : List (List tc_Nd)) : Option (Nat × List (List tc_Nd)) := match Ts with
  | (x :: P) :: R => if tc_tk x.1 = 0 then none else if tc_tk x.1 = 1 then some (1, P :: R) else some (2, P.drop (tc_sz P) :: P.take (tc_sz P) :: R)
  | _ => none
def tc_dup (Ts : List (List tc_Nd)) : Option (List (List tc_Nd)) := match Ts with
  | t :: R => if (tc_cat Ts).length + t.length ≤ 200 then some (t :: t :: R) else none
  | _ => none
theorem tc_dup_RS {t : List tc_Nd} {R : List (List tc_Nd)} {kn : Nat → Nat} {nu wo : Nat → Int64} {si de la le ro : Nat → Nat} {tm nd r c : Nat} (h : tc_RS (t :: R) (kn, nu, wo, si, de, la, le) ro tm nd) (hr : r = (tc_cat R).length) (hc : c = t.length) (hl : nd + c ≤ 200) :
    tc_RS (t :: t :: R) (va_cpy kn kn r nd c, va_cpy nu nu r nd c, va_cpy wo wo (r * 8) (nd * 8) (c * 8), va_cpy si si r nd c, va_cpy de de r nd c, va_cpy la la r nd c, va_cpy le le r nd c) (va_up ro tm nd) (tm + 1) (nd + c) := by
  obtain ⟨z1, z2, z3, z4, z5, z6, z7, z8, z9, -⟩ := tc_top h
  have h1 := h.1
  have ht := h1 t List.mem_cons_self
  have hw := tc_cat_wf h1
  have hnd : nd = (tc_cat (t :: R)).length := h.2.2.1
  refine ⟨?_, ?_, ?_, hl, ?_, ?_⟩
  · intro u hu
    rcases List.mem_cons.mp hu with rfl | hu
    · exact ht
    · exact h1 u hu
  · rw [z1]; rfl
  · show nd + c = (tc_cat (t :: R) ++ t).length
    rw [List.length_append, ← hnd, hc]
  · refine ⟨?_, tc_rts_eq (Ts := t :: R) (fun i hi => va_up_ne _ _ (by rw [z1]; simp at hi; omega)) h.2.2.2.2.1⟩
    show va_up ro tm nd (R.length + 1) = (tc_cat (t :: R)).length
    rw [← z1, va_up_self, hnd]
  · show tc_AR (tc_cpA (kn, nu, wo, si, de, la, le) r nd c) 0 (tc_cat (t :: R) ++ t)
    refine (tc_AR_app 0 _ hw).mpr ⟨tc_AR_eq 0 0 (tc_cat_ok h1) (fun i hi => tc_cpA_out _ (by omega)) h.2.2.2.2.2, ?_⟩
    rw [Nat.zero_add, ← hnd]
    rw [← hr] at z8
    exact tc_AR_eq r nd ht.2.2 (fun i hi => tc_cpA_in _ (by omega)) z8
theorem tc_dp0 {x : tc_Nd} (h : tc_tk x.1 = 0) : tc_dp [x] = 1 := by
  rw [tc_dp, tc_tv_0 _ _ h]
  rfl
theorem tc_dp1 {x : tc_Nd} {A : List tc_Nd} (h : tc_tk x.1 = 1) (hA : tc_wf 1 A) : tc_dp (x :: A) = 1 + tc_dp A := by
  rw [tc_dp, tc_tv_1 _ _ h hA]
  show 1 + max (tc_dp A) 0 = _
  omega
theorem tc_dp2 {x : tc_Nd} {A B : List tc_Nd} (h : tc_tk x.1 = 2) (hA : tc_wf 1 A) (hB : tc_wf 1 B) : tc_dp (x :: (A ++ B)) = 1 + max (tc_dp A) (tc_dp B) := by
  rw [tc_dp, tc_tv_2 _ _ h hA hB]
  show 1 + max (tc_dp A) (max (tc_dp B) 0) = _
  omega
theorem tc_okn_of {k : Nat} {n : Int64} (h1 : k ≤ 11) (h2 : tc_fitP k n) (h3 : k = 8 → n = 0) : tc_okn (k, n, []) := ⟨h1, h2, fun h => (h3 h).trans rfl, fun _ => rfl, by simp, fun b hb => by simp at hb⟩
