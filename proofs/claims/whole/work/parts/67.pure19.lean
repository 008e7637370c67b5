/-! PURE 19: going through a term's nodes with a stack. -/
def tc_qk (j : Nat) (x : tc_Nd) (q : tc_Q) : tc_Q := (some j, q.2.1 + 1, q.2.2 + if x.1 = 1 then 1 else 0)
theorem tc_kid_qk (j : Nat) (x : tc_Nd) (q : tc_Q) : tc_kid j x q = List.replicate (tc_tk x.1) (tc_qk j x q) := rfl
def tc_sp (sk : Nat → Nat) (sa : Nat → Option Nat) (sl : Nat → Nat) : List (Nat × tc_Q) → Prop
  | [] => True
  | (c, q) :: st => sk st.length = c ∧ sa st.length = q.1 ∧ sl st.length = q.2.1 ∧ tc_sp sk sa sl st
theorem tc_sp_eq {sk sk' sl sl' : Nat → Nat} {sa sa' : Nat → Option Nat} : ∀ {st : List (Nat × tc_Q)}, (∀ j, j < st.length → sk' j = sk j ∧ sa' j = sa j ∧ sl' j = sl j) → tc_sp sk sa sl st → tc_sp sk' sa' sl' st
  | [], _, _ => trivial
  | (c, q) :: st, he, h => by
    obtain ⟨e1, e2, e3⟩ := he st.length (by simp)
    exact ⟨e1.trans h.1, e2.trans h.2.1, e3.trans h.2.2.1, tc_sp_eq (fun j hj => he j (by rw [List.length_cons]; omega)) h.2.2.2⟩
theorem tc_sp_push {sk sl : Nat → Nat} {sa : Nat → Option Nat} {st : List (Nat × tc_Q)} {c i : Nat} {q : tc_Q} (h : tc_sp sk sa sl st) (hi : i = st.length) : tc_sp (va_up sk i c) (va_up sa i q.1) (va_up sl i q.2.1) ((c, q) :: st) := by
  subst hi
  exact ⟨va_up_self _ _ _, va_up_self _ _ _, va_up_self _ _ _, tc_sp_eq (fun j hj => ⟨va_up_ne _ _ (by omega), va_up_ne _ _ (by omega), va_up_ne _ _ (by omega)⟩) h⟩
/-- the arrays order, around, level hold the nodes ids and what the open places E were -/
def tc_go (ids : List Nat) (E : List tc_Q) (od : Nat → Nat) (ar : Nat → Option Nat) (lw : Nat → Nat) : Prop := (∀ j i, ids[j]? = some i → od j = i) ∧ ∀ j q, E[j]? = some q → ar j = q.1 ∧ lw j = q.2.1
theorem tc_go_0 {od lw : Nat → Nat} {ar : Nat → Option Nat} : tc_go [] [] od ar lw := ⟨fun j i h => by simp at h, fun j q h => by simp at h⟩
theorem tc_go_app {ids : List Nat} {E : List tc_Q} {od lw : Nat → Nat} {ar : Nat → Option Nat} {i : Nat} {q : tc_Q} {z : Option Nat} {l : Nat} (h : tc_go ids E od ar lw) (hl : E.length = ids.length) (hz : z = q.1) (hw : l = q.2.1) : tc_go (ids ++ [i]) (E ++ [q]) (va_up od ids.length i) (va_up ar ids.length z) (va_up lw ids.length l) := by
  refine ⟨fun j k hk => ?_, fun j r hr => ?_⟩
  · rcases Nat.lt_or_ge j ids.length with y | y
    · rw [List.getElem?_append_left y] at hk
      rw [va_up_ne _ _ (by omega)]
      exact h.1 j k hk
    · rw [List.getElem?_append_right y] at hk
      have hj : j - ids.length = 0 := by
        have := (List.getElem?_eq_some_iff.mp hk).1
        simp at this
        omega
      rw [hj] at hk
      have hk : i = k := by simpa using hk
      rw [show j = ids.length by omega, va_up_self, hk]
  · rcases Nat.lt_or_ge j E.length with y | y
    · rw [List.getElem?_append_left y] at hr
      rw [va_up_ne _ _ (by omega), va_up_ne _ _ (by omega)]
      exact h.2 j r hr
    · rw [List.getElem?_append_right y] at hr
      have hj : j - E.length = 0 := by
        have := (List.getElem?_eq_some_iff.mp hr).1
        simp at this
        omega
      rw [hj] at hr
      have hr : q = r := by simpa using hr
      rw [show j = ids.length by omega, va_up_self, va_up_self, ← hr]
      exact ⟨hz, hw⟩
theorem tc_go_pd {ki : Nat → Nat} {mu : Nat → Int64} {tx : Nat → Nat} {dn : List Nat} {i : Nat} {q : tc_Q} {s : List tc_Q} (h : q :: s = tc_pd 0 [tc_q0] (dn.map (tc_mn ki mu tx))) : tc_pd 0 [tc_q0] ((dn ++ [i]).map (tc_mn ki mu tx)) = List.replicate (tc_tk (ki i)) (tc_qk dn.length (tc_mn ki mu tx i) q) ++ s := by
  rw [List.map_append, tc_pd_app, ← h]
  show tc_pd _ (q :: s) [tc_mn ki mu tx i] = _
  rw [tc_pd_cons, tc_pd_nil, tc_kid_qk, List.length_map, Nat.zero_add]
  rfl
theorem tc_go_fw {ki : Nat → Nat} {mu : Nat → Int64} {tx : Nat → Nat} {dn : List Nat} {i : Nat} {q : tc_Q} {s : List tc_Q} (h : q :: s = tc_pd 0 [tc_q0] (dn.map (tc_mn ki mu tx))) : tc_fw 0 [tc_q0] ((dn ++ [i]).map (tc_mn ki mu tx)) = tc_fw 0 [tc_q0] (dn.map (tc_mn ki mu tx)) ++ [q] := by
  rw [List.map_append, tc_fw_app, ← h]
  show _ ++ tc_fw _ (q :: s) [tc_mn ki mu tx i] = _
  rw [tc_fw_cons, tc_fw_nil]
