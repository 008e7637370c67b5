theorem tc_nth_no {Ts : List (List tc_Nd)} {kn : Nat → Nat} {nu wo : Nat → Int64} {si de la le ro : Nat → Nat} {tm nd : Nat} {k : Int32} (h : tc_RS Ts (kn, nu, wo, si, de, la, le) ro tm nd) (g : tm = 0 ∨ ∀ j, j < si (ro (tm - 1)) → k ≠ nI j) : tc_nth Ts k = none := by
  match Ts, h with
  | [], _ => rfl
  | t :: R, h =>
    obtain ⟨z1, z2, z3, z4, z5, z6, z7, z8, z9, z10, z11, z12⟩ := tc_top h
    have g := g.resolve_left (by omega)
    rw [z2, z9] at g
    exact tc_nth_none (by omega) g
theorem tc_sib {kn : Nat → Nat} {nu wo : Nat → Int64} {si de la le : Nat → Nat} {t : List tc_Nd} {r i : Nat} (h : tc_AR (kn, nu, wo, si, de, la, le) r t) (hi : i < t.length) : si (r + i) = tc_sz (t.drop i) := by
  have hx : t[i]? = some t[i] := List.getElem?_eq_getElem hi
  have := (tc_at_k h hx).2.2.2.1
  rw [tc_drop1 hx]
  exact this
