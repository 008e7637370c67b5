/-! WALKING ROWS 6: methods that throw. -/
/-- an IllegalStateException is no IllegalArgumentException -/
def xk_No (U : State) : Prop := ∀ cX cY : ClassId, U.vm.findClass "java/lang/IllegalStateException" = some cX → U.vm.findClass "java/lang/IllegalArgumentException" = some cY → U.vm.assignable cX cY = false
theorem xk_No.moved {u U : State} (hvm : u.vm.Alike U.vm) (h : xk_No u) : xk_No U := fun cX cY h1 h2 => by
  rw [hvm.findClass] at h1 h2
  rw [hvm.assignable]
  exact h cX cY h1 h2
/-- the messages, by their places in TermCodec's pool -/
def xk_strs : List (Nat × String) := [(54, "no such kind or number"), (64, "too few terms, no room, or too deep"), (67, "not 0 to 8 bytes"), (69, "no room"), (146, "no number there"), (156, "fewer than two terms")]
/-- words of the tables that are not handed on with the others -/
def xk_tw : List Cond := [.declares (Bundle.initS "java/lang/RuntimeException"), .declares (Bundle.initS "java/lang/Exception"), .declares (Bundle.initS Bundle.tN), .castable "java/lang/IllegalArgumentException" "java/lang/IllegalArgumentException", .castable "java/lang/IllegalStateException" "java/lang/IllegalStateException"]
theorem xk_tw_warm {s U : State} (hW : s.WarmedH U.vm) (h : ∀ w ∈ xk_tw, va_Nw w s) : ∀ w ∈ xk_tw, va_Nw w U := by
  intro w hw
  have h0 := h w hw
  simp only [xk_tw, List.mem_cons, List.not_mem_nil, or_false] at hw
  rcases hw with rfl | rfl | rfl | rfl | rfl
  · exact va_Nw.warmD hW h0
  · exact va_Nw.warmD hW h0
  · exact va_Nw.warmD hW h0
  · exact va_tabs rfl (rfl : (s.setVm U.vm).vm = U.vm) (by rw [Cond.castable_setVm hW.alike]; exact h0)
  · exact va_tabs rfl (rfl : (s.setVm U.vm).vm = U.vm) (by rw [Cond.castable_setVm hW.alike]; exact h0)
/-- a static field of a reference: laid, and out of reach -/
def xk_Sf (C n d : String) (A : Nat → Prop) (U : State) (H : Heap) : Prop := ∃ (c : ClassId) (k : Class) (i : Nat) (f : Field) (a : Nat) (cell : Cell), (U.vm.findClass C = some c ∧ U.fieldFound? C n d = some (c, k, i, f) ∧ f.isStatic = true ∧ k.statics = some a) ∧ (H[a]? = some cell ∧ cell.vm.isStatics = true ∧ cell.cls = c ∧ f.slot < cell.slots.size) ∧ k.staticTypes[f.slot]? = some f.type ∧ (∃ u : RefV, cell.slots[f.slot]? = some u.v) ∧ ¬ A a
theorem xk_Sf.moved {C n d : String} {A : Nat → Prop} {u U : State} {H : Heap} (hvm : u.vm.Alike U.vm) (h : xk_Sf C n d A u H) : xk_Sf C n d A U H := by
  obtain ⟨c, k, i, f, a, cell, ⟨h1, h2, h3, h4⟩, h5, h6, h7, h8⟩ := h
  obtain ⟨k', h2', he⟩ := State.fieldFound?_setVm (s := u) hvm h2
  exact ⟨c, k', i, f, a, cell, ⟨by rw [hvm.findClass]; exact h1, h2', h3, by rw [he]; exact h4⟩, h5, by rw [he]; exact h6, h7, h8⟩
theorem xk_Sf.kept {C n d : String} {A : Nat → Prop} {U : State} {H H1 : Heap} (h : xk_Sf C n d A U H) (hq : ∀ a : Nat, a < H.size → ¬ A a → H1[a]? = H[a]?) : xk_Sf C n d A U H1 := by
  obtain ⟨c, k, i, f, a, cell, h1, ⟨h5, h5'⟩, h6, h7, h8⟩ := h
  exact ⟨c, k, i, f, a, cell, h1, ⟨by rw [hq a (Array.getElem?_eq_some_iff.mp h5).1 h8]; exact h5, h5'⟩, h6, h7, h8⟩
theorem xk_Sf.narrow {C n d : String} {A B : Nat → Prop} {U : State} {H : Heap} (h : xk_Sf C n d A U H) (hAB : ∀ q, B q → A q) : xk_Sf C n d B U H := by
  obtain ⟨c, k, i, f, a, cell, h1, h5, h6, h7, h8⟩ := h
  exact ⟨c, k, i, f, a, cell, h1, h5, h6, h7, fun q => h8 (hAB _ q)⟩
/-- the two static fields that an exception's making reads; the two classes apart; the messages; words -/
def xk_Z (A : Nat → Prop) (U : State) (H : Heap) : Prop := xk_Sf Bundle.tN "UNASSIGNED_STACK" Bundle.steD A U H ∧ xk_Sf Bundle.tN "SUPPRESSED_SENTINEL" Bundle.listD A U H ∧ xk_No U ∧ (∀ q ∈ xk_strs, ∃ a, vk_R "TermCodec" q.1 q.2 a U) ∧ ∀ w ∈ xk_tw, va_Nw w U
theorem xk_Z.moved {A : Nat → Prop} {u U : State} {H : Heap} (hW : u.WarmedH U.vm) (h : xk_Z A u H) : xk_Z A U H := ⟨h.1.moved hW.alike, h.2.1.moved hW.alike, h.2.2.1.moved hW.alike, fun q hq => (h.2.2.2.1 q hq).imp fun _ z => z.warm hW, xk_tw_warm hW h.2.2.2.2⟩
theorem xk_Z.kept {A : Nat → Prop} {U : State} {H H1 : Heap} (h : xk_Z A U H) (hq : ∀ a : Nat, a < H.size → ¬ A a → H1[a]? = H[a]?) : xk_Z A U H1 := ⟨h.1.kept hq, h.2.1.kept hq, h.2.2⟩
theorem xk_Z.narrow {A B : Nat → Prop} {U : State} {H : Heap} (h : xk_Z A U H) (hAB : ∀ q, B q → A q) : xk_Z B U H := ⟨h.1.narrow hAB, h.2.1.narrow hAB, h.2.2⟩
theorem xk_Zw {C n d : String} {A : Nat → Prop} {s : State} {args : Array Value} (h : xk_Sf C n d A s s.heap) : (Cond.isRef (.static C n d)).before args s = true ∧ (Cond.laysStatic C n d).before args s = true := by
  obtain ⟨c, k, i, f, a, cell, ⟨h1, h2, h3, h4⟩, ⟨h5, h5a, h5b, h5c⟩, h6, ⟨⟨v, hv⟩, h7⟩, h8⟩ := h
  refine ⟨?_, Cond.laysStatic_of h1 h2 h3 h4 h5 h5a h5b h5c h6⟩
  have he : (Term.static C n d).eval args s none [] s = some v := by
    have h7 : cell.slots[f.slot]? = some v := h7
    simp [Term.eval, State.fieldNamed?, h2, h3, h4, h5, h5a, h7]
  simp only [Cond.before, Cond.holds, Cond.value]
  rw [he]
  cases v <;> simp [Value.isRef] at hv ⊢
def xk_SW : List Cond := [.isRef (.static Bundle.tN "UNASSIGNED_STACK" Bundle.steD), .isRef (.static Bundle.tN "SUPPRESSED_SENTINEL" Bundle.listD), .laysStatic Bundle.tN "UNASSIGNED_STACK" Bundle.steD, .laysStatic Bundle.tN "SUPPRESSED_SENTINEL" Bundle.listD] ++ xk_tw
theorem xk_tw_tabs : ∀ w ∈ xk_tw, w.onTables = true := by
  intro w hw
  simp only [xk_tw, List.mem_cons, List.not_mem_nil, or_false] at hw
  rcases hw with rfl | rfl | rfl | rfl | rfl <;> rfl
theorem xk_Zws {A : Nat → Prop} {s : State} {args : Array Value} (h : xk_Z A s s.heap) : ∀ c ∈ xk_SW, c.before args s = true := by
  intro c hc
  rcases List.mem_append.mp hc with hc | hc
  · simp only [List.mem_cons, List.not_mem_nil, or_false] at hc
    rcases hc with rfl | rfl | rfl | rfl
    · exact (xk_Zw h.1).1
    · exact (xk_Zw h.2.1).1
    · exact (xk_Zw h.1).2
    · exact (xk_Zw h.2.1).2
  · exact va_Nw.use (xk_tw_tabs c hc) (h.2.2.2.2 c hc)
/-- the slot is as it was -/
def xk_same (s T : State) (q : Loc) : Prop := (T.heap[q.base]?).bind (fun c => c.slots[q.slot]?) = (s.heap[q.base]?).bind (fun c => c.slots[q.slot]?)
section XT1
variable {p : Program} {l : Launch} {e : Env} {R : Room} {s : State} {m : MethodId} {args : Array Value} {below : List Frame} {meth : Method} {c : Code} {T : State} {locs : List Loc} {cells slots : Nat}
theorem xk_tight (X : Stand p l e R s m args below meth c T locs cells slots) : ∃ L, Stand p l e R s m args below meth c T L cells slots ∧ ∀ q ∈ L, q ∈ locs ∧ ¬ xk_same s T q := by
  classical
  obtain ⟨e1, h2, h3, h4, h5, h6⟩ := X.same
  refine ⟨locs.filter (fun q => decide (¬ xk_same s T q)), { X with same := ⟨e1, h2, h3, h4, h5, fun a c hc => ?_⟩ }, fun q hq => ⟨(List.mem_filter.mp hq).1, of_decide_eq_true (List.mem_filter.mp hq).2⟩⟩
  obtain ⟨c', g1, g2, g3, g4⟩ := h6 a c hc
  refine ⟨c', g1, g2, g3, fun i hi => ?_⟩
  by_cases hin : (⟨a, i⟩ : Loc) ∈ locs
  · have hs : xk_same s T ⟨a, i⟩ := Classical.byContradiction fun hns => hi (List.mem_filter.mpr ⟨hin, decide_eq_true hns⟩)
    have g1' : T.heap[a]? = some c' := g1
    unfold xk_same at hs
    simp only [g1', hc, Option.bind_some] at hs
    exact hs
  · exact g4 i hin
end XT1
theorem xk_cell_eq {c c' : Cell} (h1 : c' = { c with slots := c'.slots }) (h2 : ∀ i : Nat, c'.slots[i]? = c.slots[i]?) : c' = c := by
  have h3 : c'.slots = c.slots := Array.ext_getElem? h2
  rw [h1, h3]
theorem xk_P_thr {D : va_G} {w : va_W} {s T U : State} {L : List Loc} {cells slots : Nat} (hP0 : va_P D vwCl w s.heap) (hPT : va_P D vwCl w T.heap) (hU : s.sameButNew ({ U with vm := s.vm } : State) L cells slots) (hl : ∀ q ∈ L, ¬ xk_same s T q) : va_P D vwCl w U.heap := by
  obtain ⟨-, -, -, -, -, h6⟩ := hU
  intro k q hk
  have h0 := hP0 k q hk
  have h1 := hPT k q hk
  obtain ⟨a, z⟩ := q
  cases z with
  | inl z =>
    have h0 : s.heap[a]? = some (vp_cell z.1 z.2) := h0
    have h1 : T.heap[a]? = some (vp_cell z.1 z.2) := h1
    obtain ⟨c', g1, g2, g3, g4⟩ := h6 a _ h0
    have e1 : c' = vp_cell z.1 z.2 := xk_cell_eq g2 (fun i => g4 i (fun hi => hl _ hi (by
      unfold xk_same
      simp only [h0, h1])))
    show U.heap[a]? = some (vp_cell z.1 z.2)
    rw [← e1]
    exact g1
  | inr o =>
    obtain ⟨r, hr, cell0, a1, a2, a3, a4⟩ := h0
    obtain ⟨r', hr', cell1, b1, b2, b3, b4⟩ := h1
    cases hr.symm.trans hr'
    obtain ⟨c', g1, g2, g3, g4⟩ := h6 a _ a1
    refine ⟨r, hr, c', g1, by rw [g2]; exact a2, by rw [g2]; exact a3, fun j hj => ?_⟩
    rw [g4 _ (fun hi => hl _ hi (by
      have a1' : s.heap[a]? = some cell0 := a1
      have b1' : T.heap[a]? = some cell1 := b1
      unfold xk_same
      simp only [a1', b1', Option.bind_some]
      rw [a4 j hj, b4 j hj]))]
    exact a4 j hj
theorem xk_F_thr {A : Nat → Prop} {s U : State} {L : List Loc} {cells slots : Nat} (hU : s.sameButNew ({ U with vm := s.vm } : State) L cells slots) (hl : ∀ q ∈ L, A q.base) : va_F A s U := by
  obtain ⟨-, h2, -, -, -, h6⟩ := hU
  refine ⟨h2, fun q hq hn => ?_⟩
  obtain ⟨c, hc⟩ : ∃ c, s.heap[q]? = some c := ⟨_, Array.getElem?_eq_getElem hq⟩
  obtain ⟨c', g1, g2, g3, g4⟩ := h6 q c hc
  have e1 : c' = c := xk_cell_eq g2 (fun i => g4 i (fun hi => hn (hl _ hi)))
  rw [hc, ← e1]
  exact g1
-- the ends of a method that may throw
def xk_FE (s t : State) (L : List Loc) (mc ms : Nat) : Prop := s.WarmedH t.vm ∧ s.sameButNew ({ t with vm := s.vm } : State) L mc ms
def xk_QT (post : Option Value ⊕ String → va_W → Prop) (D : va_G) (A : Nat → Prop) (st : State) (oc : Outcome) (t : State) : Prop :=
  ∃ (r : Option Value ⊕ String) (u : va_W), post r u ∧ va_P D vwCl u t.heap ∧ va_D A u ∧ va_F A st t ∧ match r with
    | .inl v => oc = .returned v
    | .inr X => ∃ (a : Addr) (cell : Cell), oc = .threw a ∧ t.heap[a]? = some cell ∧ st.vm.findClass X = some cell.cls ∧ cell.vm = .none
def xk_MQT (below : List Frame) (post : Option Value ⊕ String → va_W → Prop) (D : va_G) (A : Nat → Prop) (s : State) (mc ms : Nat) (t : State) : Prop := ∃ o, t.status = .running ∧ Ended t below o ∧ xk_QT post D A s o t ∧ ∃ L, xk_FE s t L mc ms ∧ ∀ q ∈ L, A q.base
def xk_PreT (D : va_G) (ty : List (ClassId × FieldType)) (as : List Value) (w : va_W) (sz : Nat) : Array Value → State → Prop := fun v U => xk_Pre D ty as w sz v U ∧ xk_Z (va_A w sz) U U.heap
/-- THE CONTRACT of a method that may throw: .inr X: it throws an X -/
def xk_CtT (y : MethodName) (cc : ByteArray) (nL : Nat) (rt : Option FieldType) (rm : Room) (D : va_G) (ty : List (ClassId × FieldType)) (as : List Value) (w : va_W) (post : Option Value ⊕ String → va_W → Prop) : Prop :=
  ∀ (l : Launch) (sz : Nat), l.stackTraces = false → MetFree l y (headSpec (.code y cc nL rt :: xk_gt) rm) (xk_PreT D ty as w sz) (fun _ _ _ _ _ => True) (fun _ st o t => xk_QT post D (va_A w sz) st o t ∧ ∃ L, xk_FE st t L rm.cells rm.slots ∧ ∀ q ∈ L, va_A w sz q.base)
/-- the ends of a method that may throw; w: its cells at its entry -/
def xk_RtT (K : xk_T) (D : va_G) (rt : Option FieldType) (post : Option Value ⊕ String → va_W → Prop) (mc ms : Nat) (w : va_W) : Prop := match K with
  | (_, l, _, _, s, _, _, below, meth, c, Q, A) => meth.sig.returnType = rt ∧ meth.locks = false ∧ Q = xk_MQT below post D A s mc ms ∧ l.stackTraces = false ∧ xk_Z A s s.heap ∧ c.exceptionTable.isEmpty = true ∧ (∀ q, A q → ∀ cell, s.heap[q]? = some cell → cell.vm.isStatics = false) ∧ va_P D vwCl w s.heap
theorem xk_nost {D : va_G} {w : va_W} {H : Heap} (hP : va_P D vwCl w H) : ∀ q, va_A w H.size q → ∀ cell, H[q]? = some cell → cell.vm.isStatics = false := by
  intro q hq cell hc
  rcases hq with ⟨k, e, hk⟩ | hq
  · have h := hP k _ hk
    cases e with
    | inl z =>
      have h : H[q]? = some (vp_cell z.1 z.2) := h
      rw [h] at hc
      rw [← Option.some.inj hc]
      obtain ⟨c, n, f⟩ := z
      rcases f with f | f | f | f | f <;> rfl
    | inr o =>
      obtain ⟨r, hr, cell0, a1, a2, a3, a4⟩ := h
      have a1 : H[q]? = some cell0 := a1
      rw [a1] at hc
      rw [← Option.some.inj hc, a3]
      rfl
  · rw [Array.getElem?_eq_none hq] at hc
    cases hc
theorem xk_enterT {y : MethodName} {cc : ByteArray} {nL : Nat} {rt : Option FieldType} {rm : Room} {D : va_G} {ty : List (ClassId × FieldType)} {as : List Value} {w : va_W} {post : Option Value ⊕ String → va_W → Prop}
    (hy : plainName y.cls = true) (hlv : (lg_sl as).length ≤ nL)
    (body : ∀ K : xk_T, xk_Ok K D cc nL y.cls rm ty → xk_RtT K D rt post rm.cells rm.slots w → xk_Go K D nL 0 0 w (lv_args 0 as) 0 []) : xk_CtT y cc nL rt rm D ty as w post := by
  intro l sz htr
  refine MetFree.of_bodyS (code := cc) (maxLocals := nL) (ret := rt) hy ?_ ?_
  · intro args s m h hn
    obtain ⟨meth, c, h1, h2, h3, h4, h5, h6, -, -⟩ := Cond.code_spec hn (atoms_spec (ws := .code y cc nL rt :: xk_gt) h _ List.mem_cons_self)
    exact ⟨meth, c, h1, h2, h3, h4, h5, h6⟩
  · intro p e s m args below meth c s₁ B hml hv _
    obtain ⟨⟨rfl, hsz, hP, hK, hD0⟩, hZ⟩ := hv
    have hts := atoms_spec (ws := .code y cc nL rt :: xk_gt) B.pre
    have hown : s.vm.findClass y.cls = some m.cls := findClass_of_methodNamed B.named
    subst hsz
    have hD := hD0.self (sz := s.heap.size)
    have hA : ∀ q : Nat, s.heap.size ≤ q → va_A w s.heap.size q := fun q h => Or.inr h
    have hl := lv_entry as (n := nL) hlv
    have hh0 : s₁.heap = s.heap := by rw [B.state]; rfl
    have hgo := body (p, l, e, rm, s, m, as.toArray, below, meth, c, xk_MQT below post D (va_A w s.heap.size) s rm.cells rm.slots, va_A w s.heap.size)
      ⟨B.exec, B.bytes, hml, hown, fun x hx => hts x (List.mem_cons_of_mem _ hx), hK, hA, rfl⟩ ⟨B.returns, B.notSynchronized, rfl, htr, hZ, B.noHandlers (hts _ List.mem_cons_self), xk_nost hP, hP⟩
      s.heap [] _ hP hD va_S.rf hl
    rw [← lg_entry_eq] at hgo
    obtain ⟨t, a1, o, b1, b2, b3, b4⟩ := hgo s₁ hh0 (Stand.of_body B)
    exact ⟨t, o, a1, b1, b2, b3, b4⟩
section XT2
variable {K : xk_T} {D : va_G} {cc : ByteArray} {nL k n mc ms : Nat} {own : String} {R0 : Room} {ty : List (ClassId × FieldType)} {w w0 : va_W} {lv : List (Nat × Value)} {pc : Nat} {rt : Option FieldType} {post : Option Value ⊕ String → va_W → Prop}
theorem x_iretT (C : xk_Ok K D cc nL own R0 ty) (T : xk_RtT K D rt post mc ms w0) {v : Int32} (ft : FieldType) (hr : rt = some ft) (hn : narrow ft (.int v) = .int v) (hk : k ≤ mc) (hn2 : n ≤ ms) (d : decode cc pc = .ok (.ireturn, 1)) (hp : post (.inl (some (.int v))) w) : xk_Go K D nL k n w lv pc [.int v] := by
  obtain ⟨p, l, e, R, s, m, args, below, meth, c, Q, A⟩ := K
  obtain ⟨hx, hb, -⟩ := C
  obtain ⟨h1, h2, h3, -⟩ := T
  subst hr
  subst h3
  intro H locs ls hP hD hS hl
  refine W.widen hk hn2 ?_
  intro T0 hT X
  obtain ⟨t, st, o, a1, a2, ⟨ho, hh⟩, L, hF, hL⟩ := (W.zret (Qc := fun _ _ oc t => oc = .returned (some (.int v)) ∧ t.heap = H) (free := A) hx hb h1 hn (fun t ht hW => ⟨rfl, ht⟩) hS.2.2 d h2 : W p l e R s m args below meth c H locs mc ms (MQ below (fun _ _ oc t => oc = .returned (some (.int v)) ∧ t.heap = H) args s mc ms A) (F0 m pc ls [.int v])) T0 hT X
  obtain ⟨-, hW, hsm⟩ := hF
  exact ⟨t, st, o, a1, a2, ⟨.inl _, w, hp, by rw [hh]; exact hP, hD, hS.F hh, ho⟩, L, ⟨hW, hsm⟩, hL⟩
theorem x_lretT (C : xk_Ok K D cc nL own R0 ty) (T : xk_RtT K D rt post mc ms w0) {v : Int64} (hr : rt = some .long) (hk : k ≤ mc) (hn2 : n ≤ ms) (d : decode cc pc = .ok (.lreturn, 1)) (hp : post (.inl (some (.long v))) w) : xk_Go K D nL k n w lv pc [.long v] := by
  obtain ⟨p, l, e, R, s, m, args, below, meth, c, Q, A⟩ := K
  obtain ⟨hx, hb, -⟩ := C
  obtain ⟨h1, h2, h3, -⟩ := T
  subst hr
  subst h3
  intro H locs ls hP hD hS hl
  refine W.widen hk hn2 ?_
  intro T0 hT X
  obtain ⟨t, st, o, a1, a2, ⟨ho, hh⟩, L, hF, hL⟩ := (W.lret (Qc := fun _ _ oc t => oc = .returned (some (.long v)) ∧ t.heap = H) (free := A) hx hb h1 (fun t ht hW => ⟨rfl, ht⟩) hS.2.2 d h2 : W p l e R s m args below meth c H locs mc ms (MQ below (fun _ _ oc t => oc = .returned (some (.long v)) ∧ t.heap = H) args s mc ms A) (F0 m pc ls [.long v])) T0 hT X
  obtain ⟨-, hW, hsm⟩ := hF
  exact ⟨t, st, o, a1, a2, ⟨.inl _, w, hp, by rw [hh]; exact hP, hD, hS.F hh, ho⟩, L, ⟨hW, hsm⟩, hL⟩
/-- throw new X("..") -/
theorem x_throw (C : xk_Ok K D cc nL own R0 ty) (T : xk_RtT K D rt post mc ms w) {X txt : String} {names : List String} {i0 i1 i2 : Nat}
    (hcl : Cond.classLink own i0 X ∈ xk_gt) (hini : Cond.initialized X ∈ xk_gt) (hstr : own = "TermCodec" ∧ (i1, txt) ∈ xk_strs) (hat : ∀ a ∈ Bundle.ownAtoms own i2 X names, a ∈ xk_gt ∨ a ∈ xk_SW) (hfit : Bundle.fit X = true) (hnames : ∀ z ∈ names, Bundle.fit z = true)
    (d0 : decode cc pc = .ok (.new i0, 3)) (d1 : decode cc (pc + 3) = .ok (.dup, 1)) (d2 : decode cc (pc + 4) = .ok (.ldc i1, 2)) (d3 : decode cc (pc + 6) = .ok (.invokespecial i2, 3)) (d4 : decode cc (pc + 9) = .ok (.athrow, 1))
    (hfr : names.length + 3 < R0.frames) (hlo : 1 + (13 * (names.length + 1) + 42) ≤ R0.locals) (hk : k + 1 ≤ mc) (hn : n + 6 ≤ ms) (hmc : mc ≤ R0.cells) (hms : ms ≤ R0.slots) (hp : post (.inr X) w) : xk_Go K D nL k n w lv pc [] := by
  obtain ⟨p, l, e, R, s, m, args, below, meth, c, Q, A⟩ := K
  obtain ⟨hx, hb, hml, hown, hts, hK, hA, hR0⟩ := C
  obtain ⟨h1, h2, h3, htr, hZ, hex, hst, hP0⟩ := T
  subst h3
  subst hR0
  have hws : ∀ a ∈ Bundle.ownAtoms own i2 X names, a.before args s = true := fun a ha => (hat a ha).elim (fun q => hts a q) (fun q => xk_Zws hZ a q)
  have hins : (Cond.instantiable X 6).before args s = true := hws _ (by simp [Bundle.ownAtoms])
  obtain ⟨cX, kX, hfX, hkX, -⟩ := Cond.instantiable_spec hins
  intro H locs ls hP hD hS hl
  refine W.newcK (g := F0 m pc ls []) hx hb hown (hts _ hcl) hins (hts _ hini) rfl d0 (by omega) (by omega) hfX rfl (fun H1 kC hkC e1 z1 o1 => ?_)
  refine lv_dup hx hb d1 rfl ?_
  intro T0 hT X0
  obtain ⟨L, X1, hL⟩ := xk_tight X0
  obtain ⟨hoX, hstr⟩ := hstr
  obtain ⟨sa, hsr, hev⟩ := hZ.2.2.2.1 _ hstr
  rw [← hoX] at hsr hev
  obtain ⟨U, hsteps, hrun, hend, hW, hsame, ce, hce, Kc⟩ := X1.ctorThrowS hx (by rw [X1.admits.platform]; exact htr) (own := own) (cls := X) (names := names) (ic := i2) hown hfit hnames hws
    (fun x hx cell hc => hst _ (hS.2.2 x (hL x hx).1) cell hc) hfX hkC (a := H.size) (by rw [hT]; exact e1) hS.1 (msg := .ref sa) rfl
    (g := F0 m (pc + 6) ls [.ref sa, .ref H.size, .ref H.size]) rfl (hl.1.trans hml.symm) rfl rfl (rest := []) rfl (by rw [hb]; exact d3) (by rw [hb]; exact d4) (covers_of_empty hex _) hfr hlo h2
  have hPT : va_P D vwCl w T0.heap := by
    rw [hT]
    exact hP.kept (fun j x hx => o1 x.1 ((hP j x hx).lt))
  refine ⟨U, X1.ldcString hx (own := own) (text := txt) (index := i1) (a := sa) hown hsr hev (g := F0 m (pc + 4) ls [.ref H.size, .ref H.size]) rfl (by rw [hb]; exact d2) _ hsteps, .threw H.size, hrun, hend,
    ⟨.inr X, w, hp, xk_P_thr hP0 hPT hsame (fun q hq => (hL q hq).2), hD, xk_F_thr hsame (fun q hq => hS.2.2 q (hL q hq).1), H.size, ce, rfl, hce, Kc.cls, Kc.vm⟩, L, ⟨hW, hsame.mono hk hn⟩, fun q hq => hS.2.2 q (hL q hq).1⟩
end XT2
