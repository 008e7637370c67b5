/-! WALKING ROWS 7: calls of methods that may throw; the caller catches. -/
section XU1
variable {e : Env} {s : State} {f : JFrame} {a : Addr}
theorem xk_go_link {x : ExceptionTableEntry} {t : List ExceptionTableEntry} {c : ClassId} {cell : Cell} (hx : covers x f.pc = true) (h0 : x.catchType ≠ 0)
    (hl : s.vm.ClassLinks e.platform f.method.cls x.catchType c) (hcell : s.heap[a]? = some cell) (hobj : ∀ k, cell.vm ≠ .statics k) (hk : ∃ k, s.vm.classes[cell.cls]? = some k) (hc : ∃ k, s.vm.classes[c]? = some k)
    {Q : Handler → Pre} {E : CtlPost} {d : Bool} {acts : List Action} :
    wp (findHandler.go f a (x :: t)) Q E e d acts s ↔ if s.vm.assignable cell.cls c = true then Q (.found x.handlerPc) d acts (s.setVm (s.vm.noted f.method.cls x.catchType (.cls c))) else wp (findHandler.go f a t) Q E e d acts (s.setVm (s.vm.noted f.method.cls x.catchType (.cls c))) := by
  simp only [covers] at hx
  obtain ⟨ha, ht⟩ := (resolveClass_links e.toSetting hl).op (op := VmOp.resolveClass f.method.cls x.catchType) rfl
  have hal : s.vm.Alike (s.vm.noted f.method.cls x.catchType (.cls c)) := (Vm.Alike.refl s.vm).noted _ _ _
  obtain ⟨k1, hk1⟩ := hk
  obtain ⟨k2, hk2⟩ := hc
  obtain ⟨k1', hk1', -⟩ := hal.2.2 _ _ hk1
  obtain ⟨k2', hk2', -⟩ := hal.2.2 _ _ hk2
  have hfit : (s.vm.noted f.method.cls x.catchType (.cls c)).assignable cell.cls c = s.vm.assignable cell.cls c := hal.assignable _ _
  cases hq : s.vm.assignable cell.cls c <;> simp [findHandler.go, hx, h0, ha, ht, hcell, hobj, hk1', hk2', hfit, hq, VmOp.dirties, VmOp.acts]
end XU1
/-- at pc, an X is caught at the handler h' -/
def xk_Cat (own : String) (pc : Nat) (X : String) : List (Nat × Nat × Nat × Nat) → Nat → Prop
  | [], _ => False
  | (a, b, h, t) :: rest, h' => (a ≤ pc ∧ pc < b ∧ t ≠ 0) ∧ ((Cond.classLink own t X ∈ xk_gt ∧ Cond.castable X X ∈ xk_tw ∧ h' = h) ∨ (X = "java/lang/IllegalStateException" ∧ Cond.classLink own t "java/lang/IllegalArgumentException" ∈ xk_gt ∧ Cond.instantiable X 6 ∈ xk_gt ∧ xk_Cat own pc X rest h'))
theorem xk_find {e : Env} {s : State} {args : Array Value} {f : JFrame} {a : Addr} {own X : String} {cell : Cell} (hts : ∀ w ∈ xk_gt, w.before args s = true) (hpl : e.platform.magicAccessors = ({} : Platform).magicAccessors) (hown : s.vm.findClass own = some f.method.cls) (hX : s.vm.findClass X = some cell.cls) (hvm : cell.vm = .none) (hNo : xk_No s) (hTw : ∀ w ∈ xk_tw, va_Nw w s) :
    ∀ (tb : List ExceptionTableEntry) (h : Nat) (S : State), s.WarmedH S.vm → S.heap[a]? = some cell → xk_Cat own f.pc X (tb.map (fun x => (x.startPc, x.endPc, x.handlerPc, x.catchType))) h →
    ∃ vm', s.WarmedH vm' ∧ ∀ (Q : Handler → Pre) (E : CtlPost) (d : Bool) (acts : List Action), wp (findHandler.go f a tb) Q E e d acts S ↔ Q (.found h) d acts (S.setVm vm')
  | [], h, S, hW, hc, hcat => hcat.elim
  | x :: tb, h, S, hW, hc, hcat => by
    obtain ⟨⟨c1, c2, c3⟩, hcat⟩ := hcat
    have hcov : covers x f.pc = true := by simp [covers, c1, c2]
    have hobj : ∀ k, cell.vm ≠ .statics k := fun k => by rw [hvm]; exact fun z => by cases z
    have key : ∀ Y : String, Cond.classLink own x.catchType Y ∈ xk_gt → ∃ cY, s.vm.findClass Y = some cY ∧ S.vm.ClassLinks e.platform f.method.cls x.catchType cY ∧ s.WarmedH (S.vm.noted f.method.cls x.catchType (.cls cY)) ∧ ∃ k, S.vm.classes[cY]? = some k := by
      intro Y hY
      obtain ⟨cY, hcY, hcl⟩ := Cond.classLink_spec hown (hts _ hY) e.platform hpl
      obtain ⟨dk, _, _, kt, hd, _, _, _, _, hkt, _, hopen⟩ := hcl.here
      obtain ⟨kt', hkt', -⟩ := hW.alike.2.2 _ _ hkt
      exact ⟨cY, hcY, hW.classLinks hcl, hW.noted hd hopen (State.rightAt_cls hcl), kt', hkt'⟩
    rcases hcat with ⟨hl, hca, rfl⟩ | ⟨rfl, hl, hins, hcat⟩
    · obtain ⟨cX, hcX, hcl, hW2, hk2⟩ := key X hl
      cases hX.symm.trans hcX
      obtain ⟨c3', c4', hc3', hc4', hasg⟩ := Cond.castable_spec (hTw _ hca)
      cases hc3'.symm.trans hX
      cases hc4'.symm.trans hX
      refine ⟨_, hW2, fun Q E d acts => ?_⟩
      rw [xk_go_link hcov c3 hcl hc hobj hk2 hk2, if_pos (by rw [hW.alike.assignable]; exact hasg)]
    · obtain ⟨cY, hcY, hcl, hW2, hk2⟩ := key _ hl
      have hkX : ∃ k, S.vm.classes[cell.cls]? = some k := by
        obtain ⟨cq, k, hcq, hk, -⟩ := Cond.instantiable_spec (hts _ hins)
        cases hcq.symm.trans hX
        obtain ⟨k', hk', -⟩ := hW.alike.2.2 _ _ hk
        exact ⟨k', hk'⟩
      obtain ⟨vm', hW3, hf⟩ := xk_find hts hpl hown hX hvm hNo hTw tb h (S.setVm (S.vm.noted f.method.cls x.catchType (.cls cY))) hW2 hc hcat
      refine ⟨vm', hW3, fun Q E d acts => ?_⟩
      rw [xk_go_link hcov c3 hcl hc hobj hkX hk2, if_neg (by rw [hW.alike.assignable, hNo _ _ hX hcY]; decide), hf]
      rfl
theorem xk_caught {tb : Tables} {e : Env} {s target : State} {g : JFrame} {c : Code} {below : List Frame} {a : Addr} {vm' : Vm} {pc : Nat} (h : At s g.method c below)
    (hfind : ∀ (Q : Handler → Pre) (E : CtlPost) (d : Bool) (acts : List Action), wp (findHandler g a) Q E e d acts ((s.setTop g).pushFrame (.throwing a)) ↔ Q (.found pc) d acts (((s.setTop g).pushFrame (.throwing a)).setVm vm'))
    (hrest : Steps tb e below ((s.setVm vm').setTop { g with pc := pc, stack := [.ref a] }) target) : Steps tb e below ((s.setTop g).pushFrame (.throwing a)) target := by
  obtain ⟨hgo, hw⟩ := h.throwing a
  refine Steps.head hgo hw ?_
  have hstep : ∀ r : List Frame, (stepThrowing e ((s.setTop g).pushFrame (.throwing a)) a (.java g :: r)).Is ((((s.setTop g).pushFrame (.throwing a)).setVm vm').setFrames (.java { g with pc := pc, stack := [.ref a] } :: r)) [] := by
    intro r
    simp only [stepThrowing, searchFrame, vmDo]
    generalize hr : Sem.go _ e false [] ((s.setTop g).pushFrame (.throwing a)) = res
    obtain ⟨as, rfl, ha⟩ := Sem.eq_ok_of hr (a := Handler.found pc) (s' := ((s.setTop g).pushFrame (.throwing a)).setVm vm') (acts' := []) (by simp [hfind _ _ _ _])
    exact ⟨rfl, ha⟩
  rw [stepThread_throwing (frames_entered h.top _), (hstep _).1]
  obtain ⟨g₀, hg⟩ := Option.isSome_iff_exists.mp h.top
  obtain ⟨r, hr⟩ := State.topJava?_eq_some.mp hg
  have hr' : (s.setVm vm').frames = .java g₀ :: r := hr
  rw [State.setTop_of_frames _ hr'] at hrest
  have e1 : ∀ (u : State) (F G : List Frame), ((u.setFrames F).setVm vm').setFrames G = (u.setVm vm').setFrames G := fun u F G => State.setFrames_setFrames (u.setVm vm') F G
  rw [hr, List.tail_cons, State.pushFrame, e1, State.setTop_of_frames _ hr, e1]
  exact hrest
section XU2
variable {p : Program} {l : Launch} {e : Env} {R : Room} {s : State} {m : MethodId} {args : Array Value} {below : List Frame} {meth : Method} {c : Code} {T : State} {locs : List Loc} {cells slots : Nat}
theorem xk_ofFreeT {y : MethodName} {ws : List Cond} {rm : Room} {Pc : Array Value → State → Prop} {post : Option Value ⊕ String → va_W → Prop} {D : va_G} {A1 : Nat → Prop} {bytes : ByteArray} {maxL len : Nat} {ret : Option FieldType} {ig : Instr} {mk : MethodId} {a : Array Value} {g : JFrame}
    (X : Stand p l e R s m args below meth c T locs cells slots)
    (hM : MetFree l y (headSpec ws rm) Pc (fun _ _ _ _ _ => True) (fun _ st o t => xk_QT post D A1 st o t ∧ ∃ L, xk_FE st t L rm.cells rm.slots ∧ ∀ q ∈ L, A1 q.base))
    (hg : g.method = m) (hsize : g.locals.size = c.maxLocals) (hdg : decode c.code g.pc = .ok (ig, len)) (hW8 : 2 * g.monitorRoom + (g.stack.map fun v => v.category).sum ≤ 8) (hn : T.methodNamed? y = some mk)
    (h1 : (headSpec ws rm).pre.before a T = true) (h2 : (Cond.code y bytes maxL ret).before a T = true) (h3 : (Cond.initialized y.cls).before a T = true) (h4 : cells + rm.cells ≤ R.cells) (h5 : slots + rm.slots ≤ R.slots)
    (hframes : rm.frames + 1 ≤ R.frames) (hlocals : 8 + (maxL + 11) + rm.locals ≤ R.locals) (hP : Pc a (T.calling g mk a)) :
    ∃ (o : Outcome) (T' : State) (L : List Loc), Stand p l e R s m args below meth c T' (locs ++ L) (cells + rm.cells) (slots + rm.slots) ∧ (∀ q ∈ L, A1 q.base) ∧ xk_QT post D A1 (T.calling g mk a) o T' ∧ T.WarmedH T'.vm ∧
      match o with
      | .returned v => Steps p.tables e below (doInvoke e (T.setTop g) [] mk a).1 (T'.setTop { g with pc := g.pc + len, stack := v.toList ++ g.stack })
      | .threw x => Steps p.tables e below (doInvoke e (T.setTop g) [] mk a).1 ((T'.setTop g).pushFrame (.throwing x)) := by
  subst hg
  obtain ⟨methY, cY, hmY, hcY, -, hlY, -⟩ := Cond.code_spec hn h2
  obtain ⟨kY, hkY, -⟩ := className_of_methodNamed hn
  have hinitY : kY.init = .initialized := Cond.initialized_spec (findClass_of_methodNamed hn) hkY h3
  have h : At T g.method c below := X.here
  have happ : (headSpec ws rm).appliesLoose y e.platform (T.calling g mk a) = true :=
    Spec.appliesLoose_calling (g := g) h hdg hn hkY hinitY
      (X.room_calling (g := g) (R' := rm) hsize hmY hcY hframes (by rw [hlY]; omega) h4 h5) h1
  obtain ⟨mid, hmid⟩ := h.above
  have hfr : (T.setTop g).frames = (.java g :: mid) ++ below := by rw [State.frames_setTop' g h.top, hmid]; rfl
  obtain ⟨o, s₂, hsteps, -, hend, hq⟩ := Steps.callFree hM p X.admits X.cas X.clock (acts := []) hfr happ hP trivial
  rw [State.frames_setTop' g h.top] at hend
  obtain ⟨hqt, L, ⟨hW₂, e2, q2, q3, q4, q5, q6⟩, hL⟩ : xk_QT post D A1 (T.calling g mk a) o s₂ ∧ ∃ L, xk_FE (T.calling g mk a) s₂ L rm.cells rm.slots ∧ ∀ q ∈ L, A1 q.base := hq
  have e3 : s₂ = ({ (T.calling g mk a).setFrames s₂.frames with heap := s₂.heap, slotsUsed := s₂.slotsUsed } : State).setVm s₂.vm := by
    have : s₂ = ({ s₂ with vm := (T.calling g mk a).vm } : State).setVm s₂.vm := rfl
    rw [e2] at this
    exact this
  have hW' : T.WarmedH s₂.vm := hW₂
  obtain ⟨g₀, hg0⟩ := Option.isSome_iff_exists.mp h.top
  obtain ⟨r, hr⟩ := State.topJava?_eq_some.mp hg0
  have hr' : (({ T with heap := s₂.heap, slotsUsed := s₂.slotsUsed } : State).setVm s₂.vm).frames = .java g₀ :: r := hr
  have hsame : T.sameButNew ({ T with heap := s₂.heap, slotsUsed := s₂.slotsUsed } : State) L rm.cells rm.slots := by
    refine ⟨?_, q2, q3, q4, q5, q6⟩
    obtain ⟨t, ht, -⟩ := State.frames_cons hr
    show ({ T with heap := s₂.heap, slotsUsed := s₂.slotsUsed } : State) = { T.setFrames T.frames with heap := s₂.heap, slotsUsed := s₂.slotsUsed }
    rw [State.setFrames_self ht]
  refine ⟨o, (({ T with heap := s₂.heap, slotsUsed := s₂.slotsUsed } : State).setVm s₂.vm), L,
    ⟨X.admits, X.cas, X.clock, X.frames, X.room, X.hears, X.method, X.code, (X.here.setHeapUsed s₂.heap s₂.slotsUsed).setVm hW'.alike, X.tail, State.WarmedH.trans X.warmed hW', X.limits, X.bytes, X.same.trans (hsame.setVm s.vm)⟩, hL, hqt, hW', ?_⟩
  cases o with
  | returned v =>
    obtain ⟨c₂, i₂, len₂, hc₂, hd₂, hf₂⟩ := hend
    have hcc : c₂ = c := by
      have h1 : s₂.code? g.method = T.code? g.method := by
        rw [State.code?_eq, State.code?_eq, hW'.alike.method?]
      exact Option.some.inj (hc₂.symm.trans (h1.trans h.code))
    subst hcc
    have hlen : len₂ = len := by rw [hdg] at hd₂; cases hd₂; rfl
    subst hlen
    have hs₂ : s₂ = (({ T with heap := s₂.heap, slotsUsed := s₂.slotsUsed } : State).setVm s₂.vm).setTop { g with pc := g.pc + len₂, stack := v.toList ++ g.stack } := by
      refine e3.trans ?_
      rw [hf₂, State.calling_eq h.top, State.setFrames_setFrames, State.setTop_of_frames _ hr', hr]
      rfl
    show Steps p.tables e below _ ((({ T with heap := s₂.heap, slotsUsed := s₂.slotsUsed } : State).setVm s₂.vm).setTop { g with pc := g.pc + len₂, stack := v.toList ++ g.stack })
    rw [← hs₂]
    exact hsteps
  | threw x =>
    have hf₂ : s₂.frames = .throwing x :: .java g :: T.frames.tail := hend
    have hs₂ : s₂ = ((({ T with heap := s₂.heap, slotsUsed := s₂.slotsUsed } : State).setVm s₂.vm).setTop g).pushFrame (.throwing x) := by
      refine e3.trans ?_
      rw [hf₂, State.calling_eq h.top, State.setFrames_setFrames, State.pushFrame, State.frames_setTop _ hr', State.setTop_of_frames _ hr', State.setFrames_setFrames, hr]
      rfl
    show Steps p.tables e below _ (((({ T with heap := s₂.heap, slotsUsed := s₂.slotsUsed } : State).setVm s₂.vm).setTop g).pushFrame (.throwing x))
    rw [← hs₂]
    exact hsteps
end XU2
/-- the machine is in a method with the handlers hh; no stack traces; the exceptions' static fields -/
def xk_Hx (K : xk_T) (hh : List (Nat × Nat × Nat × Nat)) : Prop := match K with
  | (_, l, _, _, s, _, _, _, _, c, _, A) => c.exceptionTable.toList.map (fun x => (x.startPc, x.endPc, x.handlerPc, x.catchType)) = hh ∧ l.stackTraces = false ∧ xk_Z A s s.heap
theorem xk_PreT_calling {D : va_G} {ty : List (ClassId × FieldType)} {as : List Value} {w : va_W} {sz : Nat} {U : State} {g : JFrame} {mk : MethodId} (h : xk_PreT D ty as w sz as.toArray U) : xk_PreT D ty as w sz as.toArray (U.calling g mk as.toArray) :=
  ⟨xk_Pre_blind _ _ _ _ h.1, h.2.moved (U := U.calling g mk as.toArray) (State.WarmedH.refl U)⟩
section XU3
variable {K : xk_T} {D : va_G} {cc : ByteArray} {nL k n : Nat} {own : String} {R0 : Room} {ty : List (ClassId × FieldType)} {w : va_W} {lv : List (Nat × Value)} {pc : Nat} {st : List Value}
theorem x_callVT (C : xk_Ok K D cc nL own R0 ty) {hh : List (Nat × Nat × Nat × Nat)} (Hx : xk_Hx K hh) {y : MethodName} {cc' : ByteArray} {nL' : Nat} {rt' : Option FieldType} {rm : Room} {ty' : List (ClassId × FieldType)} {wc : va_W} {post : Option Value ⊕ String → va_W → Prop} {b : Nat} {As : List Value}
    (hM : xk_CtT y cc' nL' rt' rm D ty' (.ref b :: As) wc post) {idx na : Nat} (hk : xk_CB own idx y cc' nL' rt' na) (hk2 : Cond.instanceMethod y ∈ xk_gt ∧ Cond.selects y.cls y y ∈ xk_gt)
    (isC isR isT : List Nat) (wr : va_W) (hC : isC.map (fun i => w[i]?) = wc.map some) (hR : isR.map (fun i => w[i]?) = wr.map some) (hnC : va_nd isC = true) (hnR : va_nd isR = true) (hdis : ∀ i ∈ isR, i ∉ isC) (hT : isT.filterMap (fun i => ty[i]?) = ty')
    (r0 : Nat) {ci : Nat} {fs : List Value} (hrc : wc[r0]? = some (b, .inr (ci, fs))) (hcl : (vwCl[ci]?).map (fun q => q.1) = some y.cls)
    (hroom : rm.frames + 1 ≤ R0.frames ∧ 8 + (nL' + 11) + rm.locals ≤ R0.locals) (hcells : k + rm.cells ≤ R0.cells ∧ n + rm.slots ≤ R0.slots)
    {st0 : List Value} (st : List Value) (hst : st0 = As.reverse ++ .ref b :: st) (hna : As.length = na) (hcat : (st.map fun v => v.category).sum ≤ 8) (d : decode cc pc = .ok (.invokevirtual idx, 3))
    (kk : ∀ (v : Option Value) (u : va_W), post (.inl v) u → xk_Go K D nL (k + rm.cells) (n + rm.slots) (wr ++ u) lv (pc + 3) (v.toList ++ st))
    (kt : ∀ (X : String) (u : va_W), post (.inr X) u → ∃ h, xk_Cat own pc X hh h ∧ ∀ a, xk_Go K D nL (k + rm.cells) (n + rm.slots) (wr ++ u) lv h [.ref a]) : xk_Go K D nL k n w lv pc st0 := by
  obtain ⟨p, l, e, R, s, m, args, below, meth, c, Q, A⟩ := K
  obtain ⟨hx, hb, hml, hown, hts, hK, hA, hR0⟩ := C
  obtain ⟨hh1, htr, hZ⟩ := Hx
  subst hR0
  subst hst
  intro H locs ls hP hD hS hl
  have hPc := hP.sub isC (xk_fm hC)
  have hDc := hD.sub isC hnC hC
  have hKc := hK.sub isT hT
  have hFc := va_free (wc := wc) hD hS hA isC hC
  have hrv : ∃ cell : Cell, H[b]? = some cell ∧ cell.vm.isStatics = false ∧ s.vm.findClass y.cls = some cell.cls := by
    cases hq : vwCl[ci]? with
    | none => rw [hq] at hcl; cases hcl
    | some q =>
      rw [hq] at hcl
      have : q.1 = y.cls := Option.some.inj hcl
      rw [← this]
      exact va_recv hKc hPc hq hrc
  obtain ⟨cellB, hcB, hoB, hclB⟩ := hrv
  obtain ⟨⟨-, -, hfr, hlo, hws, hcw, hcode, hini, hy, hlen, hlk⟩, hin, hse⟩ : CallW R s args own y.cls idx y cc' nL' rt' (.code y cc' nL' rt' :: xk_gt) rm rm.cells rm.slots na := ⟨xk_callB hk hts hroom, hts _ hk2.1, hts _ hk2.2⟩
  intro T hT X
  obtain ⟨mk, methM, hnamed, hmethM, hstM, habM⟩ := Cond.instanceMethod_spec hin
  obtain ⟨methM', cM, hmethM', -, -, -, -, -, -, hsigM⟩ := Cond.code_spec hnamed hcode
  cases hmethM.symm.trans hmethM'
  obtain ⟨c2, r2, m2, q1, q2, q3, q4, kP, hkP, hkPi⟩ := Cond.selects_spec hse
  cases hclB.symm.trans q1
  cases (State.methodFound?_of_named hnamed hy).symm.trans q2
  cases hnamed.symm.trans q3
  have hselP : selectMethod e.platform s.vm cellB.cls mk = .method mk := by rw [Launch.admits_selectMethod X.admits]; exact q4
  obtain ⟨vm₁, X₁, hstep₁⟩ := X.invokevirtual hx hown hlk hnamed hmethM hstM hkP hkPi hy (a := b) (cell := cellB) (by rw [hT]; exact hcB)
    (fun z h => by rw [h] at hoB; cases hoB) hselP hmethM habM hkP hkPi (g := F0 m pc ls (As.reverse ++ .ref b :: st)) rfl (argsL := As) (rest := st) (hna.trans (hlen _ hsigM)) rfl (by rw [hb]; exact d)
  have hHT : (T.setVm vm₁).heap = H := hT
  have hpre : xk_PreT D ty' (.ref b :: As) wc H.size (Value.ref b :: As).toArray (T.setVm vm₁) := by
    refine ⟨⟨rfl, by rw [hHT], by rw [hHT]; exact hPc, va_K.moved X₁.warmed.alike hKc, hDc.weaken (fun _ _ _ _ => trivial)⟩, ?_⟩
    rw [hHT]
    exact ((hZ.kept (fun q h1 h2 => hS.2.1 q h1 h2)).narrow hFc).moved X₁.warmed
  obtain ⟨o, T', L, X', hL, ⟨r, u, hp, hP1, hD1, ⟨hz, hk1⟩, hr⟩, hW', hst2⟩ := xk_ofFreeT (bytes := cc') (maxL := nL') (ret := rt') X₁ (hM l H.size htr) (g := F0 m pc ls st) rfl (hl.1.trans hml.symm) (by rw [hb]; exact d) (lv_room hcat) (X₁.named hnamed)
    (atoms_intro fun w hw => hws w hw _ _ X₁.warmed) (hws _ hcw _ _ X₁.warmed) (word_at X₁.warmed (Or.inl (by first | rfl | simp [Cond.onTables, Cond.keeps, Cond.steady])) hini) hcells.1 hcells.2 hfr hlo (xk_PreT_calling hpre)
  have hz' : H.size ≤ T'.heap.size := by rw [← hHT]; exact hz
  have hk' : ∀ q : Nat, q < H.size → ¬ va_A wc H.size q → T'.heap[q]? = H[q]? := fun q h1 h2 => by
    have := hk1 q (by show q < (T.setVm vm₁).heap.size; rw [hHT]; exact h1) h2
    rw [this]
    show (T.setVm vm₁).heap[q]? = H[q]?
    rw [hHT]
  obtain ⟨hP', hD'⟩ := va_join hP hD isC isR hC hR hnR hdis hk' hFc hP1 hD1
  have hS' : va_S A s.heap T'.heap (locs ++ L) := ⟨Nat.le_trans hS.1 hz', fun q h1 h2 => (hk' q (Nat.lt_of_lt_of_le h1 hS.1) (fun z => h2 (hFc q z))).trans (hS.2.1 q h1 h2), fun q hq => by
    rcases List.mem_append.mp hq with h | h
    · exact hS.2.2 q h
    · exact hFc _ (hL q h)⟩
  cases r with
  | inl v =>
    have ho : o = .returned v := hr
    subst ho
    obtain ⟨t2, a1, b1⟩ := kk v u hp T'.heap (locs ++ L) ls hP' hD' hS' hl T' rfl X'
    exact ⟨t2, hstep₁ _ (fun acts => by rw [doInvoke_state]; exact Steps.trans hst2 a1), b1⟩
  | inr Xn =>
    obtain ⟨a, cell, ho, hca, hfX, hcv⟩ := hr
    subst ho
    obtain ⟨h, hcat2, hgo⟩ := kt Xn u hp
    have hfX' : s.vm.findClass Xn = some cell.cls := by
      have q : (T.setVm vm₁).vm.findClass Xn = some cell.cls := hfX
      rw [X₁.warmed.alike.findClass] at q
      exact q
    have hpl : e.platform.magicAccessors = ({} : Platform).magicAccessors := by rw [X.admits.platform]
    obtain ⟨vm2, hW2, hfind⟩ := xk_find (e := e) (s := s) (args := args) (f := F0 m pc ls st) (a := a) (own := own) (X := Xn) (cell := cell) hts hpl hown hfX' hcv hZ.2.2.1 hZ.2.2.2.2 c.exceptionTable.toList h ((T'.setTop (F0 m pc ls st)).pushFrame (.throwing a)) (by rw [Stand.throwing_vm]; exact X'.warmed) (by rw [Stand.throwing_heap]; exact hca) (by rw [hh1]; exact hcat2)
    have X'' : Stand p l e R s m args below meth c (T'.setVm vm2) (locs ++ L) (k + rm.cells) (n + rm.slots) := X'.noted hW2
    obtain ⟨t2, a1, b1⟩ := hgo a T'.heap (locs ++ L) ls hP' hD' hS' hl (T'.setVm vm2) rfl X''
    refine ⟨t2, hstep₁ _ (fun acts => by
      rw [doInvoke_state]
      refine Steps.trans hst2 (xk_caught (pc := h) (vm' := vm2) X'.here (fun Q E d acts => ?_) a1)
      rw [W.findHandler_eq (meth := meth) (code := c) (by rw [Stand.throwing_vm]; exact X'.method') X'.code]
      exact hfind Q E d acts), b1⟩
end XU3
/-! WALKING ROWS 8: cells that are made; methods with handlers. -/
section XV1
variable {K : xk_T} {D : va_G} {cc : ByteArray} {nL k n : Nat} {own : String} {R0 : Room} {ty : List (ClassId × FieldType)} {w : va_W} {lv : List (Nat × Value)} {pc : Nat} {st : List Value}
theorem x_new (C : xk_Ok K D cc nL own R0 ty) {idx ci N : Nat} {Cn : String} {Tt : u_T} (hc : vwCl[ci]? = some (Cn, Tt, N)) (hin : ∀ w ∈ u_ws Cn Tt N, w ∈ xk_gt) (tyf : Nat → FieldType) (hty : ∀ j, j < N → parseFieldDescriptor (Tt j).2.2.1 = some (tyf j))
    (hcl : Cond.classLink own idx Cn ∈ xk_gt) (hinst : Cond.instantiable Cn N ∈ xk_gt) (hini : Cond.initialized Cn ∈ xk_gt) (fs : List Value) (hfs : ∀ j, j < N → defaultValue (tyf j) = vp_V fs j) (hcells : k + 1 ≤ R0.cells) (hslots : n + N ≤ R0.slots) (d : decode cc pc = .ok (.new idx, 3))
    (kk : ∀ q, xk_Go K D nL (k + 1) (n + N) (w ++ [(q, .inr (ci, fs))]) lv (pc + 3) (.ref q :: st)) : xk_Go K D nL k n w lv pc st := by
  obtain ⟨p, l, e, R, s, m, args, below, meth, c, Q, A⟩ := K
  obtain ⟨hx, hb, hml, hown, hts, hK, hA, hR0⟩ := C
  subst hR0
  intro H locs ls hP hD hS hl
  exact va_new hx hb hts hin tyf hty hown (hts _ hcl) (hts _ hinst) (hts _ hini) hK hP hD hS hA hc hfs hcells hslots d (fun q H1 hP1 hD1 hS1 => kk q H1 locs ls hP1 hD1 hS1 hl)
theorem x_newa (C : xk_Ok K D cc nL own R0 ty) (t0 : Nat) {cA : ClassId} {FT : FieldType} (ht : ty[t0]? = some (cA, FT)) (hRA : ∀ (U : State) (c1 c2 : ClassId), va_RA U c1 FT → va_RA U c2 FT → c1 = c2) {atype : ArrayType} (harr : Cond.arrayClass (newarray.typeOf atype) ∈ xk_gt) (hty : newarray.typeOf atype = FT)
    {N : Nat} (a0 : vp_A) (ha : ∀ c : ClassId, vp_cell c a0 = arrV c N (fun _ => defaultValue FT)) (hN : N < 2 ^ 31) (hbytes : N * componentBytes FT ≤ 536870912) (hcells : k + 1 ≤ R0.cells) (hslots : n + N ≤ R0.slots) (d : decode cc pc = .ok (.newarray atype, 2))
    (kk : ∀ q, xk_Go K D nL (k + 1) (n + N) (w ++ [(q, .inl (cA, a0))]) lv (pc + 2) (.ref q :: st)) : xk_Go K D nL k n w lv pc (.int (nI N) :: st) := by
  obtain ⟨p, l, e, R, s, m, args, below, meth, c, Q, A⟩ := K
  obtain ⟨hx, hb, hml, hown, hts, hK, hA, hR0⟩ := C
  subst hR0
  intro H locs ls hP hD hS hl
  refine va_newa hx hb (hts _ harr) hty hK hP hD hS hA ha (nI_pos hN) (nI_clamp hN) hbytes hcells hslots d (fun q c1 H1 hK1 hP1 hD1 hS1 => ?_)
  have e1 : c1 = cA := hRA s _ _ (hK1.2 ty.length (c1, FT) (by rw [List.getElem?_append_right (Nat.le_refl _), Nat.sub_self]; rfl)).2 (hK.2 t0 _ ht).2
  subst e1
  exact kk q H1 locs ls hP1 hD1 hS1 hl
theorem x_objInit (C : xk_Ok K D cc nL own R0 ty) {idx : Nat} (hlk : Cond.methodLink own idx Lib.objectInit ∈ xk_gt) (hin : Cond.instanceMethod Lib.objectInit ∈ xk_gt) (hco : Cond.code Lib.objectInit ⟨#[0xb1]⟩ 1 none ∈ xk_gt) (hfr : 1 ≤ R0.frames) (hlo : 20 ≤ R0.locals) {a : Nat} (hcat : (st.map fun v => v.category).sum ≤ 8) (d : decode cc pc = .ok (.invokespecial idx, 3))
    (kk : xk_Go K D nL k n w lv (pc + 3) st) : xk_Go K D nL k n w lv pc (.ref a :: st) := by
  obtain ⟨p, l, e, R, s, m, args, below, meth, c, Q, A⟩ := K
  obtain ⟨hx, hb, hml, hown, hts, hK, hA, hR0⟩ := C
  subst hR0
  intro H locs ls hP hD hS hl
  exact W.objInit hx hb hown (hts _ hlk) (hts _ hin) (hts _ hco) (g := F0 m pc ls (.ref a :: st)) rfl (hl.1.trans hml.symm) (rest := st) rfl d hfr (Nat.le_trans (Nat.add_le_add_right (lv_room (m := m) (pc := pc) (ls := ls) (rest := .ref a :: st) (st := st) hcat) 12) hlo) (kk H locs ls hP hD hS hl)
end XV1
-- contracts with a premise of their own
def xk_CtE (E : State → Prop) (y : MethodName) (cc : ByteArray) (nL : Nat) (rt : Option FieldType) (rm : Room) (D : va_G) (ty : List (ClassId × FieldType)) (as : List Value) (w : va_W) (post : Option Value → va_W → Prop) : Prop :=
  ∀ (l : Launch) (sz : Nat), Met l y (.code y cc nL rt :: xk_gt) rm (fun v U => xk_Pre D ty as w sz v U ∧ E U) (xk_Q post D (va_A w sz)) rm.cells rm.slots (va_A w sz)
def xk_E (E : State → Prop) (K : xk_T) : Prop := match K with
  | (_, _, _, _, s, _, _, _, _, _, _, _) => ∀ U : State, s.WarmedH U.vm → E U
theorem xk_enterE {E : State → Prop} {y : MethodName} {cc : ByteArray} {nL : Nat} {rt : Option FieldType} {rm : Room} {D : va_G} {ty : List (ClassId × FieldType)} {as : List Value} {w : va_W} {post : Option Value → va_W → Prop}
    (hE : ∀ u U : State, u.WarmedH U.vm → E u → E U) (hy : plainName y.cls = true) (hlv : (lg_sl as).length ≤ nL)
    (body : ∀ K : xk_T, xk_Ok K D cc nL y.cls rm ty → xk_Rt K D rt post rm.cells rm.slots → (y.name = "<init>" → xk_In K) → xk_E E K → xk_Go K D nL 0 0 w (lv_args 0 as) 0 []) : xk_CtE E y cc nL rt rm D ty as w post := by
  intro l sz
  refine Met.ofW (cc := cc) (maxL := nL) (ret := rt) hy rfl ?_
  intro p e s m args below meth c s₁ B hml hv
  obtain ⟨⟨rfl, hsz, hP, hK, hD0⟩, hEs⟩ := hv
  have hts := atoms_spec (ws := .code y cc nL rt :: xk_gt) B.pre
  have hown : s.vm.findClass y.cls = some m.cls := findClass_of_methodNamed B.named
  subst hsz
  have hD := hD0.self (sz := s.heap.size)
  have hA : ∀ q : Nat, s.heap.size ≤ q → va_A w s.heap.size q := fun q h => Or.inr h
  have hl := lv_entry as (n := nL) hlv
  rw [lg_entry_eq]
  exact body (p, l, e, rm, s, m, as.toArray, below, meth, c, MQ below (xk_Q post D (va_A w s.heap.size)) as.toArray s rm.cells rm.slots (va_A w s.heap.size), va_A w s.heap.size)
    ⟨B.exec, B.bytes, hml, hown, fun x hx => hts x (List.mem_cons_of_mem _ hx), hK, hA, rfl⟩ ⟨B.returns, B.notSynchronized, rfl⟩ (fun h => by
      show meth.name = "<init>"
      rw [(name_of_methodNamed B.named B.method).1]; exact h) (fun U hW => hE s U hW hEs)
    s.heap [] _ hP hD va_S.rf hl
section XV2
variable {K : xk_T} {D : va_G} {cc : ByteArray} {nL k n : Nat} {own : String} {R0 : Room} {ty : List (ClassId × FieldType)} {w : va_W} {lv : List (Nat × Value)} {pc : Nat} {st : List Value}
theorem x_callIE (C : xk_Ok K D cc nL own R0 ty) {E : State → Prop} (hE : xk_E E K) (hbl : ∀ (U : State) (g : JFrame) (mk : MethodId) (a : Array Value), E U → E (U.calling g mk a)) {y : MethodName} {cc' : ByteArray} {nL' : Nat} {rm : Room} {ty' : List (ClassId × FieldType)} {wc : va_W} {post : Option Value → va_W → Prop} {b : Nat} {As : List Value}
    (hM : xk_CtE E y cc' nL' none rm D ty' (.ref b :: As) wc post) {idx na : Nat} (hk : xk_CB own idx y cc' nL' none na) (hk2 : y.name = "<init>" ∧ Cond.instanceMethod y ∈ xk_gt)
    (isC isR isT : List Nat) (wr : va_W) (hC : isC.map (fun i => w[i]?) = wc.map some) (hR : isR.map (fun i => w[i]?) = wr.map some) (hnC : va_nd isC = true) (hnR : va_nd isR = true) (hdis : ∀ i ∈ isR, i ∉ isC) (hT : isT.filterMap (fun i => ty[i]?) = ty')
    (hroom : rm.frames + 1 ≤ R0.frames ∧ 8 + (nL' + 11) + rm.locals ≤ R0.locals) (hcells : k + rm.cells ≤ R0.cells ∧ n + rm.slots ≤ R0.slots)
    {st0 : List Value} (st : List Value) (hst : st0 = As.reverse ++ .ref b :: st) (hna : As.length = na) (hcat : (st.map fun v => v.category).sum ≤ 8) (d : decode cc pc = .ok (.invokespecial idx, 3))
    (kk : ∀ (v : Option Value) (u : va_W), post v u → xk_Go K D nL (k + rm.cells) (n + rm.slots) (wr ++ u) lv (pc + 3) (v.toList ++ st)) : xk_Go K D nL k n w lv pc st0 := by
  obtain ⟨p, l, e, R, s, m, args, below, meth, c, Q, A⟩ := K
  obtain ⟨hx, hb, hml, hown, hts, hK, hA, hR0⟩ := C
  subst hR0
  subst hst
  intro H locs ls hP hD hS hl
  have hPc := hP.sub isC (xk_fm hC)
  have hDc := hD.sub isC hnC hC
  have hKc := hK.sub isT hT
  have hFc := va_free (wc := wc) hD hS hA isC hC
  refine xk_call (va_runI (As := As) (rest := st) ⟨hx, hb, hml, hown, hts⟩ (hM l H.size) ⟨xk_callB hk hts hroom, hk2.1, hts _ hk2.2⟩ ⟨fun a U g mk q => ⟨xk_Pre_blind a U g mk q.1, hbl U g mk a q.2⟩, fun U hU hW => ⟨⟨rfl, by rw [hU], by rw [hU]; exact hPc, va_K.moved hW.alike hKc, hDc.weaken (fun _ _ _ _ => trivial)⟩, hE U hW⟩⟩ rfl hna hl.1 rfl (lv_room hcat) d hcells) hS (fun q _ h => hFc q h) hFc (fun v u H1 locs1 hp hP1 hD1 hz hk1 hS1 => ?_)
  obtain ⟨hP', hD'⟩ := va_join hP hD isC isR hC hR hnR hdis hk1 hFc hP1 hD1
  exact kk v u hp H1 locs1 ls hP' hD' hS1 hl
/-- a constructor of a class of the same nest -/
theorem x_callIN (C : xk_Ok K D cc nL own R0 ty) {y : MethodName} {cc' : ByteArray} {nL' : Nat} {rm : Room} {ty' : List (ClassId × FieldType)} {wc : va_W} {post : Option Value → va_W → Prop} {b : Nat} {As : List Value}
    (hM : xk_Ct y cc' nL' none rm D ty' (.ref b :: As) wc post) {idx na : Nat} {host : String} (hN : xk_E (va_Nw (.methodLinkNest own idx y host)) K)
    (hk : Cond.code y cc' nL' none ∈ xk_gt ∧ Cond.initialized y.cls ∈ xk_gt ∧ (y.cls ≠ "java/lang/invoke/MethodHandle" ∧ y.cls ≠ "java/lang/invoke/VarHandle" ∧ (parseMethodDescriptor y.desc).map (fun d => d.parameters.length) = some na)) (hk2 : y.name = "<init>" ∧ Cond.instanceMethod y ∈ xk_gt)
    (isC isR isT : List Nat) (wr : va_W) (hC : isC.map (fun i => w[i]?) = wc.map some) (hR : isR.map (fun i => w[i]?) = wr.map some) (hnC : va_nd isC = true) (hnR : va_nd isR = true) (hdis : ∀ i ∈ isR, i ∉ isC) (hT : isT.filterMap (fun i => ty[i]?) = ty')
    (hroom : rm.frames + 1 ≤ R0.frames ∧ 8 + (nL' + 11) + rm.locals ≤ R0.locals) (hcells : k + rm.cells ≤ R0.cells ∧ n + rm.slots ≤ R0.slots)
    {st0 : List Value} (st : List Value) (hst : st0 = As.reverse ++ .ref b :: st) (hna : As.length = na) (hcat : (st.map fun v => v.category).sum ≤ 8) (d : decode cc pc = .ok (.invokespecial idx, 3))
    (kk : ∀ (v : Option Value) (u : va_W), post v u → xk_Go K D nL (k + rm.cells) (n + rm.slots) (wr ++ u) lv (pc + 3) (v.toList ++ st)) : xk_Go K D nL k n w lv pc st0 := by
  obtain ⟨p, l, e, R, s, m, args, below, meth, c, Q, A⟩ := K
  obtain ⟨hx, hb, hml, hown, hts, hK, hA, hR0⟩ := C
  subst hR0
  subst hst
  intro H locs ls hP hD hS hl
  have hPc := hP.sub isC (xk_fm hC)
  have hDc := hD.sub isC hnC hC
  have hKc := hK.sub isT hT
  have hFc := va_free (wc := wc) hD hS hA isC hC
  have hcn : va_CN R s args own idx y host cc' nL' none (.code y cc' nL' none :: xk_gt) rm rm.cells rm.slots na := va_cnB na hts (fun w hw => by
    rcases List.mem_cons.mp hw with rfl | hw
    · exact xk_gt_in _ hk.1
    · exact xk_gt_in _ hw) rfl rfl rfl (hN s (State.WarmedH.refl s)) (hts _ hk.2.1) hk.2.2 hroom
  refine xk_call (va_runIN (As := As) (rest := st) ⟨hx, hb, hml, hown, hts⟩ (hM l H.size) ⟨hcn, hk2.1, hts _ hk2.2⟩ ⟨xk_Pre_blind, fun U hU hW => ⟨rfl, by rw [hU], by rw [hU]; exact hPc, va_K.moved hW.alike hKc, hDc.weaken (fun _ _ _ _ => trivial)⟩⟩ rfl hna hl.1 rfl (lv_room hcat) d hcells) hS (fun q _ h => hFc q h) hFc (fun v u H1 locs1 hp hP1 hD1 hz hk1 hS1 => ?_)
  obtain ⟨hP', hD'⟩ := va_join hP hD isC isR hC hR hnR hdis hk1 hFc hP1 hD1
  exact kk v u hp H1 locs1 ls hP' hD' hS1 hl
end XV2
-- methods with handlers
def xk_CtW (hh : List (Nat × Nat × Nat × Nat)) (y : MethodName) (cc : ByteArray) (nL : Nat) (rt : Option FieldType) (rm : Room) (D : va_G) (ty : List (ClassId × FieldType)) (as : List Value) (w : va_W) (post : Option Value → va_W → Prop) : Prop :=
  ∀ (l : Launch) (sz : Nat), l.stackTraces = false → Met l y (.codeWith y cc nL rt hh :: xk_gt) rm (xk_PreT D ty as w sz) (xk_Q post D (va_A w sz)) rm.cells rm.slots (va_A w sz)
theorem xk_enterW {hh : List (Nat × Nat × Nat × Nat)} {y : MethodName} {cc : ByteArray} {nL : Nat} {rt : Option FieldType} {rm : Room} {D : va_G} {ty : List (ClassId × FieldType)} {as : List Value} {w : va_W} {post : Option Value → va_W → Prop}
    (hy : plainName y.cls = true) (hlv : (lg_sl as).length ≤ nL)
    (body : ∀ K : xk_T, xk_Ok K D cc nL y.cls rm ty → xk_Rt K D rt post rm.cells rm.slots → xk_Hx K hh → xk_Go K D nL 0 0 w (lv_args 0 as) 0 []) : xk_CtW hh y cc nL rt rm D ty as w post := by
  intro l sz htr
  refine va_MetW (cc := cc) (maxL := nL) (ret := rt) (hh := hh) hy rfl ?_
  intro p e s m args below meth c s₁ B hml hv
  obtain ⟨⟨rfl, hsz, hP, hK, hD0⟩, hZ⟩ := hv
  have hts := atoms_spec (ws := .codeWith y cc nL rt hh :: xk_gt) B.pre
  have hown : s.vm.findClass y.cls = some m.cls := findClass_of_methodNamed B.named
  subst hsz
  have hD := hD0.self (sz := s.heap.size)
  have hA : ∀ q : Nat, s.heap.size ≤ q → va_A w s.heap.size q := fun q h => Or.inr h
  have hl := lv_entry as (n := nL) hlv
  have htb : c.exceptionTable.toList.map (fun x => (x.startPc, x.endPc, x.handlerPc, x.catchType)) = hh := by
    obtain ⟨m9, meth9, c9, hn9, h1, h2, -, -, h5, -⟩ := Cond.codeWith_spec (hts _ List.mem_cons_self)
    cases B.named.symm.trans hn9
    cases B.method.symm.trans h1
    cases (Stand.of_body B).code.symm.trans h2
    exact h5
  rw [lg_entry_eq]
  exact body (p, l, e, rm, s, m, as.toArray, below, meth, c, MQ below (xk_Q post D (va_A w s.heap.size)) as.toArray s rm.cells rm.slots (va_A w s.heap.size), va_A w s.heap.size)
    ⟨B.exec, B.bytes, hml, hown, fun x hx => hts x (List.mem_cons_of_mem _ hx), hK, hA, rfl⟩ ⟨B.returns, B.notSynchronized, rfl⟩ ⟨htb, htr, hZ⟩
    s.heap [] _ hP hD va_S.rf hl
/-- no stack traces; the exceptions' static fields -/
def xk_Tx (K : xk_T) : Prop := match K with
  | (_, l, _, _, s, _, _, _, _, _, _, A) => l.stackTraces = false ∧ xk_Z A s s.heap
section XV3
variable {K : xk_T} {D : va_G} {cc : ByteArray} {nL k n : Nat} {own : String} {R0 : Room} {ty : List (ClassId × FieldType)} {w : va_W} {lv : List (Nat × Value)} {pc : Nat} {st : List Value}
theorem x_callSW (C : xk_Ok K D cc nL own R0 ty) (Tx : xk_Tx K) {hh : List (Nat × Nat × Nat × Nat)} {y : MethodName} {cc' : ByteArray} {nL' : Nat} {rt' : Option FieldType} {rm : Room} {ty' : List (ClassId × FieldType)} {wc : va_W} {post : Option Value → va_W → Prop} {As : List Value}
    (hM : xk_CtW hh y cc' nL' rt' rm D ty' As wc post) {idx na : Nat} (hk : Cond.codeWith y cc' nL' rt' hh ∈ xk_gt ∧ Cond.initialized y.cls ∈ xk_gt ∧ Cond.methodLink own idx y ∈ xk_gt ∧ (y.cls ≠ "java/lang/invoke/MethodHandle" ∧ y.cls ≠ "java/lang/invoke/VarHandle" ∧ (parseMethodDescriptor y.desc).map (fun d => d.parameters.length) = some na)) (hk2 : Cond.static y ∈ xk_gt)
    (isC isR isT : List Nat) (wr : va_W) (hC : isC.map (fun i => w[i]?) = wc.map some) (hR : isR.map (fun i => w[i]?) = wr.map some) (hnC : va_nd isC = true) (hnR : va_nd isR = true) (hdis : ∀ i ∈ isR, i ∉ isC) (hT : isT.filterMap (fun i => ty[i]?) = ty')
    (hroom : rm.frames + 1 ≤ R0.frames ∧ 8 + (nL' + 11) + rm.locals ≤ R0.locals) (hcells : k + rm.cells ≤ R0.cells ∧ n + rm.slots ≤ R0.slots)
    {st0 : List Value} (st : List Value) (hst : st0 = As.reverse ++ st) (hna : As.length = na) (hcat : (st.map fun v => v.category).sum ≤ 8) (d : decode cc pc = .ok (.invokestatic idx, 3))
    (kk : ∀ (v : Option Value) (u : va_W), post v u → xk_Go K D nL (k + rm.cells) (n + rm.slots) (wr ++ u) lv (pc + 3) (v.toList ++ st)) : xk_Go K D nL k n w lv pc st0 := by
  obtain ⟨p, l, e, R, s, m, args, below, meth, c, Q, A⟩ := K
  obtain ⟨hx, hb, hml, hown, hts, hK, hA, hR0⟩ := C
  obtain ⟨htr, hZ⟩ := Tx
  subst hR0
  subst hst
  intro H locs ls hP hD hS hl
  have hPc := hP.sub isC (xk_fm hC)
  have hDc := hD.sub isC hnC hC
  have hKc := hK.sub isT hT
  have hFc := va_free (wc := wc) hD hS hA isC hC
  have hgood : ∀ x ∈ (.codeWith y cc' nL' rt' hh :: xk_gt), ∀ (a' : Array Value) (U : State), s.WarmedH U.vm → x.before a' U = true := pay_in hts (fun x hx => by
    rcases List.mem_cons.mp hx with rfl | hx
    · exact xk_gt_in _ hk.1
    · exact xk_gt_in _ hx)
  intro T hT X
  obtain ⟨mk, methM, cM, hnamed, hmethM, -, -, -, -, -, -, hsigM⟩ := Cond.codeWith_spec (hts _ hk.1)
  have hstatic : methM.isStatic = true := Cond.static_spec hnamed hmethM (hts _ hk2)
  obtain ⟨kP, hkP, -⟩ := className_of_methodNamed hnamed
  have hinitP : kP.init = .initialized := Cond.initialized_spec (findClass_of_methodNamed hnamed) hkP (hts _ hk.2.1)
  have hlen : As.length = methM.sig.parameters.length := by
    have h2 := hk.2.2.2.2.2
    rw [hsigM] at h2
    exact hna.trans (Option.some.inj h2).symm
  obtain ⟨vm₁, X₁, hstep₁⟩ := X.invokestatic hx hown (hts _ hk.2.2.1) hnamed hmethM hstatic hkP hinitP ⟨hk.2.2.2.1, hk.2.2.2.2.1⟩ (g := F0 m pc ls (As.reverse ++ st)) rfl (argsL := As) (rest := st) hlen rfl (by rw [hb]; exact d)
  have hHT : (T.setVm vm₁).heap = H := hT
  have hpre : xk_PreT D ty' As wc H.size As.toArray (T.setVm vm₁) := by
    refine ⟨⟨rfl, by rw [hHT], by rw [hHT]; exact hPc, va_K.moved X₁.warmed.alike hKc, hDc.weaken (fun _ _ _ _ => trivial)⟩, ?_⟩
    rw [hHT]
    exact ((hZ.kept (fun q h1 h2 => hS.2.1 q h1 h2)).narrow hFc).moved X₁.warmed
  have hB : Back l R p e below s args y 3 8 (PreOf R rm.cells rm.slots (xk_PreT D ty' As wc H.size)) (PostOf (xk_Q post D (va_A wc H.size)) rm.cells rm.slots (va_A wc H.size)) :=
    va_backW (hh := hh) (bytes := cc') (maxL := nL') (ret := rt') (hM l H.size htr) (fun a U g mk q => ⟨xk_Pre_blind a U g mk q.1, q.2.moved (U := U.calling g mk a) (State.WarmedH.refl U)⟩) rfl rfl hroom.1 hroom.2 hgood List.mem_cons_self (fun a' U hW => word_at hW (Or.inl (by first | rfl | simp [Cond.onTables, Cond.keeps, Cond.steady])) (hts _ hk.2.1))
  obtain ⟨v, ⟨U', l2, c2, s2⟩, X', ⟨g', mk', t, L, e1, e2, ⟨⟨v', u, hv, hp, hP1, hD1⟩, hz, hk1⟩, h1, hL, h2, h3⟩, hsteps⟩ := hB m meth c ⟨T.setVm vm₁, locs, k, n⟩ (F0 m pc ls st) (.invokestatic idx) mk As.toArray X₁ rfl (hl.1.trans hml.symm) (by rw [hb]; exact d) (lv_room hcat) (X₁.named hnamed) ⟨hcells.1, hcells.2, hpre⟩
  dsimp only [Pt.U, Pt.locs, Pt.cells, Pt.slots] at X' e1 e2 h1 h2 h3 hsteps
  subst h1; subst h2; subst h3
  cases hv
  have hz' : H.size ≤ U'.heap.size := by
    rw [e1, ← hHT]
    exact hz
  have hk' : ∀ q : Nat, q < H.size → ¬ va_A wc H.size q → U'.heap[q]? = H[q]? := fun q q1 q2 => by
    have := hk1 q (by show q < (T.setVm vm₁).heap.size; rw [hHT]; exact q1) q2
    rw [e1, this]
    show (T.setVm vm₁).heap[q]? = H[q]?
    rw [hHT]
  obtain ⟨hP', hD'⟩ := va_join hP hD isC isR hC hR hnR hdis hk' hFc (by rw [e1]; exact hP1) hD1
  have hS' : va_S A s.heap U'.heap (locs ++ L) := ⟨Nat.le_trans hS.1 hz', fun q q1 q2 => (hk' q (Nat.lt_of_lt_of_le q1 hS.1) (fun z => q2 (hFc q z))).trans (hS.2.1 q q1 q2), fun q hq => by
    rcases List.mem_append.mp hq with h | h
    · exact hS.2.2 q h
    · exact hFc _ (hL q h)⟩
  obtain ⟨t2, a1, b1⟩ := kk v u hp U'.heap (locs ++ L) ls hP' hD' hS' hl U' rfl X'
  exact ⟨t2, hstep₁ _ (fun acts => by rw [doInvoke_state]; exact Steps.trans hsteps a1), b1⟩
end XV3
/-- the script: an array that is only read -/
def xk_Sc (K : xk_T) (b L : Nat) (xs : Nat → Int32) : Prop := match K with
  | (_, _, _, _, s, _, _, _, _, _, _, A) => va_X b L xs s s.heap ∧ b < s.heap.size ∧ ¬ A b
section XV4
variable {K : xk_T} {D : va_G} {cc : ByteArray} {nL k n : Nat} {own : String} {R0 : Room} {ty : List (ClassId × FieldType)} {w : va_W} {lv : List (Nat × Value)} {pc : Nat} {st : List Value} {b L : Nat} {xs : Nat → Int32}
theorem x_sld (C : xk_Ok K D cc nL own R0 ty) (Sc : xk_Sc K b L xs) {i : Nat} (hi : i < L) (hL : L < 2 ^ 31) (d : decode cc pc = .ok (.iaload, 1))
    (kk : xk_Go K D nL k n w lv (pc + 1) (.int (xs i) :: st)) : xk_Go K D nL k n w lv pc (.int (nI i) :: .ref b :: st) := by
  obtain ⟨p, l, e, R, s, m, args, below, meth, c, Q, A⟩ := K
  obtain ⟨hx, hb, hml, hown, hts, hK, -⟩ := C
  obtain ⟨h1, h2, h3⟩ := Sc
  intro H locs ls hP hD hS hl
  refine va_sld hx hb h1 h2 h3 hS (vp_in_nI hi hL) d ?_
  rw [nI_clamp (by omega)]
  exact kk H locs ls hP hD hS hl
theorem x_slen (C : xk_Ok K D cc nL own R0 ty) (Sc : xk_Sc K b L xs) (d : decode cc pc = .ok (.arraylength, 1))
    (kk : xk_Go K D nL k n w lv (pc + 1) (.int (nI L) :: st)) : xk_Go K D nL k n w lv pc (.ref b :: st) := by
  obtain ⟨p, l, e, R, s, m, args, below, meth, c, Q, A⟩ := K
  obtain ⟨hx, hb, hml, hown, hts, hK, -⟩ := C
  obtain ⟨h1, h2, h3⟩ := Sc
  intro H locs ls hP hD hS hl
  exact va_slen hx hb h1 h2 h3 hS d (kk H locs ls hP hD hS hl)
end XV4
