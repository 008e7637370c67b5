/-! THE START: what the Statement gives, as the walk wants it. -/
theorem xk_tb {b : Nat} {s : State} (hts : ∀ w ∈ lw_tbl, w.before #[Value.ref b] s = true) {w : Cond} (i : Nat) (h : lw_tbl[i]? = some w) : w.before #[Value.ref b] s = true := hts w (List.mem_of_getElem? h)
theorem xk_ar {args : Array Value} {s : State} {t : FieldType} (h : (Cond.arrayClass t).before args s = true) : ∃ cA : ClassId, ArrOfT s cA t ∧ s.vm.findClass ("[" ++ t.toString) = some cA := by
  obtain ⟨cA, kA, comp, h1, h2, h3⟩ := Cond.arrayClass_spec h
  exact ⟨cA, fun n z => ⟨fun k h => (by cases h), kA, h2, comp, h3⟩, h1⟩
theorem xk_Sf_of {args : Array Value} {s : State} {C n d : String} (hl : (Cond.laysStatic C n d).before args s = true) (hr : (Cond.isRef (.static C n d)).before args s = true) : xk_Sf C n d (va_A [] s.heap.size) s s.heap := by
  obtain ⟨c, k, i, f, a, cell, hc, hi, hst, ha, hcell, hs, hcls, hlt, hty⟩ := Cond.laysStatic_spec hl
  obtain ⟨u, hu⟩ := Cond.staticRefV hi hst ha hcell hs hr
  refine ⟨c, k, i, f, a, cell, ⟨hc, hi, hst, ha⟩, ⟨hcell, hs, hcls, hlt⟩, hty, ⟨u, hu⟩, ?_⟩
  rintro (⟨j, e, hj⟩ | hj)
  · cases j <;> cases hj
  · have := (Array.getElem?_eq_some_iff.mp hcell).1
    omega
theorem xk_No_of {args : Array Value} {s : State} (h : (Cond.not (Cond.castable "java/lang/IllegalStateException" "java/lang/IllegalArgumentException")).before args s = true) : xk_No s := by
  intro cX cY h1 h2
  simp only [Cond.before, Cond.holds, Cond.value, h1, h2] at h
  cases hq : s.vm.assignable cX cY with
  | false => rfl
  | true => simp [hq] at h
theorem xk_vk {args : Array Value} {s : State} {k : Nat} {tx : String} {cur : ClassId} (hc : s.vm.findClass "TermCodec" = some cur) (h : (Cond.stringRef "TermCodec" k tx).before args s = true) : ∃ a, vk_R "TermCodec" k tx a s := by
  obtain ⟨-, -, -, a, -, -, -, -, -, hev⟩ := Cond.stringRef_spec hc h
  exact ⟨a, vk_R.of h hev⟩
/-! THE CLAIM OUT OF ONE WALK OF THE LAW'S BODY. Your part is whole_start (and what it stands on); all else here is the same for every law, but numbers. -/
def R_law : String := "TermCodecLaw"
def lw_P (b : Addr) (xs : List Int32) (args : Array Value) (s : State) : Prop := args = #[.ref b] ∧ s.IntsAt b xs ∧ xs.length ≤ 2048 ∧ (Jvm.Cond.and given_1 narrow_1).before args s = true
def lw_Q (_ : Array Value) (s : State) (o : Outcome) (t : State) : Prop := o = .returned (some (.int 1)) ∧ Framed s o t [] 1069 44593
def lw_Z (below : List Frame) (a : Array Value) (s : State) : State → Prop := fun t => ∃ o, t.status = .running ∧ Ended t below o ∧ lw_Q a s o t
/-- the law's own end, with 1 on the stack, nothing written that was there before, its room as the claim has it -/
theorem lw_ret {p : Program} {l : Launch} {e : Env} {s : State} {m : MethodId} {below : List Frame} {meth : Method} {c : Code} {b : Nat} (hx : p.tables.exec = Jvm.exec) (hb : c.code = code) (hr : meth.sig.returnType = ret) (hlocks : meth.locks = false) {pc : Nat} {H : Heap} {ls : Array Slot} (hdg : decode code pc = .ok (.ireturn, 1)) : W p l e room_1 s m #[Value.ref b] below meth c H [] 1069 44593 (lw_Z below #[Value.ref b] s) (F0 m pc ls [.int 1]) := by
  intro T hT X
  obtain ⟨fs, hret, hrun, hended, hW, hframe⟩ := X.leave (v := some (.int 1)) (hlocks := hlocks) (fun h => by rw [hr] at h; cases h)
  have hmeth' : T.vm.method? m = some meth := X.method'
  refine ⟨T.setFrames fs, ?_, .returned (some (.int 1)), hrun, hended, rfl, ⟨_, rfl⟩, hW, hframe⟩
  jvm_step X.here [X.here.top, hx, hb, hdg, hmeth', hr, ret, narrow_b1]
  (try refine ⟨rfl, ?_⟩); (try refine ⟨rfl, ?_⟩)
  first | (intro acts; rw [hret _ acts rfl rfl rfl]) | rw [hret _ _ rfl rfl rfl]
  exact Steps.refl _
/-- what holds at the law's entry: the machine, the code, the tables' words (any of lw_tbl by 'hts w (by decide +kernel)'), the script of L ints xs at the cell b, what the Statement gives of the start (any of its parts by flat_of_before) -/
def lw_At (p : Program) (s : State) (m : MethodId) (meth : Method) (c : Code) (b L : Nat) (xs : Nat → Int32) : Prop :=
  p.tables.exec = Jvm.exec ∧ c.code = code ∧ meth.sig.returnType = ret ∧ c.maxLocals = 8 ∧ s.vm.findClass R_law = some m.cls ∧ (∀ w ∈ lw_tbl, w.before #[Value.ref b] s = true) ∧ va_X b L xs s s.heap ∧ b < s.heap.size ∧ meth.locks = false ∧ (Jvm.Cond.and given_1 narrow_1).before #[Value.ref b] s = true
-- ===== YOUR PART BEGINS =====
set_option maxHeartbeats 4000000 in
theorem whole_start {p : Program} {e : Env} {s : State} {m : MethodId} {below : List Frame} {meth : Method} {c : Code} (l : Launch) (htr : l.stackTraces = false) {b L : Nat} {xs : Nat → Int32} (hL : L ≤ 2048) (C0 : lw_At p s m meth c b L xs) : W p l e room_1 s m #[Value.ref b] below meth c s.heap [] 0 0 (lw_Z below #[Value.ref b] s) (entryFrame m ([Value.ref b] : List Value).toArray 8) := by
  obtain ⟨hx, hb, hr, hml, hown, hts, hX, hbl, hlocks, hgv⟩ := C0
  have hgt : ∀ w ∈ xk_gt, w.before #[Value.ref b] s = true := fun w hw => hts w (xk_gt_tbl w hw)
  have hfl := flat_of_before _ hgv
  obtain ⟨c0, i0, k0⟩ := u_known (n := 2) hgt i_B (hgt _ (xk_mem 108 (by decide +kernel) (by decide)))
  obtain ⟨c1, i1, k1⟩ := u_known (n := 10) hgt i_S (hgt _ (xk_mem 60 (by decide +kernel) (by decide)))
  obtain ⟨c2, i2, k2⟩ := u_known (n := 9) hgt i_R (hgt _ (xk_mem 124 (by decide +kernel) (by decide)))
  obtain ⟨c3, i3, k3⟩ := u_known (n := 4) hgt i_X (hgt _ (xk_mem 52 (by decide +kernel) (by decide)))
  obtain ⟨c4, i4, k4⟩ := u_known (n := 31) hgt i_M (hgt _ (xk_mem 552 (by decide +kernel) (by decide)))
  obtain ⟨cI, aI, fI⟩ := xk_ar (hgt _ (kaM_int))
  obtain ⟨cJ, aJ, fJ⟩ := xk_ar (hgt _ (kaM_long))
  obtain ⟨cB, aB, fB⟩ := xk_ar (hgt _ (kaM_byte))
  obtain ⟨cZ, aZ, fZ⟩ := xk_ar (hgt _ (kaM_boolean))
  have hK : va_K (fun c => match c with | 0 => c0 | 1 => c1 | 2 => c2 | 3 => c3 | _ => c4, fun c => match c with | 0 => i0 | 1 => i1 | 2 => i2 | 3 => i3 | _ => i4) vwCl (xk_t4 cI cJ cB cZ) s := by
    refine ⟨fun c q hq => ?_, fun k q hq => ?_⟩
    · match c, hq with
      | 0, hq => cases hq; exact k0
      | 1, hq => cases hq; exact k1
      | 2, hq => cases hq; exact k2
      | 3, hq => cases hq; exact k3
      | 4, hq => cases hq; exact k4
    · match k, hq with
      | 0, hq => cases hq; exact ⟨aI, fI⟩
      | 1, hq => cases hq; exact ⟨aJ, fJ⟩
      | 2, hq => cases hq; exact ⟨aB, fB⟩
      | 3, hq => cases hq; exact ⟨aZ, fZ⟩
  have hA : ∀ q : Nat, s.heap.size ≤ q → va_A [] s.heap.size q := fun q h => Or.inr h
  have hZ : xk_Z (va_A [] s.heap.size) s s.heap := by
    have hcX := k3.2.1
    refine ⟨xk_Sf_of (xk_tb hts 455 (by decide +kernel)) (hfl _ (by decide +kernel)), xk_Sf_of (xk_tb hts 457 (by decide +kernel)) (hfl _ (by decide +kernel)), xk_No_of (hfl _ (by decide +kernel)), fun q hq => ?_, fun w hw => ?_⟩
    · simp only [xk_strs, List.mem_cons, List.not_mem_nil, or_false] at hq
      rcases hq with rfl | rfl | rfl | rfl | rfl | rfl
      · exact xk_vk hcX (xk_tb hts 468 (by decide +kernel))
      · exact xk_vk hcX (xk_tb hts 508 (by decide +kernel))
      · exact xk_vk hcX (xk_tb hts 522 (by decide +kernel))
      · exact xk_vk hcX (xk_tb hts 523 (by decide +kernel))
      · exact xk_vk hcX (xk_tb hts 534 (by decide +kernel))
      · exact xk_vk hcX (xk_tb hts 542 (by decide +kernel))
    · have ht := xk_tw_tabs w hw
      simp only [xk_tw, List.mem_cons, List.not_mem_nil, or_false] at hw
      rcases hw with rfl | rfl | rfl | rfl | rfl
      · exact va_Nw.of ht (xk_tb hts 432 (by decide +kernel))
      · exact va_Nw.of ht (xk_tb hts 434 (by decide +kernel))
      · exact va_Nw.of ht (xk_tb hts 436 (by decide +kernel))
      · exact va_Nw.of ht (xk_tb hts 430 (by decide +kernel))
      · exact va_Nw.of ht (xk_tb hts 501 (by decide +kernel))
  have hE : ∀ U : State, s.WarmedH U.vm → xk_NE U := fun U hW => xk_NE_warm s U hW ⟨va_Nw.of rfl (xk_tb hts 61 (by decide +kernel)), va_Nw.of rfl (xk_tb hts 109 (by decide +kernel))⟩
  have hnb : ¬ va_A [] s.heap.size b := by
    rintro (⟨j, e, hj⟩ | hj)
    · cases j <;> cases hj
    · omega
  have hl := lv_entry [Value.ref b] (n := 8) (Nat.le_of_ble_eq_true rfl)
  rw [lg_entry_eq]
  intro T hT X
  obtain ⟨t, st, o, a1, a2, ⟨⟨v, u, hv, hpost, -, -⟩, -⟩, L', ⟨-, hW, hsm⟩, hL'⟩ := l_start (p, l, e, room_1, s, m, #[Value.ref b], below, meth, c, MQ below (xk_Q (fun rv _ => rv = some (.int (nI 1))) _ (va_A [] s.heap.size)) #[Value.ref b] s 1069 44593 (va_A [] s.heap.size), va_A [] s.heap.size) _ b L xs cI cJ cB cZ
    ⟨hx, hb, hml, hown, hgt, hK, hA, rfl⟩ ⟨hr, hlocks, rfl⟩ ⟨htr, hZ⟩ ⟨hX, hbl, hnb⟩ hE hL s.heap [] _ (fun k q hk => by cases hk) ⟨(fun i j p q hi => by cases hi), fun k q hk => by cases hk⟩ va_S.rf hl T hT X
  have hv1 : v = some (.int (nI 1)) := hpost
  refine ⟨t, st, o, a1, a2, by rw [hv, hv1]; rfl, ⟨v, hv⟩, hW, hsm.weaken (fun y hy hlt => ?_) (Nat.le_refl _) (Nat.le_refl _)⟩
  rcases hL' y hy with ⟨j, e, hj⟩ | hj
  · cases j <;> cases hj
  · exact absurd hlt (Nat.not_lt.mpr hj)
-- ===== YOUR PART ENDS =====
set_option maxHeartbeats 4000000 in
theorem lw_walk (l : Launch) (htr : l.stackTraces = false) (b : Addr) (xs : List Int32) : MetFree l x (headSpec (Jvm.Cond.code x code maxLocals ret :: tables_1) room_1) (lw_P b xs) (fun _ _ _ _ _ => True) lw_Q := by
  refine MetFree.of_bodyS (code := code) (maxLocals := maxLocals) (ret := ret) (by decide) ?_ ?_
  · intro args s m h hn
    obtain ⟨meth, c, h1, h2, h3, h4, h5, h6, -, -⟩ := Cond.code_spec hn (atoms_spec (ws := Jvm.Cond.code x code maxLocals ret :: tables_1) h _ List.mem_cons_self)
    exact ⟨meth, c, h1, h2, h3, h4, h5, h6⟩
  · intro p e s m args below meth c s₁ B hml0 hP _
    obtain ⟨rfl, hx, hbd, hgv⟩ := hP
    obtain ⟨scr, harrAt, hlist, hof, hsmall⟩ := hx
    obtain ⟨hcb, hkn, -, -⟩ := State.arrayAt?_spec harrAt
    have hown : s.vm.findClass R_law = some m.cls := findClass_of_methodNamed B.named
    have hts0 : ∀ c ∈ (Jvm.Cond.code x code maxLocals ret :: tables_1), c.before #[Value.ref b] s = true := atoms_spec (ws := Jvm.Cond.code x code maxLocals ret :: tables_1) B.pre
    have hts : ∀ w ∈ lw_tbl, w.before #[Value.ref b] s = true := k2_hts_sels lw_privs (fun w hw => hts0 w (List.mem_cons_of_mem _ hw)) lw_privs_ok
    have hml : c.maxLocals = 8 := B.maxLocals_eq (hts0 _ List.mem_cons_self)
    have X₀ : Stand p l e room_1 s m #[Value.ref b] below meth c s₁ [] 0 0 := Stand.of_body B
    have hh0 : s₁.heap = s.heap := by rw [B.state]; rfl
    have hsz : scr.slots.size = xs.length := by rw [← Array.length_toList, hlist, List.length_map]
    have hval : ∀ j : Nat, j < xs.length → scr.slots[j]? = some (.int (xs.getD j 0)) := fun j hj => by
      rw [← Array.getElem?_toList, hlist]
      simp [hj]
    have hbl : b < s.heap.size := (Array.getElem?_eq_some_iff.mp hcb).1
    have hX : va_X b xs.length (fun j => xs.getD j 0) s s.heap := ⟨scr, hcb, hof, hkn, hsz, hval⟩
    have K : W p l e room_1 s m #[Value.ref b] below meth c s₁.heap [] 0 0 (lw_Z below #[Value.ref b] s) (entryFrame m ([Value.ref b] : List Value).toArray 8) := by
      rw [hh0]
      exact whole_start l htr hbd ⟨B.exec, B.bytes, B.returns, hml, hown, hts, hX, hbl, B.notSynchronized, hgv⟩
    obtain ⟨t, a1, o, b1, b2, b3⟩ := K s₁ rfl X₀
    exact ⟨t, o, a1, b1, b2, b3⟩
theorem lw_pre_spec {args : Array Value} {s : State} (h : (Jvm.Cond.and given_1 narrow_1).before args s = true) (hr : rest_1_c.before args s = true) : ∃ (b : Addr) (xs : List Int32), lw_P b xs args s := by
  have hs := flat_of_before _ h
  have hq := flat_of_before _ hr
  have hc : (Cond.count 1).before args s = true := hs _ (by decide +kernel)
  have harr : (Cond.arrayOf (.arg 0) .int).before args s = true := hs _ (by decide +kernel)
  have hle : (Cond.le (.length (.arg 0)) (.int 2048)).before args s = true := hs _ (by decide +kernel)
  have hlen : (Cond.isInt (.length (.arg 0))).before args s = true := hq _ (by decide +kernel)
  have hall : (Cond.all (.arg 0) (.isInt (.elem (.arg 0) (.index 0)))).before args s = true := hq _ (by decide +kernel)
  obtain ⟨b, xs, hb, hx⟩ := State.ints_of_pre rfl harr hlen hall
  have hsm : xs.length < 2 ^ 31 := hx.choose_spec.2.2.2
  have hev : (Term.length (.arg 0)).eval args s none [] s = some (.int xs.length.toInt32) := hx.length_eval hb
  have hv := Cond.le_ints hev (show (Term.int 2048).eval args s none [] s = some (.int 2048) from rfl)
  have hd : xs.length.toInt32 ≤ 2048 := by
    simpa [Cond.before, Cond.holds, hv] using hle
  have hN : xs.length ≤ 2048 := (Int32.ofNat_le_ofNat hsm (by decide)).mp (show Int32.ofNat xs.length ≤ Int32.ofNat 2048 from hd)
  exact ⟨b, xs, Cond.one_arg hc (show args[0]? = some (.ref b) from hb), hx, hN, h⟩
theorem lw_comes (l : Launch) (htr : l.stackTraces = false) : Comes l x (Jvm.Cond.code x code maxLocals ret :: tables_1) room_1 (fun tb e args s => Calls_1 tb e args s ∧ rest_1 tb e args s ∧ Pre_1 tb e args s)
    (fun _ _ args s o t => lw_Q args s o t) := by
  intro p e ha hc hk s m args below hf hfit hheap happ hpre
  obtain ⟨b, xs, hP⟩ := lw_pre_spec hpre.2.2 hpre.2.1
  obtain ⟨k, o, h1, h2, h3, hQ⟩ := lw_walk l htr b xs p e ha hc hk s m args below hf ((Spec.applies_iff_loose hf).mp happ).1 hP trivial
  exact ⟨k, o, h1, h2, h3, hQ⟩
theorem lw_frame {s t : State} {o : Outcome} {args : Array Value} (h : Framed s o t [] 1069 44593) :
    Framed s o t (fieldLocs frame_1_writes args s ++ arrayLocs frame_1_arrays args s ++ staticLocs frame_1_statics s) 1069 44593 := h
theorem lw_limb (L : Cond) (hL : ∀ (args : Array Value) (s t : State), L.after args s (.returned (some (.int 1))) t = true) :
    ArmFor flags0 classFile x code maxLocals ret World_1 tables_1 room_1 Calls_1 rest_1 Pre_1
      (fun tb e a s o t => postC L tb e a s o t ∧ Framed s o t (fieldLocs frame_1_writes a s ++ arrayLocs frame_1_arrays a s ++ staticLocs frame_1_statics s) 1069 44593) := by
  intro l hfl _ _ p e ha hc hk s m args below hf hfit hheap happ hpre
  obtain ⟨k, o, h1, h2, h3, rfl, hF⟩ := lw_comes l (by unfold Launch.stackTraces; rw [hfl]; decide) p e ha hc hk s m args below hf hfit hheap happ hpre
  exact ⟨k, _, h1, h2, h3, hL args s _, lw_frame hF⟩
theorem i_vc : Claimed_1_1 ∧ Claimed_1_2 := ⟨lw_limb limb_1_1 (fun args s t => by simp [limb_1_1, Cond.after, Cond.holds, Cond.value]), lw_limb limb_1_2 (fun args s t => Cond.after_iff.mpr (by
  first | (rw [show limb_1_2 = Cond.eq .result (.int 1) from rfl, Cond.eq_ints (x := 1) (y := 1) rfl rfl]; simp; done) | (simp [limb_1_2, Cond.value, Term.eval]; done)))⟩
